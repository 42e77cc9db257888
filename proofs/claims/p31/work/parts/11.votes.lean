set_option maxHeartbeats 4000000 in
set_option maxRecDepth 100000 in
theorem l_X6_votersIn {x : xC} (C : Cx x mX6_votersIn) {B : Nat} (hB : isW B) {r : Rw} (σ : xS) (τ : xT) (hR : Rel σ B r) {R ns nr ne t tl : Nat} (I : Inv r R ns nr ne t tl) (a : Int32) {Z : State → Prop} (kx : Y x 42 [some (.ref (B + 5)), some (.int a), some (.int (mVts r a ns)), some (.int (nI ns))] [] σ τ 0 0 Z) : ∀ n k : Nat, k + n = ns → Y x 4 [some (.ref (B + 5)), some (.int a), some (.int (mVts r a k)), some (.int (nI k))] [] σ τ 0 0 Z := by
  intro n
  induction n with
  | zero =>
    intro k hk
    refine y_iload_n C dX6_votersIn_4 rfl ?_
    refine y_aload_n C dX6_votersIn_5 rfl ?_
    refine gR_X6_count C hB hR dX6_votersIn_6 (by decide +kernel) (by decide +kernel) ?_
    refine y_icmp_ge (t := 42) C dX6_votersIn_9 (by decide) (fun c9 => ?_) (fun c9 => absurd (by rw [I.1.2.1.1, show k = ns by omega]; exact Int32.le_refl _) c9)
    obtain rfl : k = ns := by omega
    exact kx
  | succ n ih =>
    intro k hk
    refine y_iload_n C dX6_votersIn_4 rfl ?_
    refine y_aload_n C dX6_votersIn_5 rfl ?_
    refine gR_X6_count C hB hR dX6_votersIn_6 (by decide +kernel) (by decide +kernel) ?_
    refine y_icmp_ge (t := 42) C dX6_votersIn_9 (by decide) (fun c9 => absurd c9 (by rw [I.1.2.1.1]; exact nI_ge (by omega) (by have := I.1.2.1.2; omega))) (fun c9 => ?_)
    refine y_aload_n C dX6_votersIn_12 rfl ?_
    refine g_X6_room C hB dX6_votersIn_13 (by decide +kernel) (by decide +kernel) ?_
    refine y_iload_n C dX6_votersIn_16 rfl ?_
    refine aR C hB hR (57 + 7 * k + 0) 6 k 8 (pl_s _ (by have := I.1.2.1.2; omega) _ (by decide)) (lv_s (by have := I.1.2.1.2; omega) (by decide) (inv_s I (by omega))) (by decide) rfl (by decide) rfl (by have := I.1.2.1.2; omega) dX6_votersIn_17 ?_
    refine y_iload_n C dX6_votersIn_18 rfl ?_
    refine y_icmp_ne (t := 36) C dX6_votersIn_19 (by decide) (fun c19 => ?_) (fun c19 => ?_)
    · -- t
      refine y_iinc C dX6_votersIn_36 (L' := [_, _, _, _]) rfl (nI_1 k) rfl ?_
      refine y_goto (t := 4) C dX6_votersIn_39 (by decide) ?_
      have h9 := ih (k + 1) (by omega)
      first
        | (rw [show mVts r a (k + 1) = mVts r a k by simp only [mVts]; rw [if_neg (by simp_all)]] at h9; exact h9)
        | (rw [show mVts r a (k + 1) = mVts r a k ||| ((1 : Int32) <<< (nI k &&& 31)) by simp only [mVts]; rw [if_pos (by simp_all)]] at h9; exact h9)
    · -- f
      refine y_aload_n C dX6_votersIn_22 rfl ?_
      refine y_iload_n C dX6_votersIn_23 rfl ?_
      refine y_callVi C (e_X6_votes hB _ _ hR I k (by omega)) dX6_votersIn_24 rfl gX6_votersIn_X6_votes rfl (is_X6 hB) ⟨rfl, qX6_votes⟩ ⟨rfl, rfl⟩ ⟨Nat.le_of_ble_eq_true rfl, Nat.le_of_ble_eq_true rfl⟩ rfl (Nat.le_of_ble_eq_true rfl) ⟨Nat.zero_le _, Nat.zero_le _⟩ (fun v1 σ1 τ1 hq => ?_)
      obtain ⟨rfl, rfl, rfl⟩ := hq
      refine y_if_eq (t := 36) C dX6_votersIn_27 (by decide) (fun c27 => ?_) (fun c27 => ?_)
      · -- t
        refine y_iinc C dX6_votersIn_36 (L' := [_, _, _, _]) rfl (nI_1 k) rfl ?_
        refine y_goto (t := 4) C dX6_votersIn_39 (by decide) ?_
        have h9 := ih (k + 1) (by omega)
        first
          | (rw [show mVts r a (k + 1) = mVts r a k by simp only [mVts]; rw [if_neg (by simp_all)]] at h9; exact h9)
          | (rw [show mVts r a (k + 1) = mVts r a k ||| ((1 : Int32) <<< (nI k &&& 31)) by simp only [mVts]; rw [if_pos (by simp_all)]] at h9; exact h9)
      · -- f
        refine y_iload_n C dX6_votersIn_30 rfl ?_
        refine y_iconst (v := 1) C dX6_votersIn_31 (by decide) ?_
        refine y_iload_n C dX6_votersIn_32 rfl ?_
        refine y_ishl C dX6_votersIn_33 ?_
        refine y_ior C dX6_votersIn_34 ?_
        refine y_istore_n C dX6_votersIn_35 (L' := [_, _, _, _]) (Nat.lt_of_lt_of_le (by decide : (2 : Nat) < 4) (Nat.le_refl _)) rfl ?_
        refine y_iinc C dX6_votersIn_36 (L' := [_, _, _, _]) rfl (nI_1 k) rfl ?_
        refine y_goto (t := 4) C dX6_votersIn_39 (by decide) ?_
        have h9 := ih (k + 1) (by omega)
        first
          | (rw [show mVts r a (k + 1) = mVts r a k by simp only [mVts]; rw [if_neg (by simp_all)]] at h9; exact h9)
          | (rw [show mVts r a (k + 1) = mVts r a k ||| ((1 : Int32) <<< (nI k &&& 31)) by simp only [mVts]; rw [if_pos (by simp_all)]] at h9; exact h9)
set_option maxHeartbeats 4000000 in
set_option maxRecDepth 100000 in
theorem e_X6_votersIn {B : Nat} (hB : isW B) {r : Rw} (σ : xS) (τ : xT) (hR : Rel σ B r) {R ns nr ne t tl : Nat} (I : Inv r R ns nr ne t tl) (a : Int32) : Xi mX6_votersIn [.ref (B + 5), .int a] σ τ (fun o σ1 τ1 => o = (mVts r a ns) ∧ σ = σ1 ∧ τ = τ1) := by
  refine Xi_mk (L := [some (.ref (B + 5)), some (.int a), none, none]) (by decide) rfl (Nat.le_of_ble_eq_true rfl) rfl (fun x C => ?_)
  refine y_iconst (v := 0) C dX6_votersIn_0 (by decide) ?_
  refine y_istore_n C dX6_votersIn_1 (L' := [_, _, _, _]) (Nat.lt_of_lt_of_le (by decide : (2 : Nat) < 4) (Nat.le_refl _)) rfl ?_
  refine y_iconst (v := 0) C dX6_votersIn_2 (by decide) ?_
  refine y_istore_n C dX6_votersIn_3 (L' := [_, _, _, _]) (Nat.lt_of_lt_of_le (by decide : (3 : Nat) < 4) (Nat.le_refl _)) rfl ?_
  exact l_X6_votersIn C hB σ τ hR I a (by
    refine y_iload_n C dX6_votersIn_42 rfl ?_
    exact y_iret C rfl dX6_votersIn_43 ⟨rfl, rfl, rfl⟩) _ 0 (Nat.zero_add _)
theorem bit_and8 : ∀ m, m < 256 → ∀ k, k < 8 → ((nI m >>> (nI k &&& 31)) &&& 1 = 1 ↔ ¬ nI m &&& ((1 : Int32) <<< (nI k &&& 31)) = 0) := by decide +kernel
theorem bit_and {a : Int32} (ha : ∃ m, m < 256 ∧ a = nI m) (k : Nat) (hk : k < 8) : ((a >>> (nI k &&& 31)) &&& 1 = 1 ↔ ¬ a &&& ((1 : Int32) <<< (nI k &&& 31)) = 0) := by
  obtain ⟨m, hm, rfl⟩ := ha
  exact bit_and8 m hm k hk
theorem bit_or8 : ∀ m, m < 256 → ∀ k, k < 8 → nI m ||| ((1 : Int32) <<< (nI k &&& 31)) = nI (m ||| 2 ^ k) := by decide +kernel
theorem mVts_small (r : Rw) (a : Int32) : ∀ n, n ≤ 8 → ∃ m, m < 2 ^ n ∧ mVts r a n = nI m := by
  intro n
  induction n with
  | zero => intro _; exact ⟨0, by decide, rfl⟩
  | succ n ih =>
    intro h
    obtain ⟨m, hm, e⟩ := ih (by omega)
    have h2 : 2 ^ n ≤ 2 ^ 8 := Nat.pow_le_pow_right (by decide) (by omega)
    have h3 : (2 : Nat) ^ n < 2 ^ (n + 1) := by rw [Nat.pow_succ]; omega
    simp only [mVts]
    split
    · exact ⟨m ||| 2 ^ n, Nat.or_lt_two_pow (by omega) h3, by rw [e]; exact bit_or8 m (by omega) n (by omega)⟩
    · exact ⟨m, by omega, e⟩
theorem mVts_256 {r : Rw} {R ns nr ne t tl : Nat} (I : Inv r R ns nr ne t tl) (a : Int32) : ∃ m, m < 256 ∧ mVts r a ns = nI m := by
  have h := I.1.2.1.2
  obtain ⟨m, hm, e⟩ := mVts_small r a ns h
  have h2 : 2 ^ ns ≤ 2 ^ 8 := Nat.pow_le_pow_right (by decide) h
  exact ⟨m, by omega, e⟩
set_option maxHeartbeats 4000000 in
set_option maxRecDepth 100000 in
theorem l_X6_weightOf {x : xC} (C : Cx x mX6_weightOf) {B : Nat} (hB : isW B) {r : Rw} (σ : xS) (τ : xT) (hR : Rel σ B r) {R ns nr ne t tl : Nat} (I : Inv r R ns nr ne t tl) (a : Int32) (ha : ∃ m, m < 256 ∧ a = nI m) {Z : State → Prop} (kx : Y x 35 [some (.ref (B + 5)), some (.int a), some (.int (mWei r a ns)), some (.int (nI ns))] [] σ τ 0 0 Z) : ∀ n k : Nat, k + n = ns → Y x 4 [some (.ref (B + 5)), some (.int a), some (.int (mWei r a k)), some (.int (nI k))] [] σ τ 0 0 Z := by
  intro n
  induction n with
  | zero =>
    intro k hk
    refine y_iload_n C dX6_weightOf_4 rfl ?_
    refine y_aload_n C dX6_weightOf_5 rfl ?_
    refine gR_X6_count C hB hR dX6_weightOf_6 (by decide +kernel) (by decide +kernel) ?_
    refine y_icmp_ge (t := 35) C dX6_weightOf_9 (by decide) (fun c9 => ?_) (fun c9 => absurd (by rw [I.1.2.1.1, show k = ns by omega]; exact Int32.le_refl _) c9)
    obtain rfl : k = ns := by omega
    exact kx
  | succ n ih =>
    intro k hk
    refine y_iload_n C dX6_weightOf_4 rfl ?_
    refine y_aload_n C dX6_weightOf_5 rfl ?_
    refine gR_X6_count C hB hR dX6_weightOf_6 (by decide +kernel) (by decide +kernel) ?_
    refine y_icmp_ge (t := 35) C dX6_weightOf_9 (by decide) (fun c9 => absurd c9 (by rw [I.1.2.1.1]; exact nI_ge (by omega) (by have := I.1.2.1.2; omega))) (fun c9 => ?_)
    refine y_iload_n C dX6_weightOf_12 rfl ?_
    refine y_iconst (v := 1) C dX6_weightOf_13 (by decide) ?_
    refine y_iload_n C dX6_weightOf_14 rfl ?_
    refine y_ishl C dX6_weightOf_15 ?_
    refine y_iand C dX6_weightOf_16 ?_
    refine y_if_eq (t := 29) C dX6_weightOf_17 (by decide) (fun c17 => ?_) (fun c17 => ?_)
    · -- t
      refine y_iinc C dX6_weightOf_29 (L' := [_, _, _, _]) rfl (nI_1 k) rfl ?_
      refine y_goto (t := 4) C dX6_weightOf_32 (by decide) ?_
      have h9 := ih (k + 1) (by omega)
      first
        | (rw [show mWei r a (k + 1) = mWei r a k by simp only [mWei]; rw [if_neg (fun q => by have := (bit_and ha k (by have := I.1.2.1.2; omega)).mp q; simp_all), Int32.add_zero]] at h9; exact h9)
        | (rw [show mWei r a (k + 1) = mWei r a k + r (57 + 7 * k + 4) by simp only [mWei]; rw [if_pos ((bit_and ha k (by have := I.1.2.1.2; omega)).mpr (by simp_all))]] at h9; exact h9)
    · -- f
      refine y_iload_n C dX6_weightOf_20 rfl ?_
      refine y_aload_n C dX6_weightOf_21 rfl ?_
      refine g_X6_weight C hB dX6_weightOf_22 (by decide +kernel) (by decide +kernel) ?_
      refine y_iload_n C dX6_weightOf_25 rfl ?_
      refine aR C hB hR (57 + 7 * k + 4) 10 k 8 (pl_s _ (by have := I.1.2.1.2; omega) _ (by decide)) (lv_s (by have := I.1.2.1.2; omega) (by decide) (inv_s I (by omega))) (by decide) rfl (by decide) rfl (by have := I.1.2.1.2; omega) dX6_weightOf_26 ?_
      refine y_iadd C dX6_weightOf_27 ?_
      refine y_istore_n C dX6_weightOf_28 (L' := [_, _, _, _]) (Nat.lt_of_lt_of_le (by decide : (2 : Nat) < 4) (Nat.le_refl _)) rfl ?_
      refine y_iinc C dX6_weightOf_29 (L' := [_, _, _, _]) rfl (nI_1 k) rfl ?_
      refine y_goto (t := 4) C dX6_weightOf_32 (by decide) ?_
      have h9 := ih (k + 1) (by omega)
      first
        | (rw [show mWei r a (k + 1) = mWei r a k by simp only [mWei]; rw [if_neg (fun q => by have := (bit_and ha k (by have := I.1.2.1.2; omega)).mp q; simp_all), Int32.add_zero]] at h9; exact h9)
        | (rw [show mWei r a (k + 1) = mWei r a k + r (57 + 7 * k + 4) by simp only [mWei]; rw [if_pos ((bit_and ha k (by have := I.1.2.1.2; omega)).mpr (by simp_all))]] at h9; exact h9)
set_option maxHeartbeats 4000000 in
set_option maxRecDepth 100000 in
theorem e_X6_weightOf {B : Nat} (hB : isW B) {r : Rw} (σ : xS) (τ : xT) (hR : Rel σ B r) {R ns nr ne t tl : Nat} (I : Inv r R ns nr ne t tl) (a : Int32) (ha : ∃ m, m < 256 ∧ a = nI m) : Xi mX6_weightOf [.ref (B + 5), .int a] σ τ (fun o σ1 τ1 => o = (mWei r a ns) ∧ σ = σ1 ∧ τ = τ1) := by
  refine Xi_mk (L := [some (.ref (B + 5)), some (.int a), none, none]) (by decide) rfl (Nat.le_of_ble_eq_true rfl) rfl (fun x C => ?_)
  refine y_iconst (v := 0) C dX6_weightOf_0 (by decide) ?_
  refine y_istore_n C dX6_weightOf_1 (L' := [_, _, _, _]) (Nat.lt_of_lt_of_le (by decide : (2 : Nat) < 4) (Nat.le_refl _)) rfl ?_
  refine y_iconst (v := 0) C dX6_weightOf_2 (by decide) ?_
  refine y_istore_n C dX6_weightOf_3 (L' := [_, _, _, _]) (Nat.lt_of_lt_of_le (by decide : (3 : Nat) < 4) (Nat.le_refl _)) rfl ?_
  exact l_X6_weightOf C hB σ τ hR I a ha (by
    refine y_iload_n C dX6_weightOf_35 rfl ?_
    exact y_iret C rfl dX6_weightOf_36 ⟨rfl, rfl, rfl⟩) _ 0 (Nat.zero_add _)
