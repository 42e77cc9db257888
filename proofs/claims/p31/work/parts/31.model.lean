theorem ref0 {k : Int32} (h : k = 0 ∨ 0 < k) : (if 0 < k then (1 : Int32) else 0) = 0 ↔ k = 0 := by
  rcases h with h | h
  · subst h; decide
  · rw [if_pos h]
    exact ⟨fun z => absurd z (by decide), fun z => by rw [z] at h; exact absurd h (by decide)⟩
theorem ar_t {A B : Int32} (h : ¬ (if ¬ A = 0 ∧ ¬ B = 0 then (1 : Int32) else 0) = 0) : ¬ (A = 0 ∨ B = 0) := fun z => h (if_neg (fun y => z.elim y.1 y.2))
theorem ar_f {A B : Int32} (h : (if ¬ A = 0 ∧ ¬ B = 0 then (1 : Int32) else 0) = 0) : A = 0 ∨ B = 0 := by
  by_cases a : A = 0
  · exact Or.inl a
  · by_cases b : B = 0
    · exact Or.inr b
    · rw [if_pos ⟨a, b⟩] at h; exact absurd h (by decide)
theorem gd_t {P : Prop} [Decidable P] (h : ¬ (if P then (0 : Int32) else 1) = 0) : ¬ P := fun z => h (if_pos z)
theorem gd_f {P : Prop} [Decidable P] (h : (if P then (0 : Int32) else 1) = 0) : P := by
  by_cases z : P
  · exact z
  · rw [if_neg z] at h; exact absurd h (by decide)
theorem ev_t {A B : Int32} (h : ¬ (if A = 0 then 0 else B) = 0) : ¬ (A = 0 ∨ B = 0) := by
  intro z
  rcases z with z | z
  · exact h (if_pos z)
  · by_cases a : A = 0
    · exact h (if_pos a)
    · exact h (by rw [if_neg a]; exact z)
theorem ev_f {A B : Int32} (h : (if A = 0 then 0 else B) = 0) : A = 0 ∨ B = 0 := by
  by_cases a : A = 0
  · exact Or.inl a
  · rw [if_neg a] at h; exact Or.inr h
theorem kW_p (v lo hi : Int32) : kW v lo hi = 0 ∨ 0 < kW v lo hi := by unfold kW; (repeat' split) <;> first | exact Or.inl rfl | exact Or.inr (by decide)
theorem kRW_p (r : Rw) (u v lo hi : Int32) : kRW r u v lo hi = 0 ∨ 0 < kRW r u v lo hi := by unfold kRW; (repeat' split) <;> first | exact Or.inl rfl | exact Or.inr (by decide)
theorem kSW_p (r : Rw) (u v lo hi : Int32) : kSW r u v lo hi = 0 ∨ 0 < kSW r u v lo hi := by unfold kSW; (repeat' split) <;> first | exact Or.inl rfl | exact Or.inr (by decide)
theorem kOpen_p (r : Rw) (a b : Int32) : kOpen r a b = 0 ∨ 0 < kOpen r a b := by unfold kOpen; (repeat' split) <;> first | exact Or.inl rfl | exact Or.inr (by decide)
theorem kDoor_p (r : Rw) (a b : Int32) : kDoor r a b = 0 ∨ 0 < kDoor r a b := by unfold kDoor; (repeat' split) <;> first | exact Or.inl rfl | exact Or.inr (by decide)
theorem kSet_p (a b : Int32) : kSet a b = 0 ∨ 0 < kSet a b := by unfold kSet; (repeat' split) <;> first | exact Or.inl rfl | exact Or.inr (by decide)
theorem kPeak_p (r : Rw) (a b c : Int32) : kPeak r a b c = 0 ∨ 0 < kPeak r a b c := by unfold kPeak; (repeat' split) <;> first | exact Or.inl rfl | exact Or.inr (by decide)
theorem kASe_p (r : Rw) (a b c d e : Int32) : kASe r a b c d e = 0 ∨ 0 < kASe r a b c d e := by unfold kASe; (repeat' split) <;> first | exact Or.inl rfl | exact Or.inr (by decide)
theorem kARu_p (r : Rw) (k a b c : Int32) : kARu r k a b c = 0 ∨ 0 < kARu r k a b c := by unfold kARu; (repeat' split) <;> first | exact Or.inl rfl | exact Or.inr (by decide)
theorem kRem_p (r : Rw) (a : Int32) : kRem r a = 0 ∨ 0 < kRem r a := by unfold kRem; (repeat' split) <;> first | exact Or.inl rfl | exact Or.inr (by decide)
theorem kAEv_p (r : Rw) (m k a b : Int32) : kAEv r m k a b = 0 ∨ 0 < kAEv r m k a b := by unfold kAEv; (repeat' split) <;> first | exact Or.inl rfl | exact Or.inr (by decide)
theorem kUnd_p (n : Nat) : kUnd n = 0 ∨ 0 < kUnd n := by unfold kUnd; (repeat' split) <;> first | exact Or.inl rfl | exact Or.inr (by decide)
theorem kW_0 {v lo hi : Int32} (h : kW v lo hi = 0) : ¬ mWithI v lo hi = 0 := fun z => by unfold kW at h; rw [if_pos z] at h; exact absurd h (by decide)
theorem kRW_0 {r : Rw} {u v lo hi : Int32} (h : kRW r u v lo hi = 0) : ¬ mRoomI r u = 0 ∧ ¬ mWithI v lo hi = 0 := by
  unfold kRW at h
  by_cases a : mRoomI r u = 0
  · rw [if_pos a] at h; exact absurd h (by decide)
  · refine ⟨a, fun z => ?_⟩
    rw [if_neg a, if_pos z] at h; exact absurd h (by decide)
theorem kSW_0 {r : Rw} {u v lo hi : Int32} (h : kSW r u v lo hi = 0) : ¬ mSensI r u = 0 ∧ ¬ mWithI v lo hi = 0 := by
  unfold kSW at h
  by_cases a : mSensI r u = 0
  · rw [if_pos a] at h; exact absurd h (by decide)
  · refine ⟨a, fun z => ?_⟩
    rw [if_neg a, if_pos z] at h; exact absurd h (by decide)
theorem kOpen_0 {r : Rw} {a b : Int32} (h : kOpen r a b = 0) : ¬ (mPlacI r a = 0 ∨ mPlacI r b = 0) := fun z => by unfold kOpen at h; rw [if_pos z] at h; exact absurd h (by decide)
theorem kDoor_0 {r : Rw} {a b : Int32} (h : kDoor r a b = 0) : ¬ (mPlacI r a = 0 ∨ mPlacI r b = 0) ∧ ¬ a = b := by
  unfold kDoor at h
  by_cases p : mPlacI r a = 0 ∨ mPlacI r b = 0
  · rw [if_pos p] at h; exact absurd h (by decide)
  · refine ⟨p, fun z => ?_⟩
    rw [if_neg p, if_pos z] at h; exact absurd h (by decide)
theorem kSet_0 {a b : Int32} (h : kSet a b = 0) : ¬ mCanI a b = 0 := fun z => by unfold kSet at h; rw [if_pos z] at h; exact absurd h (by decide)
theorem kPeak_0 {r : Rw} {u o n : Int32} (h : kPeak r u o n = 0) : ¬ mRoomI r u = 0 ∧ ¬ (mWithI o 0 8 = 0 ∨ mWithI n 1 200 = 0) := by
  unfold kPeak at h
  by_cases a : mRoomI r u = 0
  · rw [if_pos a] at h; exact absurd h (by decide)
  · refine ⟨a, fun z => ?_⟩
    rw [if_neg a, if_pos z] at h; exact absurd h (by decide)
theorem kASe_0 {r : Rw} {a b c d e : Int32} (h : kASe r a b c d e = 0) : ¬ mRoomI r a = 0 ∧ ¬ (mWithI b 0 2 = 0 ∨ mWithI c 1 9999 = 0 ∨ mWithI d 0 9 = 0 ∨ mWithI e 1 3 = 0) ∧ ¬ r 10 = 8 := by
  unfold kASe at h
  by_cases p : mRoomI r a = 0
  · rw [if_pos p] at h; exact absurd h (by decide)
  · rw [if_neg p] at h
    by_cases q : mWithI b 0 2 = 0 ∨ mWithI c 1 9999 = 0 ∨ mWithI d 0 9 = 0 ∨ mWithI e 1 3 = 0
    · rw [if_pos q] at h; exact absurd h (by decide)
    · refine ⟨p, q, fun z => ?_⟩
      rw [if_neg q, if_pos z] at h; exact absurd h (by decide)
theorem kARu_0 {r : Rw} {k a b c : Int32} (h : kARu r k a b c = 0) : ¬ mRoomI r a = 0 ∧ ¬ (mWithI k 0 3 = 0 ∨ mWithI b 0 9999 = 0 ∨ mWithI c 0 8 = 0) ∧ ¬ r 11 = 8 := by
  unfold kARu at h
  by_cases p : mRoomI r a = 0
  · rw [if_pos p] at h; exact absurd h (by decide)
  · rw [if_neg p] at h
    by_cases q : mWithI k 0 3 = 0 ∨ mWithI b 0 9999 = 0 ∨ mWithI c 0 8 = 0
    · rw [if_pos q] at h; exact absurd h (by decide)
    · refine ⟨p, q, fun z => ?_⟩
      rw [if_neg q, if_pos z] at h; exact absurd h (by decide)
theorem kRem_0 {r : Rw} {u : Int32} (h : kRem r u = 0) : 0 ≤ u ∧ u < r 11 := by
  unfold kRem at h
  by_cases p : 0 ≤ u ∧ u < r 11
  · exact p
  · rw [if_neg p] at h; exact absurd h (by decide)
theorem kAEv_0 {r : Rw} {m k a b : Int32} (h : kAEv r m k a b = 0) : ¬ (mWithI m (r 7 + 1) (r 7 + 999) = 0 ∨ mEvtI r k a b = 0) ∧ ¬ r 12 = 20 := by
  unfold kAEv at h
  by_cases p : mWithI m (r 7 + 1) (r 7 + 999) = 0 ∨ mEvtI r k a b = 0
  · rw [if_pos p] at h; exact absurd h (by decide)
  · refine ⟨p, fun z => ?_⟩
    rw [if_neg p, if_pos z] at h; exact absurd h (by decide)
theorem kUnd_0 {n : Nat} (h : kUnd n = 0) : 1 ≤ n := by
  unfold kUnd at h
  by_cases p : n = 0
  · rw [if_pos p] at h; exact absurd h (by decide)
  · omega
/-- rules from a on are moved down by one, k ints of them done; the count is less already -/
def mDk (r : Rw) (a k : Nat) : Rw := fun j => if 113 + 4 * a ≤ j ∧ j < 113 + 4 * a + k then r (j + 4) else r j
theorem mDk_step (r : Rw) (a k : Nat) : upd (mDk r a k) (113 + 4 * a + k) (r (113 + 4 * a + k + 4)) = mDk r a (k + 1) := by
  funext j
  by_cases e : j = 113 + 4 * a + k
  · subst e
    rw [upd_eq]
    simp only [mDk]
    rw [if_pos (by omega)]
  · rw [upd_ne e]
    simp only [mDk]
    by_cases z : 113 + 4 * a ≤ j ∧ j < 113 + 4 * a + k
    · rw [if_pos z, if_pos (by omega)]
    · rw [if_neg z, if_neg (by omega)]
theorem mDk_0 (r : Rw) (a : Nat) : mDk r a 0 = r := by
  funext j
  simp only [mDk]
  rw [if_neg (by omega)]
theorem mDk_out {r : Rw} {a k j : Nat} (h : j < 113 + 4 * a ∨ 113 + 4 * a + k ≤ j) : mDk r a k j = r j := by
  simp only [mDk]
  rw [if_neg (by omega)]
theorem mDk_fin (r : Rw) {a n : Nat} (ha : a < n) (v : Int32) (hv : v = nI (n - 1)) : mDk (upd r 11 v) a (4 * (n - 1 - a)) = mDro r a n := by
  funext j
  unfold mDro
  by_cases e : j = 11
  · subst e
    rw [upd_eq, mDk_out (by omega), upd_eq, hv]
  · rw [upd_ne e]
    simp only [mDk, mDrR]
    by_cases z : 113 + 4 * a ≤ j ∧ j < 113 + 4 * (n - 1)
    · rw [if_pos (by omega), if_pos z, upd_ne (by omega)]
    · rw [if_neg (by omega), if_neg z, upd_ne e]
/-- event q is copied to the place behind it, k ints of it done -/
def mCp (c : Rw) (q k : Nat) : Rw := fun j => if 145 + 4 * (q + 1) ≤ j ∧ j < 145 + 4 * (q + 1) + k then c (j - 4) else c j
theorem mCp_0 (c : Rw) (q : Nat) : mCp c q 0 = c := by
  funext j
  simp only [mCp]
  rw [if_neg (by omega)]
theorem mCp_out {c : Rw} {q k j : Nat} (h : j < 145 + 4 * (q + 1) ∨ 145 + 4 * (q + 1) + k ≤ j) : mCp c q k j = c j := by
  simp only [mCp]
  rw [if_neg (by omega)]
theorem mCp_step (c : Rw) (q k : Nat) (hk : k < 4) : upd (mCp c q k) (145 + 4 * (q + 1) + k) (c (145 + 4 * q + k)) = mCp c q (k + 1) := by
  funext j
  by_cases e : j = 145 + 4 * (q + 1) + k
  · subst e
    rw [upd_eq]
    simp only [mCp]
    rw [if_pos (by omega), show 145 + 4 * (q + 1) + k - 4 = 145 + 4 * q + k by omega]
  · rw [upd_ne e]
    simp only [mCp]
    by_cases z : 145 + 4 * (q + 1) ≤ j ∧ j < 145 + 4 * (q + 1) + k
    · rw [if_pos z, if_pos (by omega)]
    · rw [if_neg z, if_neg (by omega)]
theorem mShU_top (r : Rw) (n : Nat) : mShU r n n = r := by
  funext j
  simp only [mShU]
  rw [if_neg (by omega)]
theorem mShU_down (r : Rw) (q n : Nat) (h : q < n) : mCp (mShU r (q + 1) n) q 4 = mShU r q n := by
  funext j
  simp only [mCp, mShU]
  by_cases z : 145 + 4 * (q + 1) ≤ j ∧ j < 145 + 4 * (q + 1) + 4
  · rw [if_pos z, if_neg (by omega), if_pos (by omega)]
  · rw [if_neg z]
    by_cases y : 145 + 4 * (q + 1 + 1) ≤ j ∧ j < 145 + 4 * (n + 1)
    · rw [if_pos y, if_pos (by omega)]
    · rw [if_neg y, if_neg (by omega)]
theorem num_lo (r : Rw) (w : Nat) (hw : w < 6) : mNum r (nI w) = r w := by
  have g : ∀ b : Nat, 6 ≤ b → b < 100 → ¬ nI w = nI b := fun b h1 h2 e => absurd ((nI_eq (by omega) (by omega)).mp e) (by omega)
  unfold mNum
  rw [if_neg (show ¬ nI w = (9 : Int32) from g 9 (by decide) (by decide)), if_neg (show ¬ nI w = (10 : Int32) from g 10 (by decide) (by decide)), if_neg (show ¬ nI w = (11 : Int32) from g 11 (by decide) (by decide)), if_neg (show ¬ nI w = (12 : Int32) from g 12 (by decide) (by decide)), if_neg (show ¬ nI w = (13 : Int32) from g 13 (by decide) (by decide)), if_neg (show ¬ nI w = (14 : Int32) from g 14 (by decide) (by decide)), cN_nI (by omega)]
