/-! THE MODEL'S FACE -/
theorem mS_5 : ∀ a : Nat, a = 165 → mS a := fun a h => by show 165 ≤ a ∧ a < 170; omega
theorem mS_6 : ∀ a : Nat, a = 166 → mS a := fun a h => by show 165 ≤ a ∧ a < 170; omega
theorem mS_57 : ∀ a : Nat, a = 165 ∨ a = 167 → mS a := fun a h => by show 165 ≤ a ∧ a < 170; omega
theorem mS_8 : ∀ a : Nat, a = 168 → mS a := fun a h => by show 165 ≤ a ∧ a < 170; omega
theorem mS_69 : ∀ a : Nat, a = 166 ∨ a = 169 → mS a := fun a h => by show 165 ≤ a ∧ a < 170; omega
theorem mS_689 : ∀ a : Nat, a = 166 ∨ a = 168 ∨ a = 169 → mS a := fun a h => by show 165 ≤ a ∧ a < 170; omega
theorem ref0 {k : Int32} (h : k = 0 ∨ 0 < k) : (if 0 < k then (1 : Int32) else 0) = 0 ↔ k = 0 := by
  rcases h with h | h
  · subst h; decide
  · rw [if_pos h]
    exact ⟨fun z => absurd z (by decide), fun z => by rw [z] at h; exact absurd h (by decide)⟩
theorem ar_t {A B : Int32} (h : ¬ (if ¬ A = 0 ∧ ¬ B = 0 then (1 : Int32) else 0) = 0) : ¬ (A = 0 ∨ B = 0) := fun z => h (if_neg (fun y => z.elim y.1 y.2))
theorem ar_f {A B : Int32} (h : (if ¬ A = 0 ∧ ¬ B = 0 then (1 : Int32) else 0) = 0) : A = 0 ∨ B = 0 := by
  by_cases a : A = 0
  · exact Or.inl a
  · by_cases b : B = 0
    · exact Or.inr b
    · rw [if_pos ⟨a, b⟩] at h; exact absurd h (by decide)
theorem gd_t {P : Prop} [Decidable P] (h : ¬ (if P then (0 : Int32) else 1) = 0) : ¬ P := fun z => h (if_pos z)
theorem gd_f {P : Prop} [Decidable P] (h : (if P then (0 : Int32) else 1) = 0) : P := by
  by_cases z : P
  · exact z
  · rw [if_neg z] at h; exact absurd h (by decide)
theorem ev_t {A B : Int32} (h : ¬ (if A = 0 then 0 else B) = 0) : ¬ (A = 0 ∨ B = 0) := by
  intro z
  rcases z with z | z
  · exact h (if_pos z)
  · by_cases a : A = 0
    · exact h (if_pos a)
    · exact h (by rw [if_neg a]; exact z)
theorem ev_f {A B : Int32} (h : (if A = 0 then 0 else B) = 0) : A = 0 ∨ B = 0 := by
  by_cases a : A = 0
  · exact Or.inl a
  · rw [if_neg a] at h; exact Or.inr h
theorem kW_p (v lo hi : Int32) : kW v lo hi = 0 ∨ 0 < kW v lo hi := by unfold kW; (repeat' split) <;> first | exact Or.inl rfl | exact Or.inr (by decide)
theorem kRW_p (r : Rw) (u v lo hi : Int32) : kRW r u v lo hi = 0 ∨ 0 < kRW r u v lo hi := by unfold kRW; (repeat' split) <;> first | exact Or.inl rfl | exact Or.inr (by decide)
theorem kSW_p (r : Rw) (u v lo hi : Int32) : kSW r u v lo hi = 0 ∨ 0 < kSW r u v lo hi := by unfold kSW; (repeat' split) <;> first | exact Or.inl rfl | exact Or.inr (by decide)
theorem kOpen_p (r : Rw) (a b : Int32) : kOpen r a b = 0 ∨ 0 < kOpen r a b := by unfold kOpen; (repeat' split) <;> first | exact Or.inl rfl | exact Or.inr (by decide)
theorem kDoor_p (r : Rw) (a b : Int32) : kDoor r a b = 0 ∨ 0 < kDoor r a b := by unfold kDoor; (repeat' split) <;> first | exact Or.inl rfl | exact Or.inr (by decide)
theorem kSet_p (a b : Int32) : kSet a b = 0 ∨ 0 < kSet a b := by unfold kSet; (repeat' split) <;> first | exact Or.inl rfl | exact Or.inr (by decide)
theorem kPeak_p (r : Rw) (a b c : Int32) : kPeak r a b c = 0 ∨ 0 < kPeak r a b c := by unfold kPeak; (repeat' split) <;> first | exact Or.inl rfl | exact Or.inr (by decide)
theorem kASe_p (r : Rw) (a b c d e : Int32) : kASe r a b c d e = 0 ∨ 0 < kASe r a b c d e := by unfold kASe; (repeat' split) <;> first | exact Or.inl rfl | exact Or.inr (by decide)
theorem kARu_p (r : Rw) (k a b c : Int32) : kARu r k a b c = 0 ∨ 0 < kARu r k a b c := by unfold kARu; (repeat' split) <;> first | exact Or.inl rfl | exact Or.inr (by decide)
theorem kRem_p (r : Rw) (a : Int32) : kRem r a = 0 ∨ 0 < kRem r a := by unfold kRem; (repeat' split) <;> first | exact Or.inl rfl | exact Or.inr (by decide)
theorem kAEv_p (r : Rw) (m k a b : Int32) : kAEv r m k a b = 0 ∨ 0 < kAEv r m k a b := by unfold kAEv; (repeat' split) <;> first | exact Or.inl rfl | exact Or.inr (by decide)
theorem kUnd_p (n : Nat) : kUnd n = 0 ∨ 0 < kUnd n := by unfold kUnd; (repeat' split) <;> first | exact Or.inl rfl | exact Or.inr (by decide)
theorem kW_0 {v lo hi : Int32} (h : kW v lo hi = 0) : ¬ mWithI v lo hi = 0 := fun z => by unfold kW at h; rw [if_pos z] at h; exact absurd h (by decide)
theorem kRW_0 {r : Rw} {u v lo hi : Int32} (h : kRW r u v lo hi = 0) : ¬ mRoomI r u = 0 ∧ ¬ mWithI v lo hi = 0 := by
  unfold kRW at h
  by_cases a : mRoomI r u = 0
  · rw [if_pos a] at h; exact absurd h (by decide)
  · refine ⟨a, fun z => ?_⟩
    rw [if_neg a, if_pos z] at h; exact absurd h (by decide)
theorem kSW_0 {r : Rw} {u v lo hi : Int32} (h : kSW r u v lo hi = 0) : ¬ mSensI r u = 0 ∧ ¬ mWithI v lo hi = 0 := by
  unfold kSW at h
  by_cases a : mSensI r u = 0
  · rw [if_pos a] at h; exact absurd h (by decide)
  · refine ⟨a, fun z => ?_⟩
    rw [if_neg a, if_pos z] at h; exact absurd h (by decide)
theorem kOpen_0 {r : Rw} {a b : Int32} (h : kOpen r a b = 0) : ¬ (mPlacI r a = 0 ∨ mPlacI r b = 0) := fun z => by unfold kOpen at h; rw [if_pos z] at h; exact absurd h (by decide)
theorem kDoor_0 {r : Rw} {a b : Int32} (h : kDoor r a b = 0) : ¬ (mPlacI r a = 0 ∨ mPlacI r b = 0) ∧ ¬ a = b := by
  unfold kDoor at h
  by_cases p : mPlacI r a = 0 ∨ mPlacI r b = 0
  · rw [if_pos p] at h; exact absurd h (by decide)
  · refine ⟨p, fun z => ?_⟩
    rw [if_neg p, if_pos z] at h; exact absurd h (by decide)
theorem kSet_0 {a b : Int32} (h : kSet a b = 0) : ¬ mCanI a b = 0 := fun z => by unfold kSet at h; rw [if_pos z] at h; exact absurd h (by decide)
theorem kPeak_0 {r : Rw} {u o n : Int32} (h : kPeak r u o n = 0) : ¬ mRoomI r u = 0 ∧ ¬ (mWithI o 0 8 = 0 ∨ mWithI n 1 200 = 0) := by
  unfold kPeak at h
  by_cases a : mRoomI r u = 0
  · rw [if_pos a] at h; exact absurd h (by decide)
  · refine ⟨a, fun z => ?_⟩
    rw [if_neg a, if_pos z] at h; exact absurd h (by decide)
theorem kASe_0 {r : Rw} {a b c d e : Int32} (h : kASe r a b c d e = 0) : ¬ mRoomI r a = 0 ∧ ¬ (mWithI b 0 2 = 0 ∨ mWithI c 1 9999 = 0 ∨ mWithI d 0 9 = 0 ∨ mWithI e 1 3 = 0) ∧ ¬ r 10 = 8 := by
  unfold kASe at h
  by_cases p : mRoomI r a = 0
  · rw [if_pos p] at h; exact absurd h (by decide)
  · rw [if_neg p] at h
    by_cases q : mWithI b 0 2 = 0 ∨ mWithI c 1 9999 = 0 ∨ mWithI d 0 9 = 0 ∨ mWithI e 1 3 = 0
    · rw [if_pos q] at h; exact absurd h (by decide)
    · refine ⟨p, q, fun z => ?_⟩
      rw [if_neg q, if_pos z] at h; exact absurd h (by decide)
theorem kARu_0 {r : Rw} {k a b c : Int32} (h : kARu r k a b c = 0) : ¬ mRoomI r a = 0 ∧ ¬ (mWithI k 0 3 = 0 ∨ mWithI b 0 9999 = 0 ∨ mWithI c 0 8 = 0) ∧ ¬ r 11 = 8 := by
  unfold kARu at h
  by_cases p : mRoomI r a = 0
  · rw [if_pos p] at h; exact absurd h (by decide)
  · rw [if_neg p] at h
    by_cases q : mWithI k 0 3 = 0 ∨ mWithI b 0 9999 = 0 ∨ mWithI c 0 8 = 0
    · rw [if_pos q] at h; exact absurd h (by decide)
    · refine ⟨p, q, fun z => ?_⟩
      rw [if_neg q, if_pos z] at h; exact absurd h (by decide)
theorem kRem_0 {r : Rw} {u : Int32} (h : kRem r u = 0) : 0 ≤ u ∧ u < r 11 := by
  unfold kRem at h
  by_cases p : 0 ≤ u ∧ u < r 11
  · exact p
  · rw [if_neg p] at h; exact absurd h (by decide)
theorem kAEv_0 {r : Rw} {m k a b : Int32} (h : kAEv r m k a b = 0) : ¬ (mWithI m (r 7 + 1) (r 7 + 999) = 0 ∨ mEvtI r k a b = 0) ∧ ¬ r 12 = 20 := by
  unfold kAEv at h
  by_cases p : mWithI m (r 7 + 1) (r 7 + 999) = 0 ∨ mEvtI r k a b = 0
  · rw [if_pos p] at h; exact absurd h (by decide)
  · refine ⟨p, fun z => ?_⟩
    rw [if_neg p, if_pos z] at h; exact absurd h (by decide)
theorem kUnd_0 {n : Nat} (h : kUnd n = 0) : 1 ≤ n := by
  unfold kUnd at h
  by_cases p : n = 0
  · rw [if_pos p] at h; exact absurd h (by decide)
  · omega
theorem e_X9_isRoomR (σ : xS) (τ : xT) {r : Rw} (hM : σ 166 = r) {R ns nr ne t tl : Nat} (I : Inv r R ns nr ne t tl) (u : Int32) : Xi mX9_isRoom [.ref 165, .int u] σ τ (fun o σ1 τ1 => o = mRoomI r u ∧ σ = σ1 ∧ τ = τ1) :=
  Xi_mono (e_X9_isRoom σ τ hM u) (fun v σ1 τ1 h => ⟨by
    rw [h.1, I.1.1.1, with_pred (by have := I.1.1.2.2; omega) u]
    unfold mRoomI
    rw [I.1.1.1], h.2⟩)
theorem RecM.k6 {σ σ1 : xS} {kp : Nat} {qs : Nat → Rw} (h : RecM σ kp qs) (hF : Fr (fun a => a = 166) σ σ1) : RecM σ1 kp qs := h.kept hF (by decide) (by decide)
theorem RecM.k69 {σ σ1 : xS} {kp : Nat} {qs : Nat → Rw} (h : RecM σ kp qs) (hF : Fr (fun a => a = 166 ∨ a = 169) σ σ1) : RecM σ1 kp qs := h.kept hF (by decide) (by decide)
theorem RecM.k8 {σ σ1 : xS} {kp : Nat} {qs : Nat → Rw} (h : RecM σ kp qs) (hF : Fr (fun a => a = 168) σ σ1) : RecM σ1 kp qs := h.kept hF (by decide) (by decide)
theorem RecM.k689 {σ σ1 : xS} {kp : Nat} {qs : Nat → Rw} (h : RecM σ kp qs) (hF : Fr (fun a => a = 166 ∨ a = 168 ∨ a = 169) σ σ1) : RecM σ1 kp qs := h.kept hF (by decide) (by decide)
def QM (k a : Int32) (σ : xS) (τ : xT) (r : Rw) (kp : Nat) (qs : Nat → Rw) (r1 : Rw) (kp1 : Nat) (qs1 : Nat → Rw) (v : Int32) (σ1 : xS) (τ1 : xT) : Prop := σ1 165 4 = k ∧ ((k = 0 ∧ v = a ∧ Md σ σ1 τ τ1 r1 kp1 qs1) ∨ (¬ k = 0 ∧ Md σ σ1 τ τ1 r kp qs))
/-- rules from a on are moved down by one, k ints of them done; the count is less already -/
def mDk (r : Rw) (a k : Nat) : Rw := fun j => if 113 + 4 * a ≤ j ∧ j < 113 + 4 * a + k then r (j + 4) else r j
theorem mDk_step (r : Rw) (a k : Nat) : upd (mDk r a k) (113 + 4 * a + k) (r (113 + 4 * a + k + 4)) = mDk r a (k + 1) := by
  funext j
  by_cases e : j = 113 + 4 * a + k
  · subst e
    rw [upd_eq]
    simp only [mDk]
    rw [if_pos (by omega)]
  · rw [upd_ne e]
    simp only [mDk]
    by_cases z : 113 + 4 * a ≤ j ∧ j < 113 + 4 * a + k
    · rw [if_pos z, if_pos (by omega)]
    · rw [if_neg z, if_neg (by omega)]
theorem mDk_0 (r : Rw) (a : Nat) : mDk r a 0 = r := by
  funext j
  simp only [mDk]
  rw [if_neg (by omega)]
theorem mDk_out {r : Rw} {a k j : Nat} (h : j < 113 + 4 * a ∨ 113 + 4 * a + k ≤ j) : mDk r a k j = r j := by
  simp only [mDk]
  rw [if_neg (by omega)]
theorem mDk_fin (r : Rw) {a n : Nat} (ha : a < n) (v : Int32) (hv : v = nI (n - 1)) : mDk (upd r 11 v) a (4 * (n - 1 - a)) = mDro r a n := by
  funext j
  unfold mDro
  by_cases e : j = 11
  · subst e
    rw [upd_eq, mDk_out (by omega), upd_eq, hv]
  · rw [upd_ne e]
    simp only [mDk, mDrR]
    by_cases z : 113 + 4 * a ≤ j ∧ j < 113 + 4 * (n - 1)
    · rw [if_pos (by omega), if_pos z, upd_ne (by omega)]
    · rw [if_neg (by omega), if_neg z, upd_ne e]
/-- event q is copied to the place behind it, k ints of it done -/
def mCp (c : Rw) (q k : Nat) : Rw := fun j => if 145 + 4 * (q + 1) ≤ j ∧ j < 145 + 4 * (q + 1) + k then c (j - 4) else c j
theorem mCp_0 (c : Rw) (q : Nat) : mCp c q 0 = c := by
  funext j
  simp only [mCp]
  rw [if_neg (by omega)]
theorem mCp_out {c : Rw} {q k j : Nat} (h : j < 145 + 4 * (q + 1) ∨ 145 + 4 * (q + 1) + k ≤ j) : mCp c q k j = c j := by
  simp only [mCp]
  rw [if_neg (by omega)]
theorem mCp_step (c : Rw) (q k : Nat) (hk : k < 4) : upd (mCp c q k) (145 + 4 * (q + 1) + k) (c (145 + 4 * q + k)) = mCp c q (k + 1) := by
  funext j
  by_cases e : j = 145 + 4 * (q + 1) + k
  · subst e
    rw [upd_eq]
    simp only [mCp]
    rw [if_pos (by omega), show 145 + 4 * (q + 1) + k - 4 = 145 + 4 * q + k by omega]
  · rw [upd_ne e]
    simp only [mCp]
    by_cases z : 145 + 4 * (q + 1) ≤ j ∧ j < 145 + 4 * (q + 1) + k
    · rw [if_pos z, if_pos (by omega)]
    · rw [if_neg z, if_neg (by omega)]
theorem mShU_top (r : Rw) (n : Nat) : mShU r n n = r := by
  funext j
  simp only [mShU]
  rw [if_neg (by omega)]
theorem mShU_down (r : Rw) (q n : Nat) (h : q < n) : mCp (mShU r (q + 1) n) q 4 = mShU r q n := by
  funext j
  simp only [mCp, mShU]
  by_cases z : 145 + 4 * (q + 1) ≤ j ∧ j < 145 + 4 * (q + 1) + 4
  · rw [if_pos z, if_neg (by omega), if_pos (by omega)]
  · rw [if_neg z]
    by_cases y : 145 + 4 * (q + 1 + 1) ≤ j ∧ j < 145 + 4 * (n + 1)
    · rw [if_pos y, if_pos (by omega)]
    · rw [if_neg y, if_neg (by omega)]
theorem num_lo (r : Rw) (w : Nat) (hw : w < 6) : mNum r (nI w) = r w := by
  have g : ∀ b : Nat, 6 ≤ b → b < 100 → ¬ nI w = nI b := fun b h1 h2 e => absurd ((nI_eq (by omega) (by omega)).mp e) (by omega)
  unfold mNum
  rw [if_neg (show ¬ nI w = (9 : Int32) from g 9 (by decide) (by decide)), if_neg (show ¬ nI w = (10 : Int32) from g 10 (by decide) (by decide)), if_neg (show ¬ nI w = (11 : Int32) from g 11 (by decide) (by decide)), if_neg (show ¬ nI w = (12 : Int32) from g 12 (by decide) (by decide)), if_neg (show ¬ nI w = (13 : Int32) from g 13 (by decide) (by decide)), if_neg (show ¬ nI w = (14 : Int32) from g 14 (by decide) (by decide)), cN_nI (by omega)]

set_option maxHeartbeats 4000000 in
set_option maxRecDepth 100000 in
theorem e_X9_puts (σ : xS) (τ : xT) {r : Rw} {kp : Nat} {qs : Nat → Rw} (hM : σ 166 = r) (hC : RecM σ kp qs) (hk : kp ≤ 4) (j : Nat) (hj : j < 225) (v : Int32) : Xi mX9_puts [.ref 165, .int (nI j), .int v] σ τ (fun o σ1 τ1 => o = r j ∧ σ1 166 = upd r j v ∧ RecM σ1 (kK kp) (kQ kp qs r) ∧ σ1 165 4 = σ 165 4 ∧ Fr mS σ σ1 ∧ τ = τ1) := by
  refine Xi_mk (L := [some (.ref 165), some (.int (nI j)), some (.int v), none]) (by decide) rfl (Nat.le_of_ble_eq_true rfl) rfl (fun x C => ?_)
  refine y_aload_n C dX9_puts_0 rfl ?_
  refine g_X9_now C dX9_puts_1 (by decide +kernel) (by decide +kernel) ?_
  refine y_iload_n C dX9_puts_4 rfl ?_
  refine mA C hM j rfl hj dX9_puts_5 ?_
  refine y_istore_n C dX9_puts_6 (L' := [_, _, _, _]) (Nat.lt_of_lt_of_le (by decide : (3 : Nat) < 4) (Nat.le_refl _)) rfl ?_
  refine y_aload_n C dX9_puts_7 rfl ?_
  refine y_callVv C (e_savesR _ _ hk hC hM) dX9_puts_8 rfl gX9_puts_X9_saves rfl (is_X9) ⟨rfl, qX9_saves⟩ ⟨rfl, rfl⟩ ⟨Nat.le_of_ble_eq_true rfl, Nat.le_of_ble_eq_true rfl⟩ rfl (Nat.le_of_ble_eq_true rfl) ⟨Nat.zero_le _, Nat.zero_le _⟩ (fun σ2 τ2 hq => ?_)
  obtain ⟨hC2, hM2, hr2, hF2, rfl⟩ := hq
  refine y_aload_n C dX9_puts_11 rfl ?_
  refine g_X9_now C dX9_puts_12 (by decide +kernel) (by decide +kernel) ?_
  refine y_iload_n C dX9_puts_15 rfl ?_
  refine y_iload_n C dX9_puts_16 rfl ?_
  refine mW C hM2 j rfl hj dX9_puts_17 (fun σ3 hM3 hF3 => ?_)
  refine y_iload_n C dX9_puts_18 rfl ?_
  exact y_iret C rfl dX9_puts_19 (⟨rfl, hM3, hC2.k6 hF3, by rw [hF3 165 (by decide)]; exact hr2, (hF2.mono mS_57).trans (hF3.mono mS_6), rfl⟩)
set_option maxHeartbeats 4000000 in
set_option maxRecDepth 100000 in
theorem e_X9_begin (σ : xS) (τ : xT) {r : Rw} {R ns nr ne t kp : Nat} {qs : Nat → Rw} (hM : σ 166 = r) (hC : RecM σ kp qs) (hk : kp ≤ 4) (I : Inv r R ns nr ne t (t + 1)) (u : Int32) : Xi mX9_begin [.ref 165, .int u] σ τ (QM (kW u 1 4) (r 6) σ τ r kp qs (mBeg u) ((kK kp)) ((kQ kp qs r))) := by
  have hR4 := I.1.1.2
  have hs8 := I.1.2.1.2
  have hr8 := I.1.2.2.1.2
  have he20 := I.1.2.2.2.1.2
  refine Xi_mk (L := [some (.ref 165), some (.int u), none]) (by decide) rfl (Nat.le_of_ble_eq_true rfl) rfl (fun x C => ?_)
  refine y_aload_n C dX9_begin_0 rfl ?_
  refine y_join (t := 15) (v := .int (kW u 1 4)) ?_ (fun K1 => ?_)
  ·
    refine y_callVi C (e_X9_refused _ _ hM hC _) dX9_begin_15 rfl gX9_begin_X9_refused rfl (is_X9) ⟨rfl, qX9_refused⟩ ⟨rfl, rfl⟩ ⟨Nat.le_of_ble_eq_true rfl, Nat.le_of_ble_eq_true rfl⟩ rfl (Nat.le_of_ble_eq_true rfl) ⟨Nat.zero_le _, Nat.zero_le _⟩ (fun v1 σ1 τ1 hq => ?_)
    obtain ⟨rfl, hM1, hC1, hr1, hF1, rfl⟩ := hq
    refine y_if_eq (t := 23) C dX9_begin_18 (by decide) (fun c18 => ?_) (fun c18 => ?_)
    · -- t
      have hk0 : kW u 1 4 = 0 := (ref0 (kW_p _ _ _)).mp c18
      refine y_aload_n C dX9_begin_23 rfl ?_
      refine g_X9_now C dX9_begin_24 (by decide +kernel) (by decide +kernel) ?_
      refine y_bipush (v := 6) C dX9_begin_27 (by decide) ?_
      refine mA C hM1 6 rfl (by decide) dX9_begin_29 ?_
      refine y_istore_n C dX9_begin_30 (L' := [_, _, _]) (Nat.lt_of_lt_of_le (by decide : (2 : Nat) < 3) (Nat.le_refl _)) rfl ?_
      refine y_aload_n C dX9_begin_31 rfl ?_
      refine y_callVv C (e_savesR _ _ hk hC1 hM1) dX9_begin_32 rfl gX9_begin_X9_saves rfl (is_X9) ⟨rfl, qX9_saves⟩ ⟨rfl, rfl⟩ ⟨Nat.le_of_ble_eq_true rfl, Nat.le_of_ble_eq_true rfl⟩ rfl (Nat.le_of_ble_eq_true rfl) ⟨Nat.zero_le _, Nat.zero_le _⟩ (fun σ2 τ2 hq => ?_)
      obtain ⟨hC2, hM2, hr2, hF2, rfl⟩ := hq
      refine y_aload_n C dX9_begin_35 rfl ?_
      refine y_iload_n C dX9_begin_36 rfl ?_
      refine y_callVv C (e_beginsR _ _ _) dX9_begin_37 rfl gX9_begin_X9_begins rfl (is_X9) ⟨rfl, qX9_begins⟩ ⟨rfl, rfl⟩ ⟨Nat.le_of_ble_eq_true rfl, Nat.le_of_ble_eq_true rfl⟩ rfl (Nat.le_of_ble_eq_true rfl) ⟨Nat.zero_le _, Nat.zero_le _⟩ (fun σ3 τ3 hq => ?_)
      obtain ⟨hM3, hF3, rfl⟩ := hq
      refine y_iload_n C dX9_begin_40 rfl ?_
      exact y_iret C rfl dX9_begin_41 (⟨by rw [hF3 165 (by decide), hr2]; exact hr1, Or.inl ⟨hk0, rfl, hM3, hC2.k6 hF3, ((hF1.mono mS_5).trans (hF2.mono mS_57)).trans (hF3.mono mS_6), rfl⟩⟩)
    · -- f
      have hkn : ¬ kW u 1 4 = 0 := fun z => c18 ((ref0 (kW_p _ _ _)).mpr z)
      refine y_iconst (v := 0) C dX9_begin_21 (by decide) ?_
      exact y_iret C rfl dX9_begin_22 (⟨hr1, Or.inr ⟨hkn, hM1, hC1, hF1.mono mS_5, rfl⟩⟩)
  ·
    refine y_iload_n C dX9_begin_1 rfl ?_
    refine y_iconst (v := 1) C dX9_begin_2 (by decide) ?_
    refine y_iconst (v := 4) C dX9_begin_3 (by decide) ?_
    refine y_callSi C (e_X9_within _ _ _ _ _) dX9_begin_4 rfl gX9_begin_X9_within rfl qX9_within ⟨rfl, rfl⟩ ⟨Nat.le_of_ble_eq_true rfl, Nat.le_of_ble_eq_true rfl⟩ rfl (Nat.le_of_ble_eq_true rfl) ⟨Nat.zero_le _, Nat.zero_le _⟩ (fun v1 σ1 τ1 hq => ?_)
    obtain ⟨rfl, rfl, rfl⟩ := hq
    refine y_if_eq (t := 14) C dX9_begin_7 (by decide) (fun c7 => ?_) (fun c7 => ?_)
    · -- t
      refine y_iconst (v := 1) C dX9_begin_14 (by decide) ?_
      exact y_kE K1 (by unfold kW; first | (rw [if_pos c7]; done) | (rw [if_neg c7]; done))
    · -- f
      refine y_iconst (v := 0) C dX9_begin_10 (by decide) ?_
      refine y_goto (t := 15) C dX9_begin_11 (by decide) ?_
      exact y_kE K1 (by unfold kW; first | (rw [if_pos c7]; done) | (rw [if_neg c7]; done))
set_option maxHeartbeats 4000000 in
set_option maxRecDepth 100000 in
theorem e_X9_setDoor (σ : xS) (τ : xT) {r : Rw} {R ns nr ne t kp : Nat} {qs : Nat → Rw} (hM : σ 166 = r) (hC : RecM σ kp qs) (hk : kp ≤ 4) (I : Inv r R ns nr ne t (t + 1)) (u v o : Int32) (ho : o = 0 ∨ o = 1) : Xi mX9_setDoor [.ref 165, .int u, .int v, .int o] σ τ (QM (kDoor r u v) (mDoorI r (cN u) (cN v)) σ τ r kp qs (mSets r (cN u) (cN v) o) ((kK kp)) ((kQ kp qs r))) := by
  have hR4 := I.1.1.2
  have hs8 := I.1.2.1.2
  have hr8 := I.1.2.2.1.2
  have he20 := I.1.2.2.2.1.2
  refine Xi_mk (L := [some (.ref 165), some (.int u), some (.int v), some (.int o), none]) (by decide) rfl (Nat.le_of_ble_eq_true rfl) rfl (fun x C => ?_)
  refine y_aload_n C dX9_setDoor_0 rfl ?_
  refine y_join (t := 24) (v := .int (kDoor r u v)) ?_ (fun K1 => ?_)
  ·
    refine y_callVi C (e_X9_refused _ _ hM hC _) dX9_setDoor_24 rfl gX9_setDoor_X9_refused rfl (is_X9) ⟨rfl, qX9_refused⟩ ⟨rfl, rfl⟩ ⟨Nat.le_of_ble_eq_true rfl, Nat.le_of_ble_eq_true rfl⟩ rfl (Nat.le_of_ble_eq_true rfl) ⟨Nat.zero_le _, Nat.zero_le _⟩ (fun v1 σ1 τ1 hq => ?_)
    obtain ⟨rfl, hM1, hC1, hr1, hF1, rfl⟩ := hq
    refine y_if_eq (t := 32) C dX9_setDoor_27 (by decide) (fun c27 => ?_) (fun c27 => ?_)
    · -- t
      have hk0 : kDoor r u v = 0 := (ref0 (kDoor_p _ _ _)).mp c27
      obtain ⟨h7, hne⟩ := kDoor_0 hk0
      obtain ⟨a, ha, rfl⟩ := plac_of I (fun z => h7 (Or.inl z))
      obtain ⟨b, hb, rfl⟩ := plac_of I (fun z => h7 (Or.inr z))
      rw [cN_nI (n := a) (by omega), cN_nI (n := b) (by omega)]
      refine y_aload_n C dX9_setDoor_32 rfl ?_
      refine y_iload_n C dX9_setDoor_33 rfl ?_
      refine y_iload_n C dX9_setDoor_34 rfl ?_
      refine y_callVi C (e_X9_isDoorOpen _ _ hM1 a b (by omega) (by omega)) dX9_setDoor_35 rfl gX9_setDoor_X9_isDoorOpen rfl (is_X9) ⟨rfl, qX9_isDoorOpen⟩ ⟨rfl, rfl⟩ ⟨Nat.le_of_ble_eq_true rfl, Nat.le_of_ble_eq_true rfl⟩ rfl (Nat.le_of_ble_eq_true rfl) ⟨Nat.zero_le _, Nat.zero_le _⟩ (fun v1 σ1 τ1 hq => ?_)
      obtain ⟨rfl, rfl, rfl⟩ := hq
      refine y_istore C dX9_setDoor_38 (L' := [_, _, _, _, _]) (Nat.lt_of_lt_of_le (by decide : (4 : Nat) < 5) (Nat.le_refl _)) rfl ?_
      refine y_aload_n C dX9_setDoor_40 rfl ?_
      refine y_callVv C (e_savesR _ _ hk hC1 hM1) dX9_setDoor_41 rfl gX9_setDoor_X9_saves rfl (is_X9) ⟨rfl, qX9_saves⟩ ⟨rfl, rfl⟩ ⟨Nat.le_of_ble_eq_true rfl, Nat.le_of_ble_eq_true rfl⟩ rfl (Nat.le_of_ble_eq_true rfl) ⟨Nat.zero_le _, Nat.zero_le _⟩ (fun σ2 τ2 hq => ?_)
      obtain ⟨hC2, hM2, hr2, hF2, rfl⟩ := hq
      refine y_aload_n C dX9_setDoor_44 rfl ?_
      refine y_iload_n C dX9_setDoor_45 rfl ?_
      refine y_iload_n C dX9_setDoor_46 rfl ?_
      refine y_join (t := 56) (v := .int (o)) ?_ (fun K47 => ?_)
      ·
        refine y_callVv C (e_X9_sets _ _ hM2 a b (by omega) (by omega) _) dX9_setDoor_56 rfl gX9_setDoor_X9_sets rfl (is_X9) ⟨rfl, qX9_sets⟩ ⟨rfl, rfl⟩ ⟨Nat.le_of_ble_eq_true rfl, Nat.le_of_ble_eq_true rfl⟩ rfl (Nat.le_of_ble_eq_true rfl) ⟨Nat.zero_le _, Nat.zero_le _⟩ (fun σ3 τ3 hq => ?_)
        obtain ⟨hM3, hF3, rfl⟩ := hq
        refine y_iload C dX9_setDoor_59 rfl ?_
        exact y_zret C rfl dX9_setDoor_61 (mDoorI_01 _ _ _) (⟨by rw [hF3 165 (by decide), hr2]; exact hr1, Or.inl ⟨hk0, rfl, hM3, hC2.k6 hF3, ((hF1.mono mS_5).trans (hF2.mono mS_57)).trans (hF3.mono mS_6), rfl⟩⟩)
      ·
        refine y_iload_n C dX9_setDoor_47 rfl ?_
        refine y_if_eq (t := 55) C dX9_setDoor_48 (by decide) (fun c48 => ?_) (fun c48 => ?_)
        · -- t
          refine y_iconst (v := 0) C dX9_setDoor_55 (by decide) ?_
          exact y_kE K47 (by rcases ho with z | z <;> first | exact z.symm | exact absurd z c48 | exact absurd c48 (by rw [z]; decide))
        · -- f
          refine y_iconst (v := 1) C dX9_setDoor_51 (by decide) ?_
          refine y_goto (t := 56) C dX9_setDoor_52 (by decide) ?_
          exact y_kE K47 (by rcases ho with z | z <;> first | exact z.symm | exact absurd z c48 | exact absurd c48 (by rw [z]; decide))
    · -- f
      have hkn : ¬ kDoor r u v = 0 := fun z => c27 ((ref0 (kDoor_p _ _ _)).mpr z)
      refine y_iconst (v := 0) C dX9_setDoor_30 (by decide) ?_
      exact y_zret C rfl dX9_setDoor_31 (by first | exact Or.inl rfl | exact Or.inr rfl) (⟨hr1, Or.inr ⟨hkn, hM1, hC1, hF1.mono mS_5, rfl⟩⟩)
  ·
    refine y_aload_n C dX9_setDoor_1 rfl ?_
    refine y_iload_n C dX9_setDoor_2 rfl ?_
    refine y_iload_n C dX9_setDoor_3 rfl ?_
    refine y_callVi C (e_X9_areDoor _ _ hM _ _) dX9_setDoor_4 rfl gX9_setDoor_X9_areDoor rfl (is_X9) ⟨rfl, qX9_areDoor⟩ ⟨rfl, rfl⟩ ⟨Nat.le_of_ble_eq_true rfl, Nat.le_of_ble_eq_true rfl⟩ rfl (Nat.le_of_ble_eq_true rfl) ⟨Nat.zero_le _, Nat.zero_le _⟩ (fun v1 σ1 τ1 hq => ?_)
    obtain ⟨rfl, rfl, rfl⟩ := hq
    refine y_if_ne (t := 14) C dX9_setDoor_7 (by decide) (fun c7 => ?_) (fun c7 => ?_)
    · -- t
      have h7 := ar_t c7
      refine y_iload_n C dX9_setDoor_14 rfl ?_
      refine y_iload_n C dX9_setDoor_15 rfl ?_
      refine y_icmp_ne (t := 23) C dX9_setDoor_16 (by decide) (fun c16 => ?_) (fun c16 => ?_)
      · -- t
        refine y_iconst (v := 0) C dX9_setDoor_23 (by decide) ?_
        exact y_kE K1 (by unfold kDoor; first | (rw [if_pos h7]; done) | (rw [if_neg h7, if_pos c16]; done) | (rw [if_neg h7, if_neg c16]; done))
      · -- f
        refine y_iconst (v := 2) C dX9_setDoor_19 (by decide) ?_
        refine y_goto (t := 24) C dX9_setDoor_20 (by decide) ?_
        exact y_kE K1 (by unfold kDoor; first | (rw [if_pos h7]; done) | (rw [if_neg h7, if_pos c16]; done) | (rw [if_neg h7, if_neg c16]; done))
    · -- f
      have h7 := ar_f c7
      refine y_iconst (v := 1) C dX9_setDoor_10 (by decide) ?_
      refine y_goto (t := 24) C dX9_setDoor_11 (by decide) ?_
      exact y_kE K1 (by unfold kDoor; first | (rw [if_pos h7]; done) | (rw [if_neg h7, if_pos c16]; done) | (rw [if_neg h7, if_neg c16]; done))
set_option maxHeartbeats 4000000 in
set_option maxRecDepth 100000 in
theorem e_X9_isOpen (σ : xS) (τ : xT) {r : Rw} {R ns nr ne t kp : Nat} {qs : Nat → Rw} (hM : σ 166 = r) (hC : RecM σ kp qs) (hk : kp ≤ 4) (I : Inv r R ns nr ne t (t + 1)) (u v : Int32) : Xi mX9_isOpen [.ref 165, .int u, .int v] σ τ (QM (kOpen r u v) (if u = v ∨ mDoorI r (cN u) (cN v) = 0 then 0 else 1) σ τ r kp qs (r) (kp) (qs)) := by
  have hR4 := I.1.1.2
  have hs8 := I.1.2.1.2
  have hr8 := I.1.2.2.1.2
  have he20 := I.1.2.2.2.1.2
  refine Xi_mk (L := [some (.ref 165), some (.int u), some (.int v)]) (by decide) rfl (Nat.le_of_ble_eq_true rfl) rfl (fun x C => ?_)
  refine y_aload_n C dX9_isOpen_0 rfl ?_
  refine y_join (t := 15) (v := .int (kOpen r u v)) ?_ (fun K1 => ?_)
  ·
    refine y_callVi C (e_X9_refused _ _ hM hC _) dX9_isOpen_15 rfl gX9_isOpen_X9_refused rfl (is_X9) ⟨rfl, qX9_refused⟩ ⟨rfl, rfl⟩ ⟨Nat.le_of_ble_eq_true rfl, Nat.le_of_ble_eq_true rfl⟩ rfl (Nat.le_of_ble_eq_true rfl) ⟨Nat.zero_le _, Nat.zero_le _⟩ (fun v1 σ1 τ1 hq => ?_)
    obtain ⟨rfl, hM1, hC1, hr1, hF1, rfl⟩ := hq
    refine y_if_ne (t := 39) C dX9_isOpen_18 (by decide) (fun c18 => ?_) (fun c18 => ?_)
    · -- t
      have hkn : ¬ kOpen r u v = 0 := fun z => c18 ((ref0 (kOpen_p _ _ _)).mpr z)
      refine y_iconst (v := 0) C dX9_isOpen_39 (by decide) ?_
      exact y_zret C rfl dX9_isOpen_40 (by first | exact Or.inl rfl | exact Or.inr rfl) (by first | exact ⟨hr1, Or.inr ⟨hkn, hM1, hC1, hF1.mono mS_5, rfl⟩⟩ | exact ⟨hr1, Or.inl ⟨hk0, by first | (rw [if_pos (Or.inl c23)]; done) | (rw [if_pos (Or.inr c32)]; done) | (rw [if_neg (fun z => z.elim c23 c32)]; done), hM1, hC1, hF1.mono mS_5, rfl⟩⟩)
    · -- f
      have hk0 : kOpen r u v = 0 := (ref0 (kOpen_p _ _ _)).mp c18
      refine y_iload_n C dX9_isOpen_21 rfl ?_
      refine y_iload_n C dX9_isOpen_22 rfl ?_
      refine y_icmp_eq (t := 39) C dX9_isOpen_23 (by decide) (fun c23 => ?_) (fun c23 => ?_)
      · -- t
        refine y_iconst (v := 0) C dX9_isOpen_39 (by decide) ?_
        exact y_zret C rfl dX9_isOpen_40 (by first | exact Or.inl rfl | exact Or.inr rfl) (by first | exact ⟨hr1, Or.inr ⟨hkn, hM1, hC1, hF1.mono mS_5, rfl⟩⟩ | exact ⟨hr1, Or.inl ⟨hk0, by first | (rw [if_pos (Or.inl c23)]; done) | (rw [if_pos (Or.inr c32)]; done) | (rw [if_neg (fun z => z.elim c23 c32)]; done), hM1, hC1, hF1.mono mS_5, rfl⟩⟩)
      · -- f
        obtain ⟨a, ha, rfl⟩ := plac_of I (fun z => kOpen_0 hk0 (Or.inl z))
        obtain ⟨b, hb, rfl⟩ := plac_of I (fun z => kOpen_0 hk0 (Or.inr z))
        rw [cN_nI (n := a) (by omega), cN_nI (n := b) (by omega)]
        refine y_aload_n C dX9_isOpen_26 rfl ?_
        refine y_iload_n C dX9_isOpen_27 rfl ?_
        refine y_iload_n C dX9_isOpen_28 rfl ?_
        refine y_callVi C (e_X9_isDoorOpen _ _ hM1 a b (by omega) (by omega)) dX9_isOpen_29 rfl gX9_isOpen_X9_isDoorOpen rfl (is_X9) ⟨rfl, qX9_isDoorOpen⟩ ⟨rfl, rfl⟩ ⟨Nat.le_of_ble_eq_true rfl, Nat.le_of_ble_eq_true rfl⟩ rfl (Nat.le_of_ble_eq_true rfl) ⟨Nat.zero_le _, Nat.zero_le _⟩ (fun v1 σ1 τ1 hq => ?_)
        obtain ⟨rfl, rfl, rfl⟩ := hq
        refine y_if_eq (t := 39) C dX9_isOpen_32 (by decide) (fun c32 => ?_) (fun c32 => ?_)
        · -- t
          refine y_iconst (v := 0) C dX9_isOpen_39 (by decide) ?_
          exact y_zret C rfl dX9_isOpen_40 (by first | exact Or.inl rfl | exact Or.inr rfl) (by first | exact ⟨hr1, Or.inr ⟨hkn, hM1, hC1, hF1.mono mS_5, rfl⟩⟩ | exact ⟨hr1, Or.inl ⟨hk0, by first | (rw [if_pos (Or.inl c23)]; done) | (rw [if_pos (Or.inr c32)]; done) | (rw [if_neg (fun z => z.elim c23 c32)]; done), hM1, hC1, hF1.mono mS_5, rfl⟩⟩)
        · -- f
          refine y_iconst (v := 1) C dX9_isOpen_35 (by decide) ?_
          refine y_goto (t := 40) C dX9_isOpen_36 (by decide) ?_
          exact y_zret C rfl dX9_isOpen_40 (by first | exact Or.inl rfl | exact Or.inr rfl) (by first | exact ⟨hr1, Or.inr ⟨hkn, hM1, hC1, hF1.mono mS_5, rfl⟩⟩ | exact ⟨hr1, Or.inl ⟨hk0, by first | (rw [if_pos (Or.inl c23)]; done) | (rw [if_pos (Or.inr c32)]; done) | (rw [if_neg (fun z => z.elim c23 c32)]; done), hM1, hC1, hF1.mono mS_5, rfl⟩⟩)
  ·
    refine y_aload_n C dX9_isOpen_1 rfl ?_
    refine y_iload_n C dX9_isOpen_2 rfl ?_
    refine y_iload_n C dX9_isOpen_3 rfl ?_
    refine y_callVi C (e_X9_areDoor _ _ hM _ _) dX9_isOpen_4 rfl gX9_isOpen_X9_areDoor rfl (is_X9) ⟨rfl, qX9_areDoor⟩ ⟨rfl, rfl⟩ ⟨Nat.le_of_ble_eq_true rfl, Nat.le_of_ble_eq_true rfl⟩ rfl (Nat.le_of_ble_eq_true rfl) ⟨Nat.zero_le _, Nat.zero_le _⟩ (fun v1 σ1 τ1 hq => ?_)
    obtain ⟨rfl, rfl, rfl⟩ := hq
    refine y_if_eq (t := 14) C dX9_isOpen_7 (by decide) (fun c7 => ?_) (fun c7 => ?_)
    · -- t
      refine y_iconst (v := 1) C dX9_isOpen_14 (by decide) ?_
      exact y_kE K1 (by unfold kOpen; first | (rw [if_pos (ar_f c7)]; done) | (rw [if_neg (ar_t c7)]; done))
    · -- f
      refine y_iconst (v := 0) C dX9_isOpen_10 (by decide) ?_
      refine y_goto (t := 15) C dX9_isOpen_11 (by decide) ?_
      exact y_kE K1 (by unfold kOpen; first | (rw [if_pos (ar_f c7)]; done) | (rw [if_neg (ar_t c7)]; done))
set_option maxHeartbeats 4000000 in
set_option maxRecDepth 100000 in
theorem e_X9_addFuel (σ : xS) (τ : xT) {r : Rw} {R ns nr ne t kp : Nat} {qs : Nat → Rw} (hM : σ 166 = r) (hC : RecM σ kp qs) (hk : kp ≤ 4) (I : Inv r R ns nr ne t (t + 1)) (u : Int32) : Xi mX9_addFuel [.ref 165, .int u] σ τ (QM (kW u 1 200) ((if 200 < r 8 + u then 200 else r 8 + u)) σ τ r kp qs (upd r 8 (if 200 < r 8 + u then 200 else r 8 + u)) ((kK kp)) ((kQ kp qs r))) := by
  have hR4 := I.1.1.2
  have hs8 := I.1.2.1.2
  have hr8 := I.1.2.2.1.2
  have he20 := I.1.2.2.2.1.2
  refine Xi_mk (L := [some (.ref 165), some (.int u)]) (by decide) rfl (Nat.le_of_ble_eq_true rfl) rfl (fun x C => ?_)
  refine y_aload_n C dX9_addFuel_0 rfl ?_
  refine y_join (t := 17) (v := .int (kW u 1 200)) ?_ (fun K1 => ?_)
  ·
    refine y_callVi C (e_X9_refused _ _ hM hC _) dX9_addFuel_17 rfl gX9_addFuel_X9_refused rfl (is_X9) ⟨rfl, qX9_refused⟩ ⟨rfl, rfl⟩ ⟨Nat.le_of_ble_eq_true rfl, Nat.le_of_ble_eq_true rfl⟩ rfl (Nat.le_of_ble_eq_true rfl) ⟨Nat.zero_le _, Nat.zero_le _⟩ (fun v1 σ1 τ1 hq => ?_)
    obtain ⟨rfl, hM1, hC1, hr1, hF1, rfl⟩ := hq
    refine y_if_eq (t := 25) C dX9_addFuel_20 (by decide) (fun c20 => ?_) (fun c20 => ?_)
    · -- t
      have hk0 : kW u 1 200 = 0 := (ref0 (kW_p _ _ _)).mp c20
      refine y_aload_n C dX9_addFuel_25 rfl ?_
      refine y_callVv C (e_savesR _ _ hk hC1 hM1) dX9_addFuel_26 rfl gX9_addFuel_X9_saves rfl (is_X9) ⟨rfl, qX9_saves⟩ ⟨rfl, rfl⟩ ⟨Nat.le_of_ble_eq_true rfl, Nat.le_of_ble_eq_true rfl⟩ rfl (Nat.le_of_ble_eq_true rfl) ⟨Nat.zero_le _, Nat.zero_le _⟩ (fun σ2 τ2 hq => ?_)
      obtain ⟨hC2, hM2, hr2, hF2, rfl⟩ := hq
      refine y_aload_n C dX9_addFuel_29 rfl ?_
      refine g_X9_now C dX9_addFuel_30 (by decide +kernel) (by decide +kernel) ?_
      refine y_bipush (v := 8) C dX9_addFuel_33 (by decide) ?_
      refine y_sipush (v := 200) C dX9_addFuel_35 (by decide) ?_
      refine y_aload_n C dX9_addFuel_38 rfl ?_
      refine g_X9_now C dX9_addFuel_39 (by decide +kernel) (by decide +kernel) ?_
      refine y_bipush (v := 8) C dX9_addFuel_42 (by decide) ?_
      refine mA C hM2 8 rfl (by decide) dX9_addFuel_44 ?_
      refine y_iload_n C dX9_addFuel_45 rfl ?_
      refine y_iadd C dX9_addFuel_46 ?_
      refine y_callSi C (e_X9_lesser _ _ _ _) dX9_addFuel_47 rfl gX9_addFuel_X9_lesser rfl qX9_lesser ⟨rfl, rfl⟩ ⟨Nat.le_of_ble_eq_true rfl, Nat.le_of_ble_eq_true rfl⟩ rfl (Nat.le_of_ble_eq_true rfl) ⟨Nat.zero_le _, Nat.zero_le _⟩ (fun v1 σ1 τ1 hq => ?_)
      obtain ⟨rfl, rfl, rfl⟩ := hq
      refine y_topE (if 200 < r 8 + u then 200 else r 8 + u) rfl ?_
      refine mW C hM2 8 rfl (by decide) dX9_addFuel_50 (fun σ3 hM3 hF3 => ?_)
      refine y_aload_n C dX9_addFuel_51 rfl ?_
      refine g_X9_now C dX9_addFuel_52 (by decide +kernel) (by decide +kernel) ?_
      refine y_bipush (v := 8) C dX9_addFuel_55 (by decide) ?_
      refine mA C hM3 8 rfl (by decide) dX9_addFuel_57 ?_
      exact y_iret C rfl dX9_addFuel_58 (⟨by rw [hF3 165 (by decide), hr2]; exact hr1, Or.inl ⟨hk0, upd_eq, hM3, hC2.k6 hF3, ((hF1.mono mS_5).trans (hF2.mono mS_57)).trans (hF3.mono mS_6), rfl⟩⟩)
    · -- f
      have hkn : ¬ kW u 1 200 = 0 := fun z => c20 ((ref0 (kW_p _ _ _)).mpr z)
      refine y_iconst (v := 0) C dX9_addFuel_23 (by decide) ?_
      exact y_iret C rfl dX9_addFuel_24 (⟨hr1, Or.inr ⟨hkn, hM1, hC1, hF1.mono mS_5, rfl⟩⟩)
  ·
    refine y_iload_n C dX9_addFuel_1 rfl ?_
    refine y_iconst (v := 1) C dX9_addFuel_2 (by decide) ?_
    refine y_sipush (v := 200) C dX9_addFuel_3 (by decide) ?_
    refine y_callSi C (e_X9_within _ _ _ _ _) dX9_addFuel_6 rfl gX9_addFuel_X9_within rfl qX9_within ⟨rfl, rfl⟩ ⟨Nat.le_of_ble_eq_true rfl, Nat.le_of_ble_eq_true rfl⟩ rfl (Nat.le_of_ble_eq_true rfl) ⟨Nat.zero_le _, Nat.zero_le _⟩ (fun v1 σ1 τ1 hq => ?_)
    obtain ⟨rfl, rfl, rfl⟩ := hq
    refine y_if_eq (t := 16) C dX9_addFuel_9 (by decide) (fun c9 => ?_) (fun c9 => ?_)
    · -- t
      refine y_iconst (v := 1) C dX9_addFuel_16 (by decide) ?_
      exact y_kE K1 (by unfold kW; first | (rw [if_pos c9]; done) | (rw [if_neg c9]; done))
    · -- f
      refine y_iconst (v := 0) C dX9_addFuel_12 (by decide) ?_
      refine y_goto (t := 17) C dX9_addFuel_13 (by decide) ?_
      exact y_kE K1 (by unfold kW; first | (rw [if_pos c9]; done) | (rw [if_neg c9]; done))
set_option maxHeartbeats 4000000 in
set_option maxRecDepth 100000 in
theorem e_X9_setTarget (σ : xS) (τ : xT) {r : Rw} {R ns nr ne t kp : Nat} {qs : Nat → Rw} (hM : σ 166 = r) (hC : RecM σ kp qs) (hk : kp ≤ 4) (I : Inv r R ns nr ne t (t + 1)) (u : Int32) : Xi mX9_setTarget [.ref 165, .int u] σ τ (QM (kW u 0 8) (r 9) σ τ r kp qs (upd r 9 u) ((kK kp)) ((kQ kp qs r))) := by
  have hR4 := I.1.1.2
  have hs8 := I.1.2.1.2
  have hr8 := I.1.2.2.1.2
  have he20 := I.1.2.2.2.1.2
  refine Xi_mk (L := [some (.ref 165), some (.int u)]) (by decide) rfl (Nat.le_of_ble_eq_true rfl) rfl (fun x C => ?_)
  refine y_aload_n C dX9_setTarget_0 rfl ?_
  refine y_join (t := 16) (v := .int (kW u 0 8)) ?_ (fun K1 => ?_)
  ·
    refine y_callVi C (e_X9_refused _ _ hM hC _) dX9_setTarget_16 rfl gX9_setTarget_X9_refused rfl (is_X9) ⟨rfl, qX9_refused⟩ ⟨rfl, rfl⟩ ⟨Nat.le_of_ble_eq_true rfl, Nat.le_of_ble_eq_true rfl⟩ rfl (Nat.le_of_ble_eq_true rfl) ⟨Nat.zero_le _, Nat.zero_le _⟩ (fun v1 σ1 τ1 hq => ?_)
    obtain ⟨rfl, hM1, hC1, hr1, hF1, rfl⟩ := hq
    refine y_if_eq (t := 26) C dX9_setTarget_19 (by decide) (fun c19 => ?_) (fun c19 => ?_)
    · -- t
      have hk0 : kW u 0 8 = 0 := (ref0 (kW_p _ _ _)).mp c19
      refine y_aload_n C dX9_setTarget_26 rfl ?_
      refine y_bipush (v := 9) C dX9_setTarget_27 (by decide) ?_
      refine y_iload_n C dX9_setTarget_29 rfl ?_
      refine y_callVi C (e_X9_puts _ _ hM1 hC1 hk 9 (by omega) _) dX9_setTarget_30 rfl gX9_setTarget_X9_puts rfl (is_X9) ⟨rfl, qX9_puts⟩ ⟨rfl, rfl⟩ ⟨Nat.le_of_ble_eq_true rfl, Nat.le_of_ble_eq_true rfl⟩ rfl (Nat.le_of_ble_eq_true rfl) ⟨Nat.zero_le _, Nat.zero_le _⟩ (fun v2 σ2 τ2 hq => ?_)
      obtain ⟨rfl, hM2, hC2, hr2, hF2, rfl⟩ := hq
      exact y_iret C rfl dX9_setTarget_33 (by first | exact ⟨hr1, Or.inr ⟨hkn, hM1, hC1, hF1.mono mS_5, rfl⟩⟩ | exact ⟨hr2.trans hr1, Or.inl ⟨hk0, rfl, hM2, hC2, (hF1.mono mS_5).trans hF2, rfl⟩⟩)
    · -- f
      have hkn : ¬ kW u 0 8 = 0 := fun z => c19 ((ref0 (kW_p _ _ _)).mpr z)
      refine y_iconst (v := 0) C dX9_setTarget_22 (by decide) ?_
      refine y_goto (t := 33) C dX9_setTarget_23 (by decide) ?_
      exact y_iret C rfl dX9_setTarget_33 (by first | exact ⟨hr1, Or.inr ⟨hkn, hM1, hC1, hF1.mono mS_5, rfl⟩⟩ | exact ⟨hr2.trans hr1, Or.inl ⟨hk0, rfl, hM2, hC2, (hF1.mono mS_5).trans hF2, rfl⟩⟩)
  ·
    refine y_iload_n C dX9_setTarget_1 rfl ?_
    refine y_iconst (v := 0) C dX9_setTarget_2 (by decide) ?_
    refine y_bipush (v := 8) C dX9_setTarget_3 (by decide) ?_
    refine y_callSi C (e_X9_within _ _ _ _ _) dX9_setTarget_5 rfl gX9_setTarget_X9_within rfl qX9_within ⟨rfl, rfl⟩ ⟨Nat.le_of_ble_eq_true rfl, Nat.le_of_ble_eq_true rfl⟩ rfl (Nat.le_of_ble_eq_true rfl) ⟨Nat.zero_le _, Nat.zero_le _⟩ (fun v1 σ1 τ1 hq => ?_)
    obtain ⟨rfl, rfl, rfl⟩ := hq
    refine y_if_eq (t := 15) C dX9_setTarget_8 (by decide) (fun c8 => ?_) (fun c8 => ?_)
    · -- t
      refine y_iconst (v := 1) C dX9_setTarget_15 (by decide) ?_
      exact y_kE K1 (by unfold kW; first | (rw [if_pos c8]; done) | (rw [if_neg c8]; done))
    · -- f
      refine y_iconst (v := 0) C dX9_setTarget_11 (by decide) ?_
      refine y_goto (t := 16) C dX9_setTarget_12 (by decide) ?_
      exact y_kE K1 (by unfold kW; first | (rw [if_pos c8]; done) | (rw [if_neg c8]; done))
set_option maxHeartbeats 4000000 in
set_option maxRecDepth 100000 in
theorem e_X9_set (σ : xS) (τ : xT) {r : Rw} {R ns nr ne t kp : Nat} {qs : Nat → Rw} (hM : σ 166 = r) (hC : RecM σ kp qs) (hk : kp ≤ 4) (I : Inv r R ns nr ne t (t + 1)) (u v : Int32) : Xi mX9_set [.ref 165, .int u, .int v] σ τ (QM (kSet u v) (mNum r u) σ τ r kp qs (upd r (cN u) v) ((kK kp)) ((kQ kp qs r))) := by
  have hR4 := I.1.1.2
  have hs8 := I.1.2.1.2
  have hr8 := I.1.2.2.1.2
  have he20 := I.1.2.2.2.1.2
  refine Xi_mk (L := [some (.ref 165), some (.int u), some (.int v)]) (by decide) rfl (Nat.le_of_ble_eq_true rfl) rfl (fun x C => ?_)
  refine y_aload_n C dX9_set_0 rfl ?_
  refine y_join (t := 14) (v := .int (kSet u v)) ?_ (fun K1 => ?_)
  ·
    refine y_callVi C (e_X9_refused _ _ hM hC _) dX9_set_14 rfl gX9_set_X9_refused rfl (is_X9) ⟨rfl, qX9_refused⟩ ⟨rfl, rfl⟩ ⟨Nat.le_of_ble_eq_true rfl, Nat.le_of_ble_eq_true rfl⟩ rfl (Nat.le_of_ble_eq_true rfl) ⟨Nat.zero_le _, Nat.zero_le _⟩ (fun v1 σ1 τ1 hq => ?_)
    obtain ⟨rfl, hM1, hC1, hr1, hF1, rfl⟩ := hq
    refine y_if_eq (t := 24) C dX9_set_17 (by decide) (fun c17 => ?_) (fun c17 => ?_)
    · -- t
      have hk0 : kSet u v = 0 := (ref0 (kSet_p _ _)).mp c17
      obtain ⟨w, hw, rfl⟩ := with0 5 (by decide) rfl (fun z => kSet_0 hk0 (can_out v z))
      rw [cN_nI (n := w) (by omega), num_lo r w (by omega)]
      refine y_aload_n C dX9_set_24 rfl ?_
      refine y_iload_n C dX9_set_25 rfl ?_
      refine y_iload_n C dX9_set_26 rfl ?_
      refine y_callVi C (e_X9_puts _ _ hM1 hC1 hk w (by omega) _) dX9_set_27 rfl gX9_set_X9_puts rfl (is_X9) ⟨rfl, qX9_puts⟩ ⟨rfl, rfl⟩ ⟨Nat.le_of_ble_eq_true rfl, Nat.le_of_ble_eq_true rfl⟩ rfl (Nat.le_of_ble_eq_true rfl) ⟨Nat.zero_le _, Nat.zero_le _⟩ (fun v2 σ2 τ2 hq => ?_)
      obtain ⟨rfl, hM2, hC2, hr2, hF2, rfl⟩ := hq
      exact y_iret C rfl dX9_set_30 (by first | exact ⟨hr1, Or.inr ⟨hkn, hM1, hC1, hF1.mono mS_5, rfl⟩⟩ | exact ⟨hr2.trans hr1, Or.inl ⟨hk0, rfl, hM2, hC2, (hF1.mono mS_5).trans hF2, rfl⟩⟩)
    · -- f
      have hkn : ¬ kSet u v = 0 := fun z => c17 ((ref0 (kSet_p _ _)).mpr z)
      refine y_iconst (v := 0) C dX9_set_20 (by decide) ?_
      refine y_goto (t := 30) C dX9_set_21 (by decide) ?_
      exact y_iret C rfl dX9_set_30 (by first | exact ⟨hr1, Or.inr ⟨hkn, hM1, hC1, hF1.mono mS_5, rfl⟩⟩ | exact ⟨hr2.trans hr1, Or.inl ⟨hk0, rfl, hM2, hC2, (hF1.mono mS_5).trans hF2, rfl⟩⟩)
  ·
    refine y_iload_n C dX9_set_1 rfl ?_
    refine y_iload_n C dX9_set_2 rfl ?_
    refine y_callSi C (e_X9_canBe _ _ _ _) dX9_set_3 rfl gX9_set_X9_canBe rfl qX9_canBe ⟨rfl, rfl⟩ ⟨Nat.le_of_ble_eq_true rfl, Nat.le_of_ble_eq_true rfl⟩ rfl (Nat.le_of_ble_eq_true rfl) ⟨Nat.zero_le _, Nat.zero_le _⟩ (fun v1 σ1 τ1 hq => ?_)
    obtain ⟨rfl, rfl, rfl⟩ := hq
    refine y_if_eq (t := 13) C dX9_set_6 (by decide) (fun c6 => ?_) (fun c6 => ?_)
    · -- t
      refine y_iconst (v := 1) C dX9_set_13 (by decide) ?_
      exact y_kE K1 (by unfold kSet; first | (rw [if_pos c6]; done) | (rw [if_neg c6]; done))
    · -- f
      refine y_iconst (v := 0) C dX9_set_9 (by decide) ?_
      refine y_goto (t := 14) C dX9_set_10 (by decide) ?_
      exact y_kE K1 (by unfold kSet; first | (rw [if_pos c6]; done) | (rw [if_neg c6]; done))
set_option maxHeartbeats 4000000 in
set_option maxRecDepth 100000 in
theorem e_X9_setSmoke (σ : xS) (τ : xT) {r : Rw} {R ns nr ne t kp : Nat} {qs : Nat → Rw} (hM : σ 166 = r) (hC : RecM σ kp qs) (hk : kp ≤ 4) (I : Inv r R ns nr ne t (t + 1)) (u v : Int32) : Xi mX9_setSmoke [.ref 165, .int u, .int v] σ τ (QM (kRW r u v 0 99999) (r (20 + cN u)) σ τ r kp qs (upd r (20 + cN u) v) ((kK kp)) ((kQ kp qs r))) := by
  have hR4 := I.1.1.2
  have hs8 := I.1.2.1.2
  have hr8 := I.1.2.2.1.2
  have he20 := I.1.2.2.2.1.2
  refine Xi_mk (L := [some (.ref 165), some (.int u), some (.int v)]) (by decide) rfl (Nat.le_of_ble_eq_true rfl) rfl (fun x C => ?_)
  refine y_aload_n C dX9_setSmoke_0 rfl ?_
  refine y_join (t := 28) (v := .int (kRW r u v 0 99999)) ?_ (fun K1 => ?_)
  ·
    refine y_callVi C (e_X9_refused _ _ hM hC _) dX9_setSmoke_28 rfl gX9_setSmoke_X9_refused rfl (is_X9) ⟨rfl, qX9_refused⟩ ⟨rfl, rfl⟩ ⟨Nat.le_of_ble_eq_true rfl, Nat.le_of_ble_eq_true rfl⟩ rfl (Nat.le_of_ble_eq_true rfl) ⟨Nat.zero_le _, Nat.zero_le _⟩ (fun v1 σ1 τ1 hq => ?_)
    obtain ⟨rfl, hM1, hC1, hr1, hF1, rfl⟩ := hq
    refine y_if_eq (t := 38) C dX9_setSmoke_31 (by decide) (fun c31 => ?_) (fun c31 => ?_)
    · -- t
      have hk0 : kRW r u v 0 99999 = 0 := (ref0 (kRW_p _ _ _ _ _)).mp c31
      obtain ⟨i, hi, rfl⟩ := room_of I (kRW_0 hk0).1
      rw [cN_nI (n := i) (by omega)]
      refine y_aload_n C dX9_setSmoke_38 rfl ?_
      refine y_bipush (v := 20) C dX9_setSmoke_39 (by decide) ?_
      refine y_iload_n C dX9_setSmoke_41 rfl ?_
      refine y_iadd C dX9_setSmoke_42 ?_
      refine y_topE (nI (20 + i)) (nI_add 20 i) ?_
      refine y_iload_n C dX9_setSmoke_43 rfl ?_
      refine y_callVi C (e_X9_puts _ _ hM1 hC1 hk (20 + i) (by omega) _) dX9_setSmoke_44 rfl gX9_setSmoke_X9_puts rfl (is_X9) ⟨rfl, qX9_puts⟩ ⟨rfl, rfl⟩ ⟨Nat.le_of_ble_eq_true rfl, Nat.le_of_ble_eq_true rfl⟩ rfl (Nat.le_of_ble_eq_true rfl) ⟨Nat.zero_le _, Nat.zero_le _⟩ (fun v2 σ2 τ2 hq => ?_)
      obtain ⟨rfl, hM2, hC2, hr2, hF2, rfl⟩ := hq
      exact y_iret C rfl dX9_setSmoke_47 (by first | exact ⟨hr1, Or.inr ⟨hkn, hM1, hC1, hF1.mono mS_5, rfl⟩⟩ | exact ⟨hr2.trans hr1, Or.inl ⟨hk0, rfl, hM2, hC2, (hF1.mono mS_5).trans hF2, rfl⟩⟩)
    · -- f
      have hkn : ¬ kRW r u v 0 99999 = 0 := fun z => c31 ((ref0 (kRW_p _ _ _ _ _)).mpr z)
      refine y_iconst (v := 0) C dX9_setSmoke_34 (by decide) ?_
      refine y_goto (t := 47) C dX9_setSmoke_35 (by decide) ?_
      exact y_iret C rfl dX9_setSmoke_47 (by first | exact ⟨hr1, Or.inr ⟨hkn, hM1, hC1, hF1.mono mS_5, rfl⟩⟩ | exact ⟨hr2.trans hr1, Or.inl ⟨hk0, rfl, hM2, hC2, (hF1.mono mS_5).trans hF2, rfl⟩⟩)
  ·
    refine y_aload_n C dX9_setSmoke_1 rfl ?_
    refine y_iload_n C dX9_setSmoke_2 rfl ?_
    refine y_callVi C (e_X9_isRoomR _ _ hM I _) dX9_setSmoke_3 rfl gX9_setSmoke_X9_isRoom rfl (is_X9) ⟨rfl, qX9_isRoom⟩ ⟨rfl, rfl⟩ ⟨Nat.le_of_ble_eq_true rfl, Nat.le_of_ble_eq_true rfl⟩ rfl (Nat.le_of_ble_eq_true rfl) ⟨Nat.zero_le _, Nat.zero_le _⟩ (fun v1 σ1 τ1 hq => ?_)
    obtain ⟨rfl, rfl, rfl⟩ := hq
    refine y_if_ne (t := 13) C dX9_setSmoke_6 (by decide) (fun c6 => ?_) (fun c6 => ?_)
    · -- t
      refine y_iload_n C dX9_setSmoke_13 rfl ?_
      refine y_iconst (v := 0) C dX9_setSmoke_14 (by decide) ?_
      refine y_ldc (v := 99999) C dX9_setSmoke_15 (by decide +kernel) ?_
      refine y_callSi C (e_X9_within _ _ _ _ _) dX9_setSmoke_17 rfl gX9_setSmoke_X9_within rfl qX9_within ⟨rfl, rfl⟩ ⟨Nat.le_of_ble_eq_true rfl, Nat.le_of_ble_eq_true rfl⟩ rfl (Nat.le_of_ble_eq_true rfl) ⟨Nat.zero_le _, Nat.zero_le _⟩ (fun v1 σ1 τ1 hq => ?_)
      obtain ⟨rfl, rfl, rfl⟩ := hq
      refine y_if_ne (t := 27) C dX9_setSmoke_20 (by decide) (fun c20 => ?_) (fun c20 => ?_)
      · -- t
        refine y_iconst (v := 0) C dX9_setSmoke_27 (by decide) ?_
        exact y_kE K1 (by unfold kRW; first | (rw [if_pos c6]; done) | (rw [if_neg c6, if_pos c20]; done) | (rw [if_neg c6, if_neg c20]; done))
      · -- f
        refine y_iconst (v := 2) C dX9_setSmoke_23 (by decide) ?_
        refine y_goto (t := 28) C dX9_setSmoke_24 (by decide) ?_
        exact y_kE K1 (by unfold kRW; first | (rw [if_pos c6]; done) | (rw [if_neg c6, if_pos c20]; done) | (rw [if_neg c6, if_neg c20]; done))
    · -- f
      refine y_iconst (v := 1) C dX9_setSmoke_9 (by decide) ?_
      refine y_goto (t := 28) C dX9_setSmoke_10 (by decide) ?_
      exact y_kE K1 (by unfold kRW; first | (rw [if_pos c6]; done) | (rw [if_neg c6, if_pos c20]; done) | (rw [if_neg c6, if_neg c20]; done))
set_option maxHeartbeats 4000000 in
set_option maxRecDepth 100000 in
theorem e_X9_mute (σ : xS) (τ : xT) {r : Rw} {R ns nr ne t kp : Nat} {qs : Nat → Rw} (hM : σ 166 = r) (hC : RecM σ kp qs) (hk : kp ≤ 4) (I : Inv r R ns nr ne t (t + 1)) (u v : Int32) : Xi mX9_mute [.ref 165, .int u, .int v] σ τ (QM (kRW r u v 0 60) (r (28 + cN u)) σ τ r kp qs (upd r (28 + cN u) v) ((kK kp)) ((kQ kp qs r))) := by
  have hR4 := I.1.1.2
  have hs8 := I.1.2.1.2
  have hr8 := I.1.2.2.1.2
  have he20 := I.1.2.2.2.1.2
  refine Xi_mk (L := [some (.ref 165), some (.int u), some (.int v)]) (by decide) rfl (Nat.le_of_ble_eq_true rfl) rfl (fun x C => ?_)
  refine y_aload_n C dX9_mute_0 rfl ?_
  refine y_join (t := 28) (v := .int (kRW r u v 0 60)) ?_ (fun K1 => ?_)
  ·
    refine y_callVi C (e_X9_refused _ _ hM hC _) dX9_mute_28 rfl gX9_mute_X9_refused rfl (is_X9) ⟨rfl, qX9_refused⟩ ⟨rfl, rfl⟩ ⟨Nat.le_of_ble_eq_true rfl, Nat.le_of_ble_eq_true rfl⟩ rfl (Nat.le_of_ble_eq_true rfl) ⟨Nat.zero_le _, Nat.zero_le _⟩ (fun v1 σ1 τ1 hq => ?_)
    obtain ⟨rfl, hM1, hC1, hr1, hF1, rfl⟩ := hq
    refine y_if_eq (t := 38) C dX9_mute_31 (by decide) (fun c31 => ?_) (fun c31 => ?_)
    · -- t
      have hk0 : kRW r u v 0 60 = 0 := (ref0 (kRW_p _ _ _ _ _)).mp c31
      obtain ⟨i, hi, rfl⟩ := room_of I (kRW_0 hk0).1
      rw [cN_nI (n := i) (by omega)]
      refine y_aload_n C dX9_mute_38 rfl ?_
      refine y_bipush (v := 28) C dX9_mute_39 (by decide) ?_
      refine y_iload_n C dX9_mute_41 rfl ?_
      refine y_iadd C dX9_mute_42 ?_
      refine y_topE (nI (28 + i)) (nI_add 28 i) ?_
      refine y_iload_n C dX9_mute_43 rfl ?_
      refine y_callVi C (e_X9_puts _ _ hM1 hC1 hk (28 + i) (by omega) _) dX9_mute_44 rfl gX9_mute_X9_puts rfl (is_X9) ⟨rfl, qX9_puts⟩ ⟨rfl, rfl⟩ ⟨Nat.le_of_ble_eq_true rfl, Nat.le_of_ble_eq_true rfl⟩ rfl (Nat.le_of_ble_eq_true rfl) ⟨Nat.zero_le _, Nat.zero_le _⟩ (fun v2 σ2 τ2 hq => ?_)
      obtain ⟨rfl, hM2, hC2, hr2, hF2, rfl⟩ := hq
      exact y_iret C rfl dX9_mute_47 (by first | exact ⟨hr1, Or.inr ⟨hkn, hM1, hC1, hF1.mono mS_5, rfl⟩⟩ | exact ⟨hr2.trans hr1, Or.inl ⟨hk0, rfl, hM2, hC2, (hF1.mono mS_5).trans hF2, rfl⟩⟩)
    · -- f
      have hkn : ¬ kRW r u v 0 60 = 0 := fun z => c31 ((ref0 (kRW_p _ _ _ _ _)).mpr z)
      refine y_iconst (v := 0) C dX9_mute_34 (by decide) ?_
      refine y_goto (t := 47) C dX9_mute_35 (by decide) ?_
      exact y_iret C rfl dX9_mute_47 (by first | exact ⟨hr1, Or.inr ⟨hkn, hM1, hC1, hF1.mono mS_5, rfl⟩⟩ | exact ⟨hr2.trans hr1, Or.inl ⟨hk0, rfl, hM2, hC2, (hF1.mono mS_5).trans hF2, rfl⟩⟩)
  ·
    refine y_aload_n C dX9_mute_1 rfl ?_
    refine y_iload_n C dX9_mute_2 rfl ?_
    refine y_callVi C (e_X9_isRoomR _ _ hM I _) dX9_mute_3 rfl gX9_mute_X9_isRoom rfl (is_X9) ⟨rfl, qX9_isRoom⟩ ⟨rfl, rfl⟩ ⟨Nat.le_of_ble_eq_true rfl, Nat.le_of_ble_eq_true rfl⟩ rfl (Nat.le_of_ble_eq_true rfl) ⟨Nat.zero_le _, Nat.zero_le _⟩ (fun v1 σ1 τ1 hq => ?_)
    obtain ⟨rfl, rfl, rfl⟩ := hq
    refine y_if_ne (t := 13) C dX9_mute_6 (by decide) (fun c6 => ?_) (fun c6 => ?_)
    · -- t
      refine y_iload_n C dX9_mute_13 rfl ?_
      refine y_iconst (v := 0) C dX9_mute_14 (by decide) ?_
      refine y_bipush (v := 60) C dX9_mute_15 (by decide) ?_
      refine y_callSi C (e_X9_within _ _ _ _ _) dX9_mute_17 rfl gX9_mute_X9_within rfl qX9_within ⟨rfl, rfl⟩ ⟨Nat.le_of_ble_eq_true rfl, Nat.le_of_ble_eq_true rfl⟩ rfl (Nat.le_of_ble_eq_true rfl) ⟨Nat.zero_le _, Nat.zero_le _⟩ (fun v1 σ1 τ1 hq => ?_)
      obtain ⟨rfl, rfl, rfl⟩ := hq
      refine y_if_ne (t := 27) C dX9_mute_20 (by decide) (fun c20 => ?_) (fun c20 => ?_)
      · -- t
        refine y_iconst (v := 0) C dX9_mute_27 (by decide) ?_
        exact y_kE K1 (by unfold kRW; first | (rw [if_pos c6]; done) | (rw [if_neg c6, if_pos c20]; done) | (rw [if_neg c6, if_neg c20]; done))
      · -- f
        refine y_iconst (v := 2) C dX9_mute_23 (by decide) ?_
        refine y_goto (t := 28) C dX9_mute_24 (by decide) ?_
        exact y_kE K1 (by unfold kRW; first | (rw [if_pos c6]; done) | (rw [if_neg c6, if_pos c20]; done) | (rw [if_neg c6, if_neg c20]; done))
    · -- f
      refine y_iconst (v := 1) C dX9_mute_9 (by decide) ?_
      refine y_goto (t := 28) C dX9_mute_10 (by decide) ?_
      exact y_kE K1 (by unfold kRW; first | (rw [if_pos c6]; done) | (rw [if_neg c6, if_pos c20]; done) | (rw [if_neg c6, if_neg c20]; done))
set_option maxHeartbeats 4000000 in
set_option maxRecDepth 100000 in
theorem e_X9_setFault (σ : xS) (τ : xT) {r : Rw} {R ns nr ne t kp : Nat} {qs : Nat → Rw} (hM : σ 166 = r) (hC : RecM σ kp qs) (hk : kp ≤ 4) (I : Inv r R ns nr ne t (t + 1)) (u v : Int32) : Xi mX9_setFault [.ref 165, .int u, .int v] σ τ (QM (kSW r u v 0 2) (r (57 + 7 * cN u + 5)) σ τ r kp qs (upd r (57 + 7 * cN u + 5) v) ((kK kp)) ((kQ kp qs r))) := by
  have hR4 := I.1.1.2
  have hs8 := I.1.2.1.2
  have hr8 := I.1.2.2.1.2
  have he20 := I.1.2.2.2.1.2
  refine Xi_mk (L := [some (.ref 165), some (.int u), some (.int v)]) (by decide) rfl (Nat.le_of_ble_eq_true rfl) rfl (fun x C => ?_)
  refine y_aload_n C dX9_setFault_0 rfl ?_
  refine y_join (t := 27) (v := .int (kSW r u v 0 2)) ?_ (fun K1 => ?_)
  ·
    refine y_callVi C (e_X9_refused _ _ hM hC _) dX9_setFault_27 rfl gX9_setFault_X9_refused rfl (is_X9) ⟨rfl, qX9_refused⟩ ⟨rfl, rfl⟩ ⟨Nat.le_of_ble_eq_true rfl, Nat.le_of_ble_eq_true rfl⟩ rfl (Nat.le_of_ble_eq_true rfl) ⟨Nat.zero_le _, Nat.zero_le _⟩ (fun v1 σ1 τ1 hq => ?_)
    obtain ⟨rfl, hM1, hC1, hr1, hF1, rfl⟩ := hq
    refine y_if_eq (t := 37) C dX9_setFault_30 (by decide) (fun c30 => ?_) (fun c30 => ?_)
    · -- t
      have hk0 : kSW r u v 0 2 = 0 := (ref0 (kSW_p _ _ _ _ _)).mp c30
      obtain ⟨i, hi, rfl⟩ := sens_of I (kSW_0 hk0).1
      rw [cN_nI (n := i) (by omega)]
      refine y_aload_n C dX9_setFault_37 rfl ?_
      refine y_bipush (v := 57) C dX9_setFault_38 (by decide) ?_
      refine y_bipush (v := 7) C dX9_setFault_40 (by decide) ?_
      refine y_iload_n C dX9_setFault_42 rfl ?_
      refine y_imul C dX9_setFault_43 ?_
      refine y_iadd C dX9_setFault_44 ?_
      refine y_iconst (v := 5) C dX9_setFault_45 (by decide) ?_
      refine y_iadd C dX9_setFault_46 ?_
      refine y_topE (nI (57 + 7 * i + 5)) (by simp only [← nI_add, ← pk_mul]; rfl) ?_
      refine y_iload_n C dX9_setFault_47 rfl ?_
      refine y_callVi C (e_X9_puts _ _ hM1 hC1 hk (57 + 7 * i + 5) (by omega) _) dX9_setFault_48 rfl gX9_setFault_X9_puts rfl (is_X9) ⟨rfl, qX9_puts⟩ ⟨rfl, rfl⟩ ⟨Nat.le_of_ble_eq_true rfl, Nat.le_of_ble_eq_true rfl⟩ rfl (Nat.le_of_ble_eq_true rfl) ⟨Nat.zero_le _, Nat.zero_le _⟩ (fun v2 σ2 τ2 hq => ?_)
      obtain ⟨rfl, hM2, hC2, hr2, hF2, rfl⟩ := hq
      exact y_iret C rfl dX9_setFault_51 (by first | exact ⟨hr1, Or.inr ⟨hkn, hM1, hC1, hF1.mono mS_5, rfl⟩⟩ | exact ⟨hr2.trans hr1, Or.inl ⟨hk0, rfl, hM2, hC2, (hF1.mono mS_5).trans hF2, rfl⟩⟩)
    · -- f
      have hkn : ¬ kSW r u v 0 2 = 0 := fun z => c30 ((ref0 (kSW_p _ _ _ _ _)).mpr z)
      refine y_iconst (v := 0) C dX9_setFault_33 (by decide) ?_
      refine y_goto (t := 51) C dX9_setFault_34 (by decide) ?_
      exact y_iret C rfl dX9_setFault_51 (by first | exact ⟨hr1, Or.inr ⟨hkn, hM1, hC1, hF1.mono mS_5, rfl⟩⟩ | exact ⟨hr2.trans hr1, Or.inl ⟨hk0, rfl, hM2, hC2, (hF1.mono mS_5).trans hF2, rfl⟩⟩)
  ·
    refine y_aload_n C dX9_setFault_1 rfl ?_
    refine y_iload_n C dX9_setFault_2 rfl ?_
    refine y_callVi C (e_X9_isSensor _ _ hM I _) dX9_setFault_3 rfl gX9_setFault_X9_isSensor rfl (is_X9) ⟨rfl, qX9_isSensor⟩ ⟨rfl, rfl⟩ ⟨Nat.le_of_ble_eq_true rfl, Nat.le_of_ble_eq_true rfl⟩ rfl (Nat.le_of_ble_eq_true rfl) ⟨Nat.zero_le _, Nat.zero_le _⟩ (fun v1 σ1 τ1 hq => ?_)
    obtain ⟨rfl, rfl, rfl⟩ := hq
    refine y_if_ne (t := 13) C dX9_setFault_6 (by decide) (fun c6 => ?_) (fun c6 => ?_)
    · -- t
      refine y_iload_n C dX9_setFault_13 rfl ?_
      refine y_iconst (v := 0) C dX9_setFault_14 (by decide) ?_
      refine y_iconst (v := 2) C dX9_setFault_15 (by decide) ?_
      refine y_callSi C (e_X9_within _ _ _ _ _) dX9_setFault_16 rfl gX9_setFault_X9_within rfl qX9_within ⟨rfl, rfl⟩ ⟨Nat.le_of_ble_eq_true rfl, Nat.le_of_ble_eq_true rfl⟩ rfl (Nat.le_of_ble_eq_true rfl) ⟨Nat.zero_le _, Nat.zero_le _⟩ (fun v1 σ1 τ1 hq => ?_)
      obtain ⟨rfl, rfl, rfl⟩ := hq
      refine y_if_ne (t := 26) C dX9_setFault_19 (by decide) (fun c19 => ?_) (fun c19 => ?_)
      · -- t
        refine y_iconst (v := 0) C dX9_setFault_26 (by decide) ?_
        exact y_kE K1 (by unfold kSW; first | (rw [if_pos c6]; done) | (rw [if_neg c6, if_pos c19]; done) | (rw [if_neg c6, if_neg c19]; done))
      · -- f
        refine y_iconst (v := 2) C dX9_setFault_22 (by decide) ?_
        refine y_goto (t := 27) C dX9_setFault_23 (by decide) ?_
        exact y_kE K1 (by unfold kSW; first | (rw [if_pos c6]; done) | (rw [if_neg c6, if_pos c19]; done) | (rw [if_neg c6, if_neg c19]; done))
    · -- f
      refine y_iconst (v := 1) C dX9_setFault_9 (by decide) ?_
      refine y_goto (t := 27) C dX9_setFault_10 (by decide) ?_
      exact y_kE K1 (by unfold kSW; first | (rw [if_pos c6]; done) | (rw [if_neg c6, if_pos c19]; done) | (rw [if_neg c6, if_neg c19]; done))
set_option maxHeartbeats 4000000 in
set_option maxRecDepth 100000 in
theorem e_X9_room (σ : xS) (τ : xT) {r : Rw} {R ns nr ne t kp : Nat} {qs : Nat → Rw} (hM : σ 166 = r) (hC : RecM σ kp qs) (hk : kp ≤ 4) (I : Inv r R ns nr ne t (t + 1)) (u v : Int32) : Xi mX9_room [.ref 165, .int u, .int v] σ τ (QM (kRW r u v 0 6) (mRooT r (cN u) v) σ τ r kp qs (r) (kp) (qs)) := by
  have hR4 := I.1.1.2
  have hs8 := I.1.2.1.2
  have hr8 := I.1.2.2.1.2
  have he20 := I.1.2.2.2.1.2
  refine Xi_mk (L := [some (.ref 165), some (.int u), some (.int v)]) (by decide) rfl (Nat.le_of_ble_eq_true rfl) rfl (fun x C => ?_)
  refine y_aload_n C dX9_room_0 rfl ?_
  refine y_join (t := 28) (v := .int (kRW r u v 0 6)) ?_ (fun K1 => ?_)
  ·
    refine y_callVi C (e_X9_refused _ _ hM hC _) dX9_room_28 rfl gX9_room_X9_refused rfl (is_X9) ⟨rfl, qX9_refused⟩ ⟨rfl, rfl⟩ ⟨Nat.le_of_ble_eq_true rfl, Nat.le_of_ble_eq_true rfl⟩ rfl (Nat.le_of_ble_eq_true rfl) ⟨Nat.zero_le _, Nat.zero_le _⟩ (fun v1 σ1 τ1 hq => ?_)
    obtain ⟨rfl, hM1, hC1, hr1, hF1, rfl⟩ := hq
    refine y_if_eq (t := 38) C dX9_room_31 (by decide) (fun c31 => ?_) (fun c31 => ?_)
    · -- t
      have hk0 : kRW r u v 0 6 = 0 := (ref0 (kRW_p _ _ _ _ _)).mp c31
      obtain ⟨i, hi, rfl⟩ := room_of I (kRW_0 hk0).1
      rw [cN_nI (n := i) (by omega)]
      obtain ⟨w, hw, rfl⟩ := with0 6 (by decide) rfl (kRW_0 hk0).2
      refine y_aload_n C dX9_room_38 rfl ?_
      refine y_iload_n C dX9_room_39 rfl ?_
      refine y_iload_n C dX9_room_40 rfl ?_
      refine y_callVi C (e_X9_roomTold _ _ hM1 I i w hi (by omega)) dX9_room_41 rfl gX9_room_X9_roomTold rfl (is_X9) ⟨rfl, qX9_roomTold⟩ ⟨rfl, rfl⟩ ⟨Nat.le_of_ble_eq_true rfl, Nat.le_of_ble_eq_true rfl⟩ rfl (Nat.le_of_ble_eq_true rfl) ⟨Nat.zero_le _, Nat.zero_le _⟩ (fun v1 σ1 τ1 hq => ?_)
      obtain ⟨rfl, rfl, rfl⟩ := hq
      exact y_iret C rfl dX9_room_44 (by first | exact ⟨hr1, Or.inr ⟨hkn, hM1, hC1, hF1.mono mS_5, rfl⟩⟩ | exact ⟨hr1, Or.inl ⟨hk0, rfl, hM1, hC1, hF1.mono mS_5, rfl⟩⟩)
    · -- f
      have hkn : ¬ kRW r u v 0 6 = 0 := fun z => c31 ((ref0 (kRW_p _ _ _ _ _)).mpr z)
      refine y_iconst (v := 0) C dX9_room_34 (by decide) ?_
      refine y_goto (t := 44) C dX9_room_35 (by decide) ?_
      exact y_iret C rfl dX9_room_44 (by first | exact ⟨hr1, Or.inr ⟨hkn, hM1, hC1, hF1.mono mS_5, rfl⟩⟩ | exact ⟨hr1, Or.inl ⟨hk0, rfl, hM1, hC1, hF1.mono mS_5, rfl⟩⟩)
  ·
    refine y_aload_n C dX9_room_1 rfl ?_
    refine y_iload_n C dX9_room_2 rfl ?_
    refine y_callVi C (e_X9_isRoomR _ _ hM I _) dX9_room_3 rfl gX9_room_X9_isRoom rfl (is_X9) ⟨rfl, qX9_isRoom⟩ ⟨rfl, rfl⟩ ⟨Nat.le_of_ble_eq_true rfl, Nat.le_of_ble_eq_true rfl⟩ rfl (Nat.le_of_ble_eq_true rfl) ⟨Nat.zero_le _, Nat.zero_le _⟩ (fun v1 σ1 τ1 hq => ?_)
    obtain ⟨rfl, rfl, rfl⟩ := hq
    refine y_if_ne (t := 13) C dX9_room_6 (by decide) (fun c6 => ?_) (fun c6 => ?_)
    · -- t
      refine y_iload_n C dX9_room_13 rfl ?_
      refine y_iconst (v := 0) C dX9_room_14 (by decide) ?_
      refine y_bipush (v := 6) C dX9_room_15 (by decide) ?_
      refine y_callSi C (e_X9_within _ _ _ _ _) dX9_room_17 rfl gX9_room_X9_within rfl qX9_within ⟨rfl, rfl⟩ ⟨Nat.le_of_ble_eq_true rfl, Nat.le_of_ble_eq_true rfl⟩ rfl (Nat.le_of_ble_eq_true rfl) ⟨Nat.zero_le _, Nat.zero_le _⟩ (fun v1 σ1 τ1 hq => ?_)
      obtain ⟨rfl, rfl, rfl⟩ := hq
      refine y_if_ne (t := 27) C dX9_room_20 (by decide) (fun c20 => ?_) (fun c20 => ?_)
      · -- t
        refine y_iconst (v := 0) C dX9_room_27 (by decide) ?_
        exact y_kE K1 (by unfold kRW; first | (rw [if_pos c6]; done) | (rw [if_neg c6, if_pos c20]; done) | (rw [if_neg c6, if_neg c20]; done))
      · -- f
        refine y_iconst (v := 2) C dX9_room_23 (by decide) ?_
        refine y_goto (t := 28) C dX9_room_24 (by decide) ?_
        exact y_kE K1 (by unfold kRW; first | (rw [if_pos c6]; done) | (rw [if_neg c6, if_pos c20]; done) | (rw [if_neg c6, if_neg c20]; done))
    · -- f
      refine y_iconst (v := 1) C dX9_room_9 (by decide) ?_
      refine y_goto (t := 28) C dX9_room_10 (by decide) ?_
      exact y_kE K1 (by unfold kRW; first | (rw [if_pos c6]; done) | (rw [if_neg c6, if_pos c20]; done) | (rw [if_neg c6, if_neg c20]; done))
set_option maxHeartbeats 4000000 in
set_option maxRecDepth 100000 in
theorem e_X9_sensor (σ : xS) (τ : xT) {r : Rw} {R ns nr ne t kp : Nat} {qs : Nat → Rw} (hM : σ 166 = r) (hC : RecM σ kp qs) (hk : kp ≤ 4) (I : Inv r R ns nr ne t (t + 1)) (u v : Int32) : Xi mX9_sensor [.ref 165, .int u, .int v] σ τ (QM (kSW r u v 0 8) (mSenT r (cN u) v) σ τ r kp qs (r) (kp) (qs)) := by
  have hR4 := I.1.1.2
  have hs8 := I.1.2.1.2
  have hr8 := I.1.2.2.1.2
  have he20 := I.1.2.2.2.1.2
  refine Xi_mk (L := [some (.ref 165), some (.int u), some (.int v)]) (by decide) rfl (Nat.le_of_ble_eq_true rfl) rfl (fun x C => ?_)
  refine y_aload_n C dX9_sensor_0 rfl ?_
  refine y_join (t := 28) (v := .int (kSW r u v 0 8)) ?_ (fun K1 => ?_)
  ·
    refine y_callVi C (e_X9_refused _ _ hM hC _) dX9_sensor_28 rfl gX9_sensor_X9_refused rfl (is_X9) ⟨rfl, qX9_refused⟩ ⟨rfl, rfl⟩ ⟨Nat.le_of_ble_eq_true rfl, Nat.le_of_ble_eq_true rfl⟩ rfl (Nat.le_of_ble_eq_true rfl) ⟨Nat.zero_le _, Nat.zero_le _⟩ (fun v1 σ1 τ1 hq => ?_)
    obtain ⟨rfl, hM1, hC1, hr1, hF1, rfl⟩ := hq
    refine y_if_eq (t := 38) C dX9_sensor_31 (by decide) (fun c31 => ?_) (fun c31 => ?_)
    · -- t
      have hk0 : kSW r u v 0 8 = 0 := (ref0 (kSW_p _ _ _ _ _)).mp c31
      obtain ⟨i, hi, rfl⟩ := sens_of I (kSW_0 hk0).1
      rw [cN_nI (n := i) (by omega)]
      obtain ⟨w, hw, rfl⟩ := with0 8 (by decide) rfl (kSW_0 hk0).2
      refine y_aload_n C dX9_sensor_38 rfl ?_
      refine y_iload_n C dX9_sensor_39 rfl ?_
      refine y_iload_n C dX9_sensor_40 rfl ?_
      refine y_callVi C (e_X9_sensorTold _ _ hM1 I i w hi (by omega)) dX9_sensor_41 rfl gX9_sensor_X9_sensorTold rfl (is_X9) ⟨rfl, qX9_sensorTold⟩ ⟨rfl, rfl⟩ ⟨Nat.le_of_ble_eq_true rfl, Nat.le_of_ble_eq_true rfl⟩ rfl (Nat.le_of_ble_eq_true rfl) ⟨Nat.zero_le _, Nat.zero_le _⟩ (fun v1 σ1 τ1 hq => ?_)
      obtain ⟨rfl, rfl, rfl⟩ := hq
      exact y_iret C rfl dX9_sensor_44 (by first | exact ⟨hr1, Or.inr ⟨hkn, hM1, hC1, hF1.mono mS_5, rfl⟩⟩ | exact ⟨hr1, Or.inl ⟨hk0, rfl, hM1, hC1, hF1.mono mS_5, rfl⟩⟩)
    · -- f
      have hkn : ¬ kSW r u v 0 8 = 0 := fun z => c31 ((ref0 (kSW_p _ _ _ _ _)).mpr z)
      refine y_iconst (v := 0) C dX9_sensor_34 (by decide) ?_
      refine y_goto (t := 44) C dX9_sensor_35 (by decide) ?_
      exact y_iret C rfl dX9_sensor_44 (by first | exact ⟨hr1, Or.inr ⟨hkn, hM1, hC1, hF1.mono mS_5, rfl⟩⟩ | exact ⟨hr1, Or.inl ⟨hk0, rfl, hM1, hC1, hF1.mono mS_5, rfl⟩⟩)
  ·
    refine y_aload_n C dX9_sensor_1 rfl ?_
    refine y_iload_n C dX9_sensor_2 rfl ?_
    refine y_callVi C (e_X9_isSensor _ _ hM I _) dX9_sensor_3 rfl gX9_sensor_X9_isSensor rfl (is_X9) ⟨rfl, qX9_isSensor⟩ ⟨rfl, rfl⟩ ⟨Nat.le_of_ble_eq_true rfl, Nat.le_of_ble_eq_true rfl⟩ rfl (Nat.le_of_ble_eq_true rfl) ⟨Nat.zero_le _, Nat.zero_le _⟩ (fun v1 σ1 τ1 hq => ?_)
    obtain ⟨rfl, rfl, rfl⟩ := hq
    refine y_if_ne (t := 13) C dX9_sensor_6 (by decide) (fun c6 => ?_) (fun c6 => ?_)
    · -- t
      refine y_iload_n C dX9_sensor_13 rfl ?_
      refine y_iconst (v := 0) C dX9_sensor_14 (by decide) ?_
      refine y_bipush (v := 8) C dX9_sensor_15 (by decide) ?_
      refine y_callSi C (e_X9_within _ _ _ _ _) dX9_sensor_17 rfl gX9_sensor_X9_within rfl qX9_within ⟨rfl, rfl⟩ ⟨Nat.le_of_ble_eq_true rfl, Nat.le_of_ble_eq_true rfl⟩ rfl (Nat.le_of_ble_eq_true rfl) ⟨Nat.zero_le _, Nat.zero_le _⟩ (fun v1 σ1 τ1 hq => ?_)
      obtain ⟨rfl, rfl, rfl⟩ := hq
      refine y_if_ne (t := 27) C dX9_sensor_20 (by decide) (fun c20 => ?_) (fun c20 => ?_)
      · -- t
        refine y_iconst (v := 0) C dX9_sensor_27 (by decide) ?_
        exact y_kE K1 (by unfold kSW; first | (rw [if_pos c6]; done) | (rw [if_neg c6, if_pos c20]; done) | (rw [if_neg c6, if_neg c20]; done))
      · -- f
        refine y_iconst (v := 2) C dX9_sensor_23 (by decide) ?_
        refine y_goto (t := 28) C dX9_sensor_24 (by decide) ?_
        exact y_kE K1 (by unfold kSW; first | (rw [if_pos c6]; done) | (rw [if_neg c6, if_pos c20]; done) | (rw [if_neg c6, if_neg c20]; done))
    · -- f
      refine y_iconst (v := 1) C dX9_sensor_9 (by decide) ?_
      refine y_goto (t := 28) C dX9_sensor_10 (by decide) ?_
      exact y_kE K1 (by unfold kSW; first | (rw [if_pos c6]; done) | (rw [if_neg c6, if_pos c20]; done) | (rw [if_neg c6, if_neg c20]; done))
set_option maxHeartbeats 4000000 in
set_option maxRecDepth 100000 in
theorem e_X9_info (σ : xS) (τ : xT) {r : Rw} {R ns nr ne t kp : Nat} {qs : Nat → Rw} (hM : σ 166 = r) (hC : RecM σ kp qs) (hk : kp ≤ 4) (I : Inv r R ns nr ne t (t + 1)) (u : Int32) : Xi mX9_info [.ref 165, .int u] σ τ (QM (kW u 0 14) (mNum r u) σ τ r kp qs (r) (kp) (qs)) := by
  have hR4 := I.1.1.2
  have hs8 := I.1.2.1.2
  have hr8 := I.1.2.2.1.2
  have he20 := I.1.2.2.2.1.2
  refine Xi_mk (L := [some (.ref 165), some (.int u)]) (by decide) rfl (Nat.le_of_ble_eq_true rfl) rfl (fun x C => ?_)
  refine y_aload_n C dX9_info_0 rfl ?_
  refine y_join (t := 16) (v := .int (kW u 0 14)) ?_ (fun K1 => ?_)
  ·
    refine y_callVi C (e_X9_refused _ _ hM hC _) dX9_info_16 rfl gX9_info_X9_refused rfl (is_X9) ⟨rfl, qX9_refused⟩ ⟨rfl, rfl⟩ ⟨Nat.le_of_ble_eq_true rfl, Nat.le_of_ble_eq_true rfl⟩ rfl (Nat.le_of_ble_eq_true rfl) ⟨Nat.zero_le _, Nat.zero_le _⟩ (fun v1 σ1 τ1 hq => ?_)
    obtain ⟨rfl, hM1, hC1, hr1, hF1, rfl⟩ := hq
    refine y_if_eq (t := 26) C dX9_info_19 (by decide) (fun c19 => ?_) (fun c19 => ?_)
    · -- t
      have hk0 : kW u 0 14 = 0 := (ref0 (kW_p _ _ _)).mp c19
      obtain ⟨w, hw, rfl⟩ := with0 14 (by decide) rfl (kW_0 hk0)
      refine y_aload_n C dX9_info_26 rfl ?_
      refine y_iload_n C dX9_info_27 rfl ?_
      refine y_callVi C (e_X9_number _ _ hM1 w (by omega)) dX9_info_28 rfl gX9_info_X9_number rfl (is_X9) ⟨rfl, qX9_number⟩ ⟨rfl, rfl⟩ ⟨Nat.le_of_ble_eq_true rfl, Nat.le_of_ble_eq_true rfl⟩ rfl (Nat.le_of_ble_eq_true rfl) ⟨Nat.zero_le _, Nat.zero_le _⟩ (fun v1 σ1 τ1 hq => ?_)
      obtain ⟨rfl, rfl, rfl⟩ := hq
      exact y_iret C rfl dX9_info_31 (by first | exact ⟨hr1, Or.inr ⟨hkn, hM1, hC1, hF1.mono mS_5, rfl⟩⟩ | exact ⟨hr1, Or.inl ⟨hk0, rfl, hM1, hC1, hF1.mono mS_5, rfl⟩⟩)
    · -- f
      have hkn : ¬ kW u 0 14 = 0 := fun z => c19 ((ref0 (kW_p _ _ _)).mpr z)
      refine y_iconst (v := 0) C dX9_info_22 (by decide) ?_
      refine y_goto (t := 31) C dX9_info_23 (by decide) ?_
      exact y_iret C rfl dX9_info_31 (by first | exact ⟨hr1, Or.inr ⟨hkn, hM1, hC1, hF1.mono mS_5, rfl⟩⟩ | exact ⟨hr1, Or.inl ⟨hk0, rfl, hM1, hC1, hF1.mono mS_5, rfl⟩⟩)
  ·
    refine y_iload_n C dX9_info_1 rfl ?_
    refine y_iconst (v := 0) C dX9_info_2 (by decide) ?_
    refine y_bipush (v := 14) C dX9_info_3 (by decide) ?_
    refine y_callSi C (e_X9_within _ _ _ _ _) dX9_info_5 rfl gX9_info_X9_within rfl qX9_within ⟨rfl, rfl⟩ ⟨Nat.le_of_ble_eq_true rfl, Nat.le_of_ble_eq_true rfl⟩ rfl (Nat.le_of_ble_eq_true rfl) ⟨Nat.zero_le _, Nat.zero_le _⟩ (fun v1 σ1 τ1 hq => ?_)
    obtain ⟨rfl, rfl, rfl⟩ := hq
    refine y_if_eq (t := 15) C dX9_info_8 (by decide) (fun c8 => ?_) (fun c8 => ?_)
    · -- t
      refine y_iconst (v := 1) C dX9_info_15 (by decide) ?_
      exact y_kE K1 (by unfold kW; first | (rw [if_pos c8]; done) | (rw [if_neg c8]; done))
    · -- f
      refine y_iconst (v := 0) C dX9_info_11 (by decide) ?_
      refine y_goto (t := 16) C dX9_info_12 (by decide) ?_
      exact y_kE K1 (by unfold kW; first | (rw [if_pos c8]; done) | (rw [if_neg c8]; done))
set_option maxHeartbeats 4000000 in
set_option maxRecDepth 100000 in
theorem e_X9_told (σ : xS) (τ : xT) {r : Rw} {R ns nr ne t kp : Nat} {qs : Nat → Rw} (hM : σ 166 = r) (hC : RecM σ kp qs) (hk : kp ≤ 4) (I : Inv r R ns nr ne t (t + 1)) (u : Int32) : Xi mX9_told [.ref 165, .int u] σ τ (QM (kW u 0 5) (r (13 + cN u)) σ τ r kp qs (r) (kp) (qs)) := by
  have hR4 := I.1.1.2
  have hs8 := I.1.2.1.2
  have hr8 := I.1.2.2.1.2
  have he20 := I.1.2.2.2.1.2
  refine Xi_mk (L := [some (.ref 165), some (.int u)]) (by decide) rfl (Nat.le_of_ble_eq_true rfl) rfl (fun x C => ?_)
  refine y_aload_n C dX9_told_0 rfl ?_
  refine y_join (t := 15) (v := .int (kW u 0 5)) ?_ (fun K1 => ?_)
  ·
    refine y_callVi C (e_X9_refused _ _ hM hC _) dX9_told_15 rfl gX9_told_X9_refused rfl (is_X9) ⟨rfl, qX9_refused⟩ ⟨rfl, rfl⟩ ⟨Nat.le_of_ble_eq_true rfl, Nat.le_of_ble_eq_true rfl⟩ rfl (Nat.le_of_ble_eq_true rfl) ⟨Nat.zero_le _, Nat.zero_le _⟩ (fun v1 σ1 τ1 hq => ?_)
    obtain ⟨rfl, hM1, hC1, hr1, hF1, rfl⟩ := hq
    refine y_if_eq (t := 25) C dX9_told_18 (by decide) (fun c18 => ?_) (fun c18 => ?_)
    · -- t
      have hk0 : kW u 0 5 = 0 := (ref0 (kW_p _ _ _)).mp c18
      obtain ⟨w, hw, rfl⟩ := with0 5 (by decide) rfl (kW_0 hk0)
      rw [cN_nI (n := w) (by omega)]
      refine y_aload_n C dX9_told_25 rfl ?_
      refine g_X9_now C dX9_told_26 (by decide +kernel) (by decide +kernel) ?_
      refine y_bipush (v := 13) C dX9_told_29 (by decide) ?_
      refine y_iload_n C dX9_told_31 rfl ?_
      refine y_iadd C dX9_told_32 ?_
      refine mA C hM1 (13 + w) (nI_add 13 w) (by omega) dX9_told_33 ?_
      exact y_iret C rfl dX9_told_34 (by first | exact ⟨hr1, Or.inr ⟨hkn, hM1, hC1, hF1.mono mS_5, rfl⟩⟩ | exact ⟨hr1, Or.inl ⟨hk0, rfl, hM1, hC1, hF1.mono mS_5, rfl⟩⟩)
    · -- f
      have hkn : ¬ kW u 0 5 = 0 := fun z => c18 ((ref0 (kW_p _ _ _)).mpr z)
      refine y_iconst (v := 0) C dX9_told_21 (by decide) ?_
      refine y_goto (t := 34) C dX9_told_22 (by decide) ?_
      exact y_iret C rfl dX9_told_34 (by first | exact ⟨hr1, Or.inr ⟨hkn, hM1, hC1, hF1.mono mS_5, rfl⟩⟩ | exact ⟨hr1, Or.inl ⟨hk0, rfl, hM1, hC1, hF1.mono mS_5, rfl⟩⟩)
  ·
    refine y_iload_n C dX9_told_1 rfl ?_
    refine y_iconst (v := 0) C dX9_told_2 (by decide) ?_
    refine y_iconst (v := 5) C dX9_told_3 (by decide) ?_
    refine y_callSi C (e_X9_within _ _ _ _ _) dX9_told_4 rfl gX9_told_X9_within rfl qX9_within ⟨rfl, rfl⟩ ⟨Nat.le_of_ble_eq_true rfl, Nat.le_of_ble_eq_true rfl⟩ rfl (Nat.le_of_ble_eq_true rfl) ⟨Nat.zero_le _, Nat.zero_le _⟩ (fun v1 σ1 τ1 hq => ?_)
    obtain ⟨rfl, rfl, rfl⟩ := hq
    refine y_if_eq (t := 14) C dX9_told_7 (by decide) (fun c7 => ?_) (fun c7 => ?_)
    · -- t
      refine y_iconst (v := 1) C dX9_told_14 (by decide) ?_
      exact y_kE K1 (by unfold kW; first | (rw [if_pos c7]; done) | (rw [if_neg c7]; done))
    · -- f
      refine y_iconst (v := 0) C dX9_told_10 (by decide) ?_
      refine y_goto (t := 15) C dX9_told_11 (by decide) ?_
      exact y_kE K1 (by unfold kW; first | (rw [if_pos c7]; done) | (rw [if_neg c7]; done))
set_option maxHeartbeats 4000000 in
set_option maxRecDepth 100000 in
theorem e_X9_event (σ : xS) (τ : xT) {r : Rw} {R ns nr ne t kp : Nat} {qs : Nat → Rw} (hM : σ 166 = r) (hC : RecM σ kp qs) (hk : kp ≤ 4) (I : Inv r R ns nr ne t (t + 1)) (u v : Int32) : Xi mX9_event [.ref 165, .int u, .int v] σ τ (QM (kW v 0 3) (if 0 ≤ u ∧ u < r 12 then r (145 + 4 * cN u + cN v) else -1) σ τ r kp qs (r) (kp) (qs)) := by
  have hR4 := I.1.1.2
  have hs8 := I.1.2.1.2
  have hr8 := I.1.2.2.1.2
  have he20 := I.1.2.2.2.1.2
  refine Xi_mk (L := [some (.ref 165), some (.int u), some (.int v)]) (by decide) rfl (Nat.le_of_ble_eq_true rfl) rfl (fun x C => ?_)
  refine y_aload_n C dX9_event_0 rfl ?_
  refine y_join (t := 15) (v := .int (kW v 0 3)) ?_ (fun K1 => ?_)
  ·
    refine y_callVi C (e_X9_refused _ _ hM hC _) dX9_event_15 rfl gX9_event_X9_refused rfl (is_X9) ⟨rfl, qX9_refused⟩ ⟨rfl, rfl⟩ ⟨Nat.le_of_ble_eq_true rfl, Nat.le_of_ble_eq_true rfl⟩ rfl (Nat.le_of_ble_eq_true rfl) ⟨Nat.zero_le _, Nat.zero_le _⟩ (fun v1 σ1 τ1 hq => ?_)
    obtain ⟨rfl, hM1, hC1, hr1, hF1, rfl⟩ := hq
    refine y_if_eq (t := 23) C dX9_event_18 (by decide) (fun c18 => ?_) (fun c18 => ?_)
    · -- t
      have hk0 : kW v 0 3 = 0 := (ref0 (kW_p _ _ _)).mp c18
      refine y_iload_n C dX9_event_23 rfl ?_
      refine y_iconst (v := 0) C dX9_event_24 (by decide) ?_
      refine y_aload_n C dX9_event_25 rfl ?_
      refine g_X9_now C dX9_event_26 (by decide +kernel) (by decide +kernel) ?_
      refine y_bipush (v := 12) C dX9_event_29 (by decide) ?_
      refine mA C hM1 12 rfl (by decide) dX9_event_31 ?_
      refine y_iconst (v := 1) C dX9_event_32 (by decide) ?_
      refine y_isub C dX9_event_33 ?_
      refine y_callSi C (e_X9_within _ _ _ _ _) dX9_event_34 rfl gX9_event_X9_within rfl qX9_within ⟨rfl, rfl⟩ ⟨Nat.le_of_ble_eq_true rfl, Nat.le_of_ble_eq_true rfl⟩ rfl (Nat.le_of_ble_eq_true rfl) ⟨Nat.zero_le _, Nat.zero_le _⟩ (fun v1 σ1 τ1 hq => ?_)
      obtain ⟨rfl, rfl, rfl⟩ := hq
      refine y_topE (if 0 ≤ u ∧ u < r 12 then 1 else 0) (by rw [I.1.2.2.2.1.1, with_pred (by omega) u]) ?_
      refine y_if_eq (t := 57) C dX9_event_37 (by decide) (fun c37 => ?_) (fun c37 => ?_)
      · -- t
        have h30 : ¬ (0 ≤ u ∧ u < r 12) := fun z => by rw [if_pos z] at c37; exact absurd c37 (by decide)
        refine y_iconst (v := -1) C dX9_event_57 (by decide) ?_
        exact y_iret C rfl dX9_event_58 (⟨hr1, Or.inl ⟨hk0, by first | (rw [if_pos h30]; done) | (rw [if_neg h30]; done), hM1, hC1, hF1.mono mS_5, rfl⟩⟩)
      · -- f
        have h30 : 0 ≤ u ∧ u < r 12 := Decidable.not_not.mp (fun z => c37 (if_neg z))
        obtain ⟨k, hk9, rfl⟩ := in_of (n := ne) (by omega) (by rw [I.1.2.2.2.1.1] at h30; exact h30)
        obtain ⟨w, hw, rfl⟩ := with0 3 (by decide) rfl (kW_0 hk0)
        rw [cN_nI (n := k) (by omega), cN_nI (n := w) (by omega)]
        refine y_aload_n C dX9_event_40 rfl ?_
        refine g_X9_now C dX9_event_41 (by decide +kernel) (by decide +kernel) ?_
        refine y_sipush (v := 145) C dX9_event_44 (by decide) ?_
        refine y_iconst (v := 4) C dX9_event_47 (by decide) ?_
        refine y_iload_n C dX9_event_48 rfl ?_
        refine y_imul C dX9_event_49 ?_
        refine y_iadd C dX9_event_50 ?_
        refine y_iload_n C dX9_event_51 rfl ?_
        refine y_iadd C dX9_event_52 ?_
        refine mA C hM1 (145 + 4 * k + w) (by simp only [← nI_add, ← pk_mul]; rfl) (by omega) dX9_event_53 ?_
        refine y_goto (t := 58) C dX9_event_54 (by decide) ?_
        exact y_iret C rfl dX9_event_58 (⟨hr1, Or.inl ⟨hk0, by first | (rw [if_pos h30]; done) | (rw [if_neg h30]; done), hM1, hC1, hF1.mono mS_5, rfl⟩⟩)
    · -- f
      have hkn : ¬ kW v 0 3 = 0 := fun z => c18 ((ref0 (kW_p _ _ _)).mpr z)
      refine y_iconst (v := 0) C dX9_event_21 (by decide) ?_
      exact y_iret C rfl dX9_event_22 (⟨hr1, Or.inr ⟨hkn, hM1, hC1, hF1.mono mS_5, rfl⟩⟩)
  ·
    refine y_iload_n C dX9_event_1 rfl ?_
    refine y_iconst (v := 0) C dX9_event_2 (by decide) ?_
    refine y_iconst (v := 3) C dX9_event_3 (by decide) ?_
    refine y_callSi C (e_X9_within _ _ _ _ _) dX9_event_4 rfl gX9_event_X9_within rfl qX9_within ⟨rfl, rfl⟩ ⟨Nat.le_of_ble_eq_true rfl, Nat.le_of_ble_eq_true rfl⟩ rfl (Nat.le_of_ble_eq_true rfl) ⟨Nat.zero_le _, Nat.zero_le _⟩ (fun v1 σ1 τ1 hq => ?_)
    obtain ⟨rfl, rfl, rfl⟩ := hq
    refine y_if_eq (t := 14) C dX9_event_7 (by decide) (fun c7 => ?_) (fun c7 => ?_)
    · -- t
      refine y_iconst (v := 1) C dX9_event_14 (by decide) ?_
      exact y_kE K1 (by unfold kW; first | (rw [if_pos c7]; done) | (rw [if_neg c7]; done))
    · -- f
      refine y_iconst (v := 0) C dX9_event_10 (by decide) ?_
      refine y_goto (t := 15) C dX9_event_11 (by decide) ?_
      exact y_kE K1 (by unfold kW; first | (rw [if_pos c7]; done) | (rw [if_neg c7]; done))
set_option maxHeartbeats 4000000 in
set_option maxRecDepth 100000 in
theorem e_X9_applying (σ : xS) (τ : xT) {r : Rw} {R ns nr ne t kp : Nat} {qs : Nat → Rw} (hM : σ 166 = r) (hC : RecM σ kp qs) (hk : kp ≤ 4) (I : Inv r R ns nr ne t (t + 1)) : Xi mX9_applying [.ref 165] σ τ (QM (0) (mFst r) σ τ r kp qs (r) (kp) (qs)) := by
  have hR4 := I.1.1.2
  have hs8 := I.1.2.1.2
  have hr8 := I.1.2.2.1.2
  have he20 := I.1.2.2.2.1.2
  refine Xi_mk (L := [some (.ref 165)]) (by decide) rfl (Nat.le_of_ble_eq_true rfl) rfl (fun x C => ?_)
  refine y_aload_n C dX9_applying_0 rfl ?_
  refine y_iconst (v := 0) C dX9_applying_1 (by decide) ?_
  refine p_X9_refusal C dX9_applying_2 (by decide +kernel) (by decide +kernel) ?_
  refine y_aload_n C dX9_applying_5 rfl ?_
  refine y_callVi C (e_X9_firstRule _ _ (show (ups σ 165 (upd (σ 165) 4 0)) 166 = r by rw [ups_ne (by decide)]; exact hM) I) dX9_applying_6 rfl gX9_applying_X9_firstRule rfl (is_X9) ⟨rfl, qX9_firstRule⟩ ⟨rfl, rfl⟩ ⟨Nat.le_of_ble_eq_true rfl, Nat.le_of_ble_eq_true rfl⟩ rfl (Nat.le_of_ble_eq_true rfl) ⟨Nat.zero_le _, Nat.zero_le _⟩ (fun v1 σ1 τ1 hq => ?_)
  obtain ⟨rfl, rfl, rfl⟩ := hq
  exact y_iret C rfl dX9_applying_9 (⟨by rw [ups_eq, upd_eq], Or.inl ⟨rfl, rfl, by rw [ups_ne (by decide)]; exact hM, ⟨by rw [ups_eq, upd_ne (by decide)]; exact hC.1, fun j hj i hi => by rw [ups_ne (by decide)]; exact hC.2 j hj i hi⟩, Fr.ups ⟨by decide, by decide⟩, rfl⟩⟩)
set_option maxHeartbeats 4000000 in
set_option maxRecDepth 100000 in
theorem e_X9_addSensor (σ : xS) (τ : xT) {r : Rw} {R ns nr ne t kp : Nat} {qs : Nat → Rw} (hM : σ 166 = r) (hC : RecM σ kp qs) (hk : kp ≤ 4) (I : Inv r R ns nr ne t (t + 1)) (a b c d e : Int32) : Xi mX9_addSensor [.ref 165, .int a, .int b, .int c, .int d, .int e] σ τ (QM (kASe r a b c d e) (r 10) σ τ r kp qs (mASe r ns a b c d e) ((kK kp)) ((kQ kp qs r))) := by
  have hR4 := I.1.1.2
  have hs8 := I.1.2.1.2
  have hr8 := I.1.2.2.1.2
  have he20 := I.1.2.2.2.1.2
  refine Xi_mk (L := [some (.ref 165), some (.int a), some (.int b), some (.int c), some (.int d), some (.int e), none, none]) (by decide) rfl (Nat.le_of_ble_eq_true rfl) rfl (fun x C => ?_)
  refine y_join (t := 46) (v := .int (if mWithI b 0 2 = 0 ∨ mWithI c 1 9999 = 0 ∨ mWithI d 0 9 = 0 ∨ mWithI e 1 3 = 0 then 0 else 1)) ?_ (fun K0 => ?_)
  ·
    refine y_istore C dX9_addSensor_46 (L' := [_, _, _, _, _, _, _, _]) (Nat.lt_of_lt_of_le (by decide : (6 : Nat) < 8) (Nat.le_refl _)) rfl ?_
    refine y_aload_n C dX9_addSensor_48 rfl ?_
    refine y_join (t := 87) (v := .int (kASe r a b c d e)) ?_ (fun K49 => ?_)
    ·
      refine y_callVi C (e_X9_refused _ _ hM hC _) dX9_addSensor_87 rfl gX9_addSensor_X9_refused rfl (is_X9) ⟨rfl, qX9_refused⟩ ⟨rfl, rfl⟩ ⟨Nat.le_of_ble_eq_true rfl, Nat.le_of_ble_eq_true rfl⟩ rfl (Nat.le_of_ble_eq_true rfl) ⟨Nat.zero_le _, Nat.zero_le _⟩ (fun v1 σ1 τ1 hq => ?_)
      obtain ⟨rfl, hM1, hC1, hr1, hF1, rfl⟩ := hq
      refine y_if_eq (t := 95) C dX9_addSensor_90 (by decide) (fun c90 => ?_) (fun c90 => ?_)
      · -- t
        have hk0 : kASe r a b c d e = 0 := (ref0 (kASe_p _ _ _ _ _ _)).mp c90
        have h8 : ns < 8 := Nat.lt_of_le_of_ne hs8 (fun z => (kASe_0 hk0).2.2 (by rw [I.1.2.1.1, z]; rfl))
        refine y_aload_n C dX9_addSensor_95 rfl ?_
        refine y_callVv C (e_savesR _ _ hk hC1 hM1) dX9_addSensor_96 rfl gX9_addSensor_X9_saves rfl (is_X9) ⟨rfl, qX9_saves⟩ ⟨rfl, rfl⟩ ⟨Nat.le_of_ble_eq_true rfl, Nat.le_of_ble_eq_true rfl⟩ rfl (Nat.le_of_ble_eq_true rfl) ⟨Nat.zero_le _, Nat.zero_le _⟩ (fun σ2 τ2 hq => ?_)
        obtain ⟨hC2, hM2, hr2, hF2, rfl⟩ := hq
        refine y_bipush (v := 57) C dX9_addSensor_99 (by decide) ?_
        refine y_bipush (v := 7) C dX9_addSensor_101 (by decide) ?_
        refine y_aload_n C dX9_addSensor_103 rfl ?_
        refine g_X9_now C dX9_addSensor_104 (by decide +kernel) (by decide +kernel) ?_
        refine y_bipush (v := 10) C dX9_addSensor_107 (by decide) ?_
        refine mA C hM2 10 rfl (by decide) dX9_addSensor_109 ?_
        refine y_imul C dX9_addSensor_110 ?_
        refine y_iadd C dX9_addSensor_111 ?_
        refine y_topE (nI (57 + 7 * ns)) (by rw [I.1.2.1.1]; simp only [← nI_add, ← pk_mul]; rfl) ?_
        refine y_istore C dX9_addSensor_112 (L' := [_, _, _, _, _, _, _, _]) (Nat.lt_of_lt_of_le (by decide : (7 : Nat) < 8) (Nat.le_refl _)) rfl ?_
        refine y_aload_n C dX9_addSensor_114 rfl ?_
        refine g_X9_now C dX9_addSensor_115 (by decide +kernel) (by decide +kernel) ?_
        refine y_iload C dX9_addSensor_118 rfl ?_
        refine y_iload_n C dX9_addSensor_120 rfl ?_
        refine mW C hM2 (57 + 7 * ns + 0) rfl (by omega) dX9_addSensor_121 (fun σ3 hM3 hF3 => ?_)
        refine y_aload_n C dX9_addSensor_122 rfl ?_
        refine g_X9_now C dX9_addSensor_123 (by decide +kernel) (by decide +kernel) ?_
        refine y_iload C dX9_addSensor_126 rfl ?_
        refine y_iconst (v := 1) C dX9_addSensor_128 (by decide) ?_
        refine y_iadd C dX9_addSensor_129 ?_
        refine y_iload_n C dX9_addSensor_130 rfl ?_
        refine mW C hM3 (57 + 7 * ns + 1) (by simp only [← nI_add, ← pk_mul]; rfl) (by omega) dX9_addSensor_131 (fun σ4 hM4 hF4 => ?_)
        refine y_aload_n C dX9_addSensor_132 rfl ?_
        refine g_X9_now C dX9_addSensor_133 (by decide +kernel) (by decide +kernel) ?_
        refine y_iload C dX9_addSensor_136 rfl ?_
        refine y_iconst (v := 2) C dX9_addSensor_138 (by decide) ?_
        refine y_iadd C dX9_addSensor_139 ?_
        refine y_iload_n C dX9_addSensor_140 rfl ?_
        refine mW C hM4 (57 + 7 * ns + 2) (by simp only [← nI_add, ← pk_mul]; rfl) (by omega) dX9_addSensor_141 (fun σ5 hM5 hF5 => ?_)
        refine y_aload_n C dX9_addSensor_142 rfl ?_
        refine g_X9_now C dX9_addSensor_143 (by decide +kernel) (by decide +kernel) ?_
        refine y_iload C dX9_addSensor_146 rfl ?_
        refine y_iconst (v := 3) C dX9_addSensor_148 (by decide) ?_
        refine y_iadd C dX9_addSensor_149 ?_
        refine y_iload C dX9_addSensor_150 rfl ?_
        refine mW C hM5 (57 + 7 * ns + 3) (by simp only [← nI_add, ← pk_mul]; rfl) (by omega) dX9_addSensor_152 (fun σ6 hM6 hF6 => ?_)
        refine y_aload_n C dX9_addSensor_153 rfl ?_
        refine g_X9_now C dX9_addSensor_154 (by decide +kernel) (by decide +kernel) ?_
        refine y_iload C dX9_addSensor_157 rfl ?_
        refine y_iconst (v := 4) C dX9_addSensor_159 (by decide) ?_
        refine y_iadd C dX9_addSensor_160 ?_
        refine y_iload C dX9_addSensor_161 rfl ?_
        refine mW C hM6 (57 + 7 * ns + 4) (by simp only [← nI_add, ← pk_mul]; rfl) (by omega) dX9_addSensor_163 (fun σ7 hM7 hF7 => ?_)
        refine y_aload_n C dX9_addSensor_164 rfl ?_
        refine g_X9_now C dX9_addSensor_165 (by decide +kernel) (by decide +kernel) ?_
        refine y_iload C dX9_addSensor_168 rfl ?_
        refine y_iconst (v := 5) C dX9_addSensor_170 (by decide) ?_
        refine y_iadd C dX9_addSensor_171 ?_
        refine y_iconst (v := 0) C dX9_addSensor_172 (by decide) ?_
        refine mW C hM7 (57 + 7 * ns + 5) (by simp only [← nI_add, ← pk_mul]; rfl) (by omega) dX9_addSensor_173 (fun σ8 hM8 hF8 => ?_)
        refine y_aload_n C dX9_addSensor_174 rfl ?_
        refine g_X9_now C dX9_addSensor_175 (by decide +kernel) (by decide +kernel) ?_
        refine y_iload C dX9_addSensor_178 rfl ?_
        refine y_bipush (v := 6) C dX9_addSensor_180 (by decide) ?_
        refine y_iadd C dX9_addSensor_182 ?_
        refine y_iconst (v := 0) C dX9_addSensor_183 (by decide) ?_
        refine mW C hM8 (57 + 7 * ns + 6) (by simp only [← nI_add, ← pk_mul]; rfl) (by omega) dX9_addSensor_184 (fun σ9 hM9 hF9 => ?_)
        refine y_aload_n C dX9_addSensor_185 rfl ?_
        refine g_X9_now C dX9_addSensor_186 (by decide +kernel) (by decide +kernel) ?_
        refine y_bipush (v := 10) C dX9_addSensor_189 (by decide) ?_
        refine y_dup2 C dX9_addSensor_191 rfl rfl ?_
        refine mA C hM9 10 rfl (by decide) dX9_addSensor_192 ?_
        refine y_iconst (v := 1) C dX9_addSensor_193 (by decide) ?_
        refine y_iadd C dX9_addSensor_194 ?_
        refine y_topE (nI (ns + 1)) (by rw [upd_ne (by omega), upd_ne (by omega), upd_ne (by omega), upd_ne (by omega), upd_ne (by omega), upd_ne (by omega), upd_ne (by omega), I.1.2.1.1, nI_1]) ?_
        refine mW C hM9 10 rfl (by decide) dX9_addSensor_195 (fun σ10 hM10 hF10 => ?_)
        have hM10 : σ10 166 = mASe r ns a b c d e := hM10
        have hF39 := (((((((hF3.trans hF4).trans hF5).trans hF6).trans hF7).trans hF8).trans hF9).trans hF10)
        refine y_aload_n C dX9_addSensor_196 rfl ?_
        refine g_X9_now C dX9_addSensor_197 (by decide +kernel) (by decide +kernel) ?_
        refine y_bipush (v := 10) C dX9_addSensor_200 (by decide) ?_
        refine mA C hM10 10 rfl (by decide) dX9_addSensor_202 ?_
        refine y_iconst (v := 1) C dX9_addSensor_203 (by decide) ?_
        refine y_isub C dX9_addSensor_204 ?_
        refine y_topE (r 10) (by unfold mASe; rw [upd_eq, I.1.2.1.1]; exact pk_sub (a := ns + 1) (b := 1) (by omega)) ?_
        exact y_iret C rfl dX9_addSensor_205 (⟨by rw [hF39 165 (by decide), hr2]; exact hr1, Or.inl ⟨hk0, rfl, hM10, hC2.k6 hF39, ((hF1.mono mS_5).trans (hF2.mono mS_57)).trans (hF39.mono mS_6), rfl⟩⟩)
      · -- f
        have hkn : ¬ kASe r a b c d e = 0 := fun z => c90 ((ref0 (kASe_p _ _ _ _ _ _)).mpr z)
        refine y_iconst (v := 0) C dX9_addSensor_93 (by decide) ?_
        exact y_iret C rfl dX9_addSensor_94 (⟨hr1, Or.inr ⟨hkn, hM1, hC1, hF1.mono mS_5, rfl⟩⟩)
    ·
      refine y_aload_n C dX9_addSensor_49 rfl ?_
      refine y_iload_n C dX9_addSensor_50 rfl ?_
      refine y_callVi C (e_X9_isRoomR _ _ hM I _) dX9_addSensor_51 rfl gX9_addSensor_X9_isRoom rfl (is_X9) ⟨rfl, qX9_isRoom⟩ ⟨rfl, rfl⟩ ⟨Nat.le_of_ble_eq_true rfl, Nat.le_of_ble_eq_true rfl⟩ rfl (Nat.le_of_ble_eq_true rfl) ⟨Nat.zero_le _, Nat.zero_le _⟩ (fun v1 σ1 τ1 hq => ?_)
      obtain ⟨rfl, rfl, rfl⟩ := hq
      refine y_if_ne (t := 61) C dX9_addSensor_54 (by decide) (fun c54 => ?_) (fun c54 => ?_)
      · -- t
        refine y_iload C dX9_addSensor_61 rfl ?_
        refine y_if_ne (t := 70) C dX9_addSensor_63 (by decide) (fun c63 => ?_) (fun c63 => ?_)
        · -- t
          refine y_aload_n C dX9_addSensor_70 rfl ?_
          refine g_X9_now C dX9_addSensor_71 (by decide +kernel) (by decide +kernel) ?_
          refine y_bipush (v := 10) C dX9_addSensor_74 (by decide) ?_
          refine mA C hM 10 rfl (by decide) dX9_addSensor_76 ?_
          refine y_bipush (v := 8) C dX9_addSensor_77 (by decide) ?_
          refine y_icmp_ne (t := 86) C dX9_addSensor_79 (by decide) (fun c79 => ?_) (fun c79 => ?_)
          · -- t
            refine y_iconst (v := 0) C dX9_addSensor_86 (by decide) ?_
            exact y_kE K49 (by unfold kASe; first | (rw [if_pos c54]; done) | (rw [if_neg c54, if_pos (gd_f c63)]; done) | (rw [if_neg c54, if_neg (gd_t c63), if_pos c79]; done) | (rw [if_neg c54, if_neg (gd_t c63), if_neg c79]; done))
          · -- f
            refine y_iconst (v := 3) C dX9_addSensor_82 (by decide) ?_
            refine y_goto (t := 87) C dX9_addSensor_83 (by decide) ?_
            exact y_kE K49 (by unfold kASe; first | (rw [if_pos c54]; done) | (rw [if_neg c54, if_pos (gd_f c63)]; done) | (rw [if_neg c54, if_neg (gd_t c63), if_pos c79]; done) | (rw [if_neg c54, if_neg (gd_t c63), if_neg c79]; done))
        · -- f
          refine y_iconst (v := 2) C dX9_addSensor_66 (by decide) ?_
          refine y_goto (t := 87) C dX9_addSensor_67 (by decide) ?_
          exact y_kE K49 (by unfold kASe; first | (rw [if_pos c54]; done) | (rw [if_neg c54, if_pos (gd_f c63)]; done) | (rw [if_neg c54, if_neg (gd_t c63), if_pos c79]; done) | (rw [if_neg c54, if_neg (gd_t c63), if_neg c79]; done))
      · -- f
        refine y_iconst (v := 1) C dX9_addSensor_57 (by decide) ?_
        refine y_goto (t := 87) C dX9_addSensor_58 (by decide) ?_
        exact y_kE K49 (by unfold kASe; first | (rw [if_pos c54]; done) | (rw [if_neg c54, if_pos (gd_f c63)]; done) | (rw [if_neg c54, if_neg (gd_t c63), if_pos c79]; done) | (rw [if_neg c54, if_neg (gd_t c63), if_neg c79]; done))
  ·
    refine y_iload_n C dX9_addSensor_0 rfl ?_
    refine y_iconst (v := 0) C dX9_addSensor_1 (by decide) ?_
    refine y_iconst (v := 2) C dX9_addSensor_2 (by decide) ?_
    refine y_callSi C (e_X9_within _ _ _ _ _) dX9_addSensor_3 rfl gX9_addSensor_X9_within rfl qX9_within ⟨rfl, rfl⟩ ⟨Nat.le_of_ble_eq_true rfl, Nat.le_of_ble_eq_true rfl⟩ rfl (Nat.le_of_ble_eq_true rfl) ⟨Nat.zero_le _, Nat.zero_le _⟩ (fun v1 σ1 τ1 hq => ?_)
    obtain ⟨rfl, rfl, rfl⟩ := hq
    refine y_if_eq (t := 45) C dX9_addSensor_6 (by decide) (fun c6 => ?_) (fun c6 => ?_)
    · -- t
      refine y_iconst (v := 0) C dX9_addSensor_45 (by decide) ?_
      exact y_kE K0 (by first | (rw [if_pos (Or.inl c6)]; done) | (rw [if_pos (Or.inr (Or.inl c17))]; done) | (rw [if_pos (Or.inr (Or.inr (Or.inl c28)))]; done) | (rw [if_pos (Or.inr (Or.inr (Or.inr c38)))]; done) | (rw [if_neg (fun z => z.elim c6 (fun z => z.elim c17 (fun z => z.elim c28 c38)))]; done))
    · -- f
      refine y_iload_n C dX9_addSensor_9 rfl ?_
      refine y_iconst (v := 1) C dX9_addSensor_10 (by decide) ?_
      refine y_sipush (v := 9999) C dX9_addSensor_11 (by decide) ?_
      refine y_callSi C (e_X9_within _ _ _ _ _) dX9_addSensor_14 rfl gX9_addSensor_X9_within rfl qX9_within ⟨rfl, rfl⟩ ⟨Nat.le_of_ble_eq_true rfl, Nat.le_of_ble_eq_true rfl⟩ rfl (Nat.le_of_ble_eq_true rfl) ⟨Nat.zero_le _, Nat.zero_le _⟩ (fun v1 σ1 τ1 hq => ?_)
      obtain ⟨rfl, rfl, rfl⟩ := hq
      refine y_if_eq (t := 45) C dX9_addSensor_17 (by decide) (fun c17 => ?_) (fun c17 => ?_)
      · -- t
        refine y_iconst (v := 0) C dX9_addSensor_45 (by decide) ?_
        exact y_kE K0 (by first | (rw [if_pos (Or.inl c6)]; done) | (rw [if_pos (Or.inr (Or.inl c17))]; done) | (rw [if_pos (Or.inr (Or.inr (Or.inl c28)))]; done) | (rw [if_pos (Or.inr (Or.inr (Or.inr c38)))]; done) | (rw [if_neg (fun z => z.elim c6 (fun z => z.elim c17 (fun z => z.elim c28 c38)))]; done))
      · -- f
        refine y_iload C dX9_addSensor_20 rfl ?_
        refine y_iconst (v := 0) C dX9_addSensor_22 (by decide) ?_
        refine y_bipush (v := 9) C dX9_addSensor_23 (by decide) ?_
        refine y_callSi C (e_X9_within _ _ _ _ _) dX9_addSensor_25 rfl gX9_addSensor_X9_within rfl qX9_within ⟨rfl, rfl⟩ ⟨Nat.le_of_ble_eq_true rfl, Nat.le_of_ble_eq_true rfl⟩ rfl (Nat.le_of_ble_eq_true rfl) ⟨Nat.zero_le _, Nat.zero_le _⟩ (fun v1 σ1 τ1 hq => ?_)
        obtain ⟨rfl, rfl, rfl⟩ := hq
        refine y_if_eq (t := 45) C dX9_addSensor_28 (by decide) (fun c28 => ?_) (fun c28 => ?_)
        · -- t
          refine y_iconst (v := 0) C dX9_addSensor_45 (by decide) ?_
          exact y_kE K0 (by first | (rw [if_pos (Or.inl c6)]; done) | (rw [if_pos (Or.inr (Or.inl c17))]; done) | (rw [if_pos (Or.inr (Or.inr (Or.inl c28)))]; done) | (rw [if_pos (Or.inr (Or.inr (Or.inr c38)))]; done) | (rw [if_neg (fun z => z.elim c6 (fun z => z.elim c17 (fun z => z.elim c28 c38)))]; done))
        · -- f
          refine y_iload C dX9_addSensor_31 rfl ?_
          refine y_iconst (v := 1) C dX9_addSensor_33 (by decide) ?_
          refine y_iconst (v := 3) C dX9_addSensor_34 (by decide) ?_
          refine y_callSi C (e_X9_within _ _ _ _ _) dX9_addSensor_35 rfl gX9_addSensor_X9_within rfl qX9_within ⟨rfl, rfl⟩ ⟨Nat.le_of_ble_eq_true rfl, Nat.le_of_ble_eq_true rfl⟩ rfl (Nat.le_of_ble_eq_true rfl) ⟨Nat.zero_le _, Nat.zero_le _⟩ (fun v1 σ1 τ1 hq => ?_)
          obtain ⟨rfl, rfl, rfl⟩ := hq
          refine y_if_eq (t := 45) C dX9_addSensor_38 (by decide) (fun c38 => ?_) (fun c38 => ?_)
          · -- t
            refine y_iconst (v := 0) C dX9_addSensor_45 (by decide) ?_
            exact y_kE K0 (by first | (rw [if_pos (Or.inl c6)]; done) | (rw [if_pos (Or.inr (Or.inl c17))]; done) | (rw [if_pos (Or.inr (Or.inr (Or.inl c28)))]; done) | (rw [if_pos (Or.inr (Or.inr (Or.inr c38)))]; done) | (rw [if_neg (fun z => z.elim c6 (fun z => z.elim c17 (fun z => z.elim c28 c38)))]; done))
          · -- f
            refine y_iconst (v := 1) C dX9_addSensor_41 (by decide) ?_
            refine y_goto (t := 46) C dX9_addSensor_42 (by decide) ?_
            exact y_kE K0 (by first | (rw [if_pos (Or.inl c6)]; done) | (rw [if_pos (Or.inr (Or.inl c17))]; done) | (rw [if_pos (Or.inr (Or.inr (Or.inl c28)))]; done) | (rw [if_pos (Or.inr (Or.inr (Or.inr c38)))]; done) | (rw [if_neg (fun z => z.elim c6 (fun z => z.elim c17 (fun z => z.elim c28 c38)))]; done))
set_option maxHeartbeats 4000000 in
set_option maxRecDepth 100000 in
theorem e_X9_addRule (σ : xS) (τ : xT) {r : Rw} {R ns nr ne t kp : Nat} {qs : Nat → Rw} (hM : σ 166 = r) (hC : RecM σ kp qs) (hk : kp ≤ 4) (I : Inv r R ns nr ne t (t + 1)) (k a b c : Int32) : Xi mX9_addRule [.ref 165, .int k, .int a, .int b, .int c] σ τ (QM (kARu r k a b c) (r 11) σ τ r kp qs (mARu r nr k a b c) ((kK kp)) ((kQ kp qs r))) := by
  have hR4 := I.1.1.2
  have hs8 := I.1.2.1.2
  have hr8 := I.1.2.2.1.2
  have he20 := I.1.2.2.2.1.2
  refine Xi_mk (L := [some (.ref 165), some (.int k), some (.int a), some (.int b), some (.int c), none, none]) (by decide) rfl (Nat.le_of_ble_eq_true rfl) rfl (fun x C => ?_)
  refine y_join (t := 36) (v := .int (if mWithI k 0 3 = 0 ∨ mWithI b 0 9999 = 0 ∨ mWithI c 0 8 = 0 then 0 else 1)) ?_ (fun K0 => ?_)
  ·
    refine y_istore C dX9_addRule_36 (L' := [_, _, _, _, _, _, _]) (Nat.lt_of_lt_of_le (by decide : (5 : Nat) < 7) (Nat.le_refl _)) rfl ?_
    refine y_aload_n C dX9_addRule_38 rfl ?_
    refine y_join (t := 77) (v := .int (kARu r k a b c)) ?_ (fun K39 => ?_)
    ·
      refine y_callVi C (e_X9_refused _ _ hM hC _) dX9_addRule_77 rfl gX9_addRule_X9_refused rfl (is_X9) ⟨rfl, qX9_refused⟩ ⟨rfl, rfl⟩ ⟨Nat.le_of_ble_eq_true rfl, Nat.le_of_ble_eq_true rfl⟩ rfl (Nat.le_of_ble_eq_true rfl) ⟨Nat.zero_le _, Nat.zero_le _⟩ (fun v1 σ1 τ1 hq => ?_)
      obtain ⟨rfl, hM1, hC1, hr1, hF1, rfl⟩ := hq
      refine y_if_eq (t := 85) C dX9_addRule_80 (by decide) (fun c80 => ?_) (fun c80 => ?_)
      · -- t
        have hk0 : kARu r k a b c = 0 := (ref0 (kARu_p _ _ _ _ _)).mp c80
        have h8 : nr < 8 := Nat.lt_of_le_of_ne hr8 (fun z => (kARu_0 hk0).2.2 (by rw [I.1.2.2.1.1, z]; rfl))
        refine y_aload_n C dX9_addRule_85 rfl ?_
        refine y_callVv C (e_savesR _ _ hk hC1 hM1) dX9_addRule_86 rfl gX9_addRule_X9_saves rfl (is_X9) ⟨rfl, qX9_saves⟩ ⟨rfl, rfl⟩ ⟨Nat.le_of_ble_eq_true rfl, Nat.le_of_ble_eq_true rfl⟩ rfl (Nat.le_of_ble_eq_true rfl) ⟨Nat.zero_le _, Nat.zero_le _⟩ (fun σ2 τ2 hq => ?_)
        obtain ⟨hC2, hM2, hr2, hF2, rfl⟩ := hq
        refine y_bipush (v := 113) C dX9_addRule_89 (by decide) ?_
        refine y_iconst (v := 4) C dX9_addRule_91 (by decide) ?_
        refine y_aload_n C dX9_addRule_92 rfl ?_
        refine g_X9_now C dX9_addRule_93 (by decide +kernel) (by decide +kernel) ?_
        refine y_bipush (v := 11) C dX9_addRule_96 (by decide) ?_
        refine mA C hM2 11 rfl (by decide) dX9_addRule_98 ?_
        refine y_imul C dX9_addRule_99 ?_
        refine y_iadd C dX9_addRule_100 ?_
        refine y_topE (nI (113 + 4 * nr)) (by rw [I.1.2.2.1.1]; simp only [← nI_add, ← pk_mul]; rfl) ?_
        refine y_istore C dX9_addRule_101 (L' := [_, _, _, _, _, _, _]) (Nat.lt_of_lt_of_le (by decide : (6 : Nat) < 7) (Nat.le_refl _)) rfl ?_
        refine y_aload_n C dX9_addRule_103 rfl ?_
        refine g_X9_now C dX9_addRule_104 (by decide +kernel) (by decide +kernel) ?_
        refine y_iload C dX9_addRule_107 rfl ?_
        refine y_iload_n C dX9_addRule_109 rfl ?_
        refine mW C hM2 (113 + 4 * nr + 0) rfl (by omega) dX9_addRule_110 (fun σ3 hM3 hF3 => ?_)
        refine y_aload_n C dX9_addRule_111 rfl ?_
        refine g_X9_now C dX9_addRule_112 (by decide +kernel) (by decide +kernel) ?_
        refine y_iload C dX9_addRule_115 rfl ?_
        refine y_iconst (v := 1) C dX9_addRule_117 (by decide) ?_
        refine y_iadd C dX9_addRule_118 ?_
        refine y_iload_n C dX9_addRule_119 rfl ?_
        refine mW C hM3 (113 + 4 * nr + 1) (by simp only [← nI_add, ← pk_mul]; rfl) (by omega) dX9_addRule_120 (fun σ4 hM4 hF4 => ?_)
        refine y_aload_n C dX9_addRule_121 rfl ?_
        refine g_X9_now C dX9_addRule_122 (by decide +kernel) (by decide +kernel) ?_
        refine y_iload C dX9_addRule_125 rfl ?_
        refine y_iconst (v := 2) C dX9_addRule_127 (by decide) ?_
        refine y_iadd C dX9_addRule_128 ?_
        refine y_iload_n C dX9_addRule_129 rfl ?_
        refine mW C hM4 (113 + 4 * nr + 2) (by simp only [← nI_add, ← pk_mul]; rfl) (by omega) dX9_addRule_130 (fun σ5 hM5 hF5 => ?_)
        refine y_aload_n C dX9_addRule_131 rfl ?_
        refine g_X9_now C dX9_addRule_132 (by decide +kernel) (by decide +kernel) ?_
        refine y_iload C dX9_addRule_135 rfl ?_
        refine y_iconst (v := 3) C dX9_addRule_137 (by decide) ?_
        refine y_iadd C dX9_addRule_138 ?_
        refine y_iload C dX9_addRule_139 rfl ?_
        refine mW C hM5 (113 + 4 * nr + 3) (by simp only [← nI_add, ← pk_mul]; rfl) (by omega) dX9_addRule_141 (fun σ6 hM6 hF6 => ?_)
        refine y_aload_n C dX9_addRule_142 rfl ?_
        refine g_X9_now C dX9_addRule_143 (by decide +kernel) (by decide +kernel) ?_
        refine y_bipush (v := 11) C dX9_addRule_146 (by decide) ?_
        refine y_dup2 C dX9_addRule_148 rfl rfl ?_
        refine mA C hM6 11 rfl (by decide) dX9_addRule_149 ?_
        refine y_iconst (v := 1) C dX9_addRule_150 (by decide) ?_
        refine y_iadd C dX9_addRule_151 ?_
        refine y_topE (nI (nr + 1)) (by rw [upd_ne (by omega), upd_ne (by omega), upd_ne (by omega), upd_ne (by omega), I.1.2.2.1.1, nI_1]) ?_
        refine mW C hM6 11 rfl (by decide) dX9_addRule_152 (fun σ7 hM7 hF7 => ?_)
        have hM7 : σ7 166 = mARu r nr k a b c := hM7
        have hF39 := ((((hF3.trans hF4).trans hF5).trans hF6).trans hF7)
        refine y_aload_n C dX9_addRule_153 rfl ?_
        refine g_X9_now C dX9_addRule_154 (by decide +kernel) (by decide +kernel) ?_
        refine y_bipush (v := 11) C dX9_addRule_157 (by decide) ?_
        refine mA C hM7 11 rfl (by decide) dX9_addRule_159 ?_
        refine y_iconst (v := 1) C dX9_addRule_160 (by decide) ?_
        refine y_isub C dX9_addRule_161 ?_
        refine y_topE (r 11) (by unfold mARu; rw [upd_eq, I.1.2.2.1.1]; exact pk_sub (a := nr + 1) (b := 1) (by omega)) ?_
        exact y_iret C rfl dX9_addRule_162 (⟨by rw [hF39 165 (by decide), hr2]; exact hr1, Or.inl ⟨hk0, rfl, hM7, hC2.k6 hF39, ((hF1.mono mS_5).trans (hF2.mono mS_57)).trans (hF39.mono mS_6), rfl⟩⟩)
      · -- f
        have hkn : ¬ kARu r k a b c = 0 := fun z => c80 ((ref0 (kARu_p _ _ _ _ _)).mpr z)
        refine y_iconst (v := 0) C dX9_addRule_83 (by decide) ?_
        exact y_iret C rfl dX9_addRule_84 (⟨hr1, Or.inr ⟨hkn, hM1, hC1, hF1.mono mS_5, rfl⟩⟩)
    ·
      refine y_aload_n C dX9_addRule_39 rfl ?_
      refine y_iload_n C dX9_addRule_40 rfl ?_
      refine y_callVi C (e_X9_isRoomR _ _ hM I _) dX9_addRule_41 rfl gX9_addRule_X9_isRoom rfl (is_X9) ⟨rfl, qX9_isRoom⟩ ⟨rfl, rfl⟩ ⟨Nat.le_of_ble_eq_true rfl, Nat.le_of_ble_eq_true rfl⟩ rfl (Nat.le_of_ble_eq_true rfl) ⟨Nat.zero_le _, Nat.zero_le _⟩ (fun v1 σ1 τ1 hq => ?_)
      obtain ⟨rfl, rfl, rfl⟩ := hq
      refine y_if_ne (t := 51) C dX9_addRule_44 (by decide) (fun c44 => ?_) (fun c44 => ?_)
      · -- t
        refine y_iload C dX9_addRule_51 rfl ?_
        refine y_if_ne (t := 60) C dX9_addRule_53 (by decide) (fun c53 => ?_) (fun c53 => ?_)
        · -- t
          refine y_aload_n C dX9_addRule_60 rfl ?_
          refine g_X9_now C dX9_addRule_61 (by decide +kernel) (by decide +kernel) ?_
          refine y_bipush (v := 11) C dX9_addRule_64 (by decide) ?_
          refine mA C hM 11 rfl (by decide) dX9_addRule_66 ?_
          refine y_bipush (v := 8) C dX9_addRule_67 (by decide) ?_
          refine y_icmp_ne (t := 76) C dX9_addRule_69 (by decide) (fun c69 => ?_) (fun c69 => ?_)
          · -- t
            refine y_iconst (v := 0) C dX9_addRule_76 (by decide) ?_
            exact y_kE K39 (by unfold kARu; first | (rw [if_pos c44]; done) | (rw [if_neg c44, if_pos (gd_f c53)]; done) | (rw [if_neg c44, if_neg (gd_t c53), if_pos c69]; done) | (rw [if_neg c44, if_neg (gd_t c53), if_neg c69]; done))
          · -- f
            refine y_iconst (v := 3) C dX9_addRule_72 (by decide) ?_
            refine y_goto (t := 77) C dX9_addRule_73 (by decide) ?_
            exact y_kE K39 (by unfold kARu; first | (rw [if_pos c44]; done) | (rw [if_neg c44, if_pos (gd_f c53)]; done) | (rw [if_neg c44, if_neg (gd_t c53), if_pos c69]; done) | (rw [if_neg c44, if_neg (gd_t c53), if_neg c69]; done))
        · -- f
          refine y_iconst (v := 2) C dX9_addRule_56 (by decide) ?_
          refine y_goto (t := 77) C dX9_addRule_57 (by decide) ?_
          exact y_kE K39 (by unfold kARu; first | (rw [if_pos c44]; done) | (rw [if_neg c44, if_pos (gd_f c53)]; done) | (rw [if_neg c44, if_neg (gd_t c53), if_pos c69]; done) | (rw [if_neg c44, if_neg (gd_t c53), if_neg c69]; done))
      · -- f
        refine y_iconst (v := 1) C dX9_addRule_47 (by decide) ?_
        refine y_goto (t := 77) C dX9_addRule_48 (by decide) ?_
        exact y_kE K39 (by unfold kARu; first | (rw [if_pos c44]; done) | (rw [if_neg c44, if_pos (gd_f c53)]; done) | (rw [if_neg c44, if_neg (gd_t c53), if_pos c69]; done) | (rw [if_neg c44, if_neg (gd_t c53), if_neg c69]; done))
  ·
    refine y_iload_n C dX9_addRule_0 rfl ?_
    refine y_iconst (v := 0) C dX9_addRule_1 (by decide) ?_
    refine y_iconst (v := 3) C dX9_addRule_2 (by decide) ?_
    refine y_callSi C (e_X9_within _ _ _ _ _) dX9_addRule_3 rfl gX9_addRule_X9_within rfl qX9_within ⟨rfl, rfl⟩ ⟨Nat.le_of_ble_eq_true rfl, Nat.le_of_ble_eq_true rfl⟩ rfl (Nat.le_of_ble_eq_true rfl) ⟨Nat.zero_le _, Nat.zero_le _⟩ (fun v1 σ1 τ1 hq => ?_)
    obtain ⟨rfl, rfl, rfl⟩ := hq
    refine y_if_eq (t := 35) C dX9_addRule_6 (by decide) (fun c6 => ?_) (fun c6 => ?_)
    · -- t
      refine y_iconst (v := 0) C dX9_addRule_35 (by decide) ?_
      exact y_kE K0 (by first | (rw [if_pos (Or.inl c6)]; done) | (rw [if_pos (Or.inr (Or.inl c17))]; done) | (rw [if_pos (Or.inr (Or.inr c28))]; done) | (rw [if_neg (fun z => z.elim c6 (fun z => z.elim c17 c28))]; done))
    · -- f
      refine y_iload_n C dX9_addRule_9 rfl ?_
      refine y_iconst (v := 0) C dX9_addRule_10 (by decide) ?_
      refine y_sipush (v := 9999) C dX9_addRule_11 (by decide) ?_
      refine y_callSi C (e_X9_within _ _ _ _ _) dX9_addRule_14 rfl gX9_addRule_X9_within rfl qX9_within ⟨rfl, rfl⟩ ⟨Nat.le_of_ble_eq_true rfl, Nat.le_of_ble_eq_true rfl⟩ rfl (Nat.le_of_ble_eq_true rfl) ⟨Nat.zero_le _, Nat.zero_le _⟩ (fun v1 σ1 τ1 hq => ?_)
      obtain ⟨rfl, rfl, rfl⟩ := hq
      refine y_if_eq (t := 35) C dX9_addRule_17 (by decide) (fun c17 => ?_) (fun c17 => ?_)
      · -- t
        refine y_iconst (v := 0) C dX9_addRule_35 (by decide) ?_
        exact y_kE K0 (by first | (rw [if_pos (Or.inl c6)]; done) | (rw [if_pos (Or.inr (Or.inl c17))]; done) | (rw [if_pos (Or.inr (Or.inr c28))]; done) | (rw [if_neg (fun z => z.elim c6 (fun z => z.elim c17 c28))]; done))
      · -- f
        refine y_iload C dX9_addRule_20 rfl ?_
        refine y_iconst (v := 0) C dX9_addRule_22 (by decide) ?_
        refine y_bipush (v := 8) C dX9_addRule_23 (by decide) ?_
        refine y_callSi C (e_X9_within _ _ _ _ _) dX9_addRule_25 rfl gX9_addRule_X9_within rfl qX9_within ⟨rfl, rfl⟩ ⟨Nat.le_of_ble_eq_true rfl, Nat.le_of_ble_eq_true rfl⟩ rfl (Nat.le_of_ble_eq_true rfl) ⟨Nat.zero_le _, Nat.zero_le _⟩ (fun v1 σ1 τ1 hq => ?_)
        obtain ⟨rfl, rfl, rfl⟩ := hq
        refine y_if_eq (t := 35) C dX9_addRule_28 (by decide) (fun c28 => ?_) (fun c28 => ?_)
        · -- t
          refine y_iconst (v := 0) C dX9_addRule_35 (by decide) ?_
          exact y_kE K0 (by first | (rw [if_pos (Or.inl c6)]; done) | (rw [if_pos (Or.inr (Or.inl c17))]; done) | (rw [if_pos (Or.inr (Or.inr c28))]; done) | (rw [if_neg (fun z => z.elim c6 (fun z => z.elim c17 c28))]; done))
        · -- f
          refine y_iconst (v := 1) C dX9_addRule_31 (by decide) ?_
          refine y_goto (t := 36) C dX9_addRule_32 (by decide) ?_
          exact y_kE K0 (by first | (rw [if_pos (Or.inl c6)]; done) | (rw [if_pos (Or.inr (Or.inl c17))]; done) | (rw [if_pos (Or.inr (Or.inr c28))]; done) | (rw [if_neg (fun z => z.elim c6 (fun z => z.elim c17 c28))]; done))
set_option maxHeartbeats 4000000 in
set_option maxRecDepth 100000 in
theorem l_X9_removeRule {x : xC} (C : Cx x mX9_removeRule) (σ : xS) (τ : xT) {r : Rw} (a nn : Nat) (ha : a < nn) (hn : nn ≤ 8) (e11 : r 11 = nI (nn - 1)) (u : Int32) {Z : State → Prop} (kx : ∀ σ1 : xS, σ1 166 = mDk r a (4 * (nn - 1 - a)) → Fr (fun q => q = 166) σ σ1 → Y x 89 [some (.ref 165), some (.int u), some (.int (nI (113 + 4 * a + 4 * (nn - 1 - a))))] [] σ1 τ 0 0 Z) : ∀ n k : Nat, k + n = 4 * (nn - 1 - a) → ∀ σ1 : xS, σ1 166 = mDk r a k → Fr (fun q => q = 166) σ σ1 → Y x 53 [some (.ref 165), some (.int u), some (.int (nI (113 + 4 * a + k)))] [] σ1 τ 0 0 Z := by
  intro n
  induction n with
  | zero =>
    intro k hk
    intro σ1 hM1 hF1
    rw [Nat.add_zero] at hk
    refine y_iload_n C dX9_removeRule_53 rfl ?_
    refine y_bipush (v := 113) C dX9_removeRule_54 (by decide) ?_
    refine y_iconst (v := 4) C dX9_removeRule_56 (by decide) ?_
    refine y_aload_n C dX9_removeRule_57 rfl ?_
    refine g_X9_now C dX9_removeRule_58 (by decide +kernel) (by decide +kernel) ?_
    refine y_bipush (v := 11) C dX9_removeRule_61 (by decide) ?_
    refine mA C hM1 11 rfl (by decide) dX9_removeRule_63 ?_
    refine y_topE (nI (nn - 1)) (by rw [mDk_out (by omega)]; exact e11) ?_
    refine y_imul C dX9_removeRule_64 ?_
    refine y_iadd C dX9_removeRule_65 ?_
    refine y_topE (nI (113 + 4 * (nn - 1))) (by simp only [← nI_add, ← pk_mul]; rfl) ?_
    refine y_icmp_ge (t := 89) C dX9_removeRule_66 (by decide) (fun c66 => ?_) (fun c66 => absurd (by rw [show 113 + 4 * a + k = 113 + 4 * (nn - 1) by omega]; exact Int32.le_refl _) c66)
    subst hk
    exact kx σ1 hM1 hF1
  | succ n ih =>
    intro k hk
    intro σ1 hM1 hF1
    refine y_iload_n C dX9_removeRule_53 rfl ?_
    refine y_bipush (v := 113) C dX9_removeRule_54 (by decide) ?_
    refine y_iconst (v := 4) C dX9_removeRule_56 (by decide) ?_
    refine y_aload_n C dX9_removeRule_57 rfl ?_
    refine g_X9_now C dX9_removeRule_58 (by decide +kernel) (by decide +kernel) ?_
    refine y_bipush (v := 11) C dX9_removeRule_61 (by decide) ?_
    refine mA C hM1 11 rfl (by decide) dX9_removeRule_63 ?_
    refine y_topE (nI (nn - 1)) (by rw [mDk_out (by omega)]; exact e11) ?_
    refine y_imul C dX9_removeRule_64 ?_
    refine y_iadd C dX9_removeRule_65 ?_
    refine y_topE (nI (113 + 4 * (nn - 1))) (by simp only [← nI_add, ← pk_mul]; rfl) ?_
    refine y_icmp_ge (t := 89) C dX9_removeRule_66 (by decide) (fun c66 => absurd c66 (nI_ge (by omega) (by omega))) (fun c66 => ?_)
    refine y_aload_n C dX9_removeRule_69 rfl ?_
    refine g_X9_now C dX9_removeRule_70 (by decide +kernel) (by decide +kernel) ?_
    refine y_iload_n C dX9_removeRule_73 rfl ?_
    refine y_aload_n C dX9_removeRule_74 rfl ?_
    refine g_X9_now C dX9_removeRule_75 (by decide +kernel) (by decide +kernel) ?_
    refine y_iload_n C dX9_removeRule_78 rfl ?_
    refine y_iconst (v := 4) C dX9_removeRule_79 (by decide) ?_
    refine y_iadd C dX9_removeRule_80 ?_
    refine y_topE (nI (113 + 4 * a + k + 4)) (nI_add _ 4) ?_
    refine mA C hM1 (113 + 4 * a + k + 4) rfl (by omega) dX9_removeRule_81 ?_
    refine y_topE (r (113 + 4 * a + k + 4)) (mDk_out (by omega)) ?_
    refine mW C hM1 (113 + 4 * a + k) rfl (by omega) dX9_removeRule_82 (fun σ2 hM2 hF2 => ?_)
    rw [mDk_step] at hM2
    refine y_iinc C dX9_removeRule_83 (L' := [_, _, _]) rfl (nI_1 (113 + 4 * a + k)) rfl ?_
    refine y_goto (t := 53) C dX9_removeRule_86 (by decide) ?_
    exact ih (k + 1) (by omega) σ2 hM2 (hF1.trans hF2)
set_option maxHeartbeats 4000000 in
set_option maxRecDepth 100000 in
theorem e_X9_removeRule (σ : xS) (τ : xT) {r : Rw} {R ns nr ne t kp : Nat} {qs : Nat → Rw} (hM : σ 166 = r) (hC : RecM σ kp qs) (hk : kp ≤ 4) (I : Inv r R ns nr ne t (t + 1)) (u : Int32) : Xi mX9_removeRule [.ref 165, .int u] σ τ (QM (kRem r u) (r 11 - 1) σ τ r kp qs (mDro r (cN u) nr) ((kK kp)) ((kQ kp qs r))) := by
  have hR4 := I.1.1.2
  have hs8 := I.1.2.1.2
  have hr8 := I.1.2.2.1.2
  have he20 := I.1.2.2.2.1.2
  refine Xi_mk (L := [some (.ref 165), some (.int u), none]) (by decide) rfl (Nat.le_of_ble_eq_true rfl) rfl (fun x C => ?_)
  refine y_aload_n C dX9_removeRule_0 rfl ?_
  refine y_join (t := 23) (v := .int (kRem r u)) ?_ (fun K1 => ?_)
  ·
    refine y_callVi C (e_X9_refused _ _ hM hC _) dX9_removeRule_23 rfl gX9_removeRule_X9_refused rfl (is_X9) ⟨rfl, qX9_refused⟩ ⟨rfl, rfl⟩ ⟨Nat.le_of_ble_eq_true rfl, Nat.le_of_ble_eq_true rfl⟩ rfl (Nat.le_of_ble_eq_true rfl) ⟨Nat.zero_le _, Nat.zero_le _⟩ (fun v1 σ1 τ1 hq => ?_)
    obtain ⟨rfl, hM1, hC1, hr1, hF1, rfl⟩ := hq
    refine y_if_eq (t := 31) C dX9_removeRule_26 (by decide) (fun c26 => ?_) (fun c26 => ?_)
    · -- t
      have hk0 : kRem r u = 0 := (ref0 (kRem_p _ _)).mp c26
      obtain ⟨a, ha, rfl⟩ := in_of (n := nr) (by omega) (by have z := kRem_0 hk0; rw [I.1.2.2.1.1] at z; exact z)
      rw [cN_nI (n := a) (by omega)]
      refine y_aload_n C dX9_removeRule_31 rfl ?_
      refine y_callVv C (e_savesR _ _ hk hC1 hM1) dX9_removeRule_32 rfl gX9_removeRule_X9_saves rfl (is_X9) ⟨rfl, qX9_saves⟩ ⟨rfl, rfl⟩ ⟨Nat.le_of_ble_eq_true rfl, Nat.le_of_ble_eq_true rfl⟩ rfl (Nat.le_of_ble_eq_true rfl) ⟨Nat.zero_le _, Nat.zero_le _⟩ (fun σ2 τ2 hq => ?_)
      obtain ⟨hC2, hM2, hr2, hF2, rfl⟩ := hq
      refine y_aload_n C dX9_removeRule_35 rfl ?_
      refine g_X9_now C dX9_removeRule_36 (by decide +kernel) (by decide +kernel) ?_
      refine y_bipush (v := 11) C dX9_removeRule_39 (by decide) ?_
      refine y_dup2 C dX9_removeRule_41 rfl rfl ?_
      refine mA C hM2 11 rfl (by decide) dX9_removeRule_42 ?_
      refine y_iconst (v := 1) C dX9_removeRule_43 (by decide) ?_
      refine y_isub C dX9_removeRule_44 ?_
      refine y_topE (nI (nr - 1)) (by rw [I.1.2.2.1.1]; exact pk_sub (b := 1) (by omega)) ?_
      refine mW C hM2 11 rfl (by decide) dX9_removeRule_45 (fun σ3 hM3 hF3 => ?_)
      refine y_bipush (v := 113) C dX9_removeRule_46 (by decide) ?_
      refine y_iconst (v := 4) C dX9_removeRule_48 (by decide) ?_
      refine y_iload_n C dX9_removeRule_49 rfl ?_
      refine y_imul C dX9_removeRule_50 ?_
      refine y_iadd C dX9_removeRule_51 ?_
      refine y_topE (nI (113 + 4 * a)) (by simp only [← nI_add, ← pk_mul]; rfl) ?_
      refine y_istore_n C dX9_removeRule_52 (L' := [_, _, _]) (Nat.lt_of_lt_of_le (by decide : (2 : Nat) < 3) (Nat.le_refl _)) rfl ?_
      refine l_X9_removeRule C σ3 τ (r := upd r 11 (nI (nr - 1))) a nr ha hr8 upd_eq _ (fun σ4 hM4 hF4 => ?_) _ 0 (Nat.zero_add _) σ3 (by rw [mDk_0]; exact hM3) Fr.rf
      rw [mDk_fin r ha _ rfl] at hM4
      have hF39 := hF3.trans hF4
      refine y_aload_n C dX9_removeRule_89 rfl ?_
      refine g_X9_now C dX9_removeRule_90 (by decide +kernel) (by decide +kernel) ?_
      refine y_bipush (v := 11) C dX9_removeRule_93 (by decide) ?_
      refine mA C hM4 11 rfl (by decide) dX9_removeRule_95 ?_
      exact y_iret C rfl dX9_removeRule_96 (⟨by rw [hF39 165 (by decide), hr2]; exact hr1, Or.inl ⟨hk0, by unfold mDro; rw [upd_eq, I.1.2.2.1.1]; exact (pk_sub (b := 1) (by omega)).symm, hM4, hC2.k6 hF39, ((hF1.mono mS_5).trans (hF2.mono mS_57)).trans (hF39.mono mS_6), rfl⟩⟩)
    · -- f
      have hkn : ¬ kRem r u = 0 := fun z => c26 ((ref0 (kRem_p _ _)).mpr z)
      refine y_iconst (v := 0) C dX9_removeRule_29 (by decide) ?_
      exact y_iret C rfl dX9_removeRule_30 (⟨hr1, Or.inr ⟨hkn, hM1, hC1, hF1.mono mS_5, rfl⟩⟩)
  ·
    refine y_iload_n C dX9_removeRule_1 rfl ?_
    refine y_iconst (v := 0) C dX9_removeRule_2 (by decide) ?_
    refine y_aload_n C dX9_removeRule_3 rfl ?_
    refine g_X9_now C dX9_removeRule_4 (by decide +kernel) (by decide +kernel) ?_
    refine y_bipush (v := 11) C dX9_removeRule_7 (by decide) ?_
    refine mA C hM 11 rfl (by decide) dX9_removeRule_9 ?_
    refine y_iconst (v := 1) C dX9_removeRule_10 (by decide) ?_
    refine y_isub C dX9_removeRule_11 ?_
    refine y_callSi C (e_X9_within _ _ _ _ _) dX9_removeRule_12 rfl gX9_removeRule_X9_within rfl qX9_within ⟨rfl, rfl⟩ ⟨Nat.le_of_ble_eq_true rfl, Nat.le_of_ble_eq_true rfl⟩ rfl (Nat.le_of_ble_eq_true rfl) ⟨Nat.zero_le _, Nat.zero_le _⟩ (fun v1 σ1 τ1 hq => ?_)
    obtain ⟨rfl, rfl, rfl⟩ := hq
    refine y_topE (if 0 ≤ u ∧ u < r 11 then 1 else 0) (by rw [I.1.2.2.1.1, with_pred (by omega) u]) ?_
    refine y_if_eq (t := 22) C dX9_removeRule_15 (by decide) (fun c15 => ?_) (fun c15 => ?_)
    · -- t
      have h15 : ¬ (0 ≤ u ∧ u < r 11) := fun z => by rw [if_pos z] at c15; exact absurd c15 (by decide)
      refine y_iconst (v := 1) C dX9_removeRule_22 (by decide) ?_
      exact y_kE K1 (by unfold kRem; first | (rw [if_pos h15]; done) | (rw [if_neg h15]; done))
    · -- f
      have h15 : 0 ≤ u ∧ u < r 11 := Decidable.not_not.mp (fun z => c15 (if_neg z))
      refine y_iconst (v := 0) C dX9_removeRule_18 (by decide) ?_
      refine y_goto (t := 23) C dX9_removeRule_19 (by decide) ?_
      exact y_kE K1 (by unfold kRem; first | (rw [if_pos h15]; done) | (rw [if_neg h15]; done))
set_option maxHeartbeats 4000000 in
set_option maxRecDepth 100000 in
theorem l_X9_addEventI {x : xC} (C : Cx x mX9_addEvent) (σ : xS) (τ : xT) {r : Rw} (q : Nat) (hq : q < 19) (m kd a b : Int32) {Z : State → Prop} (kx : ∀ (σ1 : xS), σ1 166 = mCp r q 4 → Fr (fun q => q = 166) σ σ1 → Y x 128 [some (.ref 165), some (.int m), some (.int kd), some (.int a), some (.int b), some (.int (nI (q + 1))), some (.int (nI 4))] [] σ1 τ 0 0 Z) : ∀ n k : Nat, k + n = 4 → ∀ σ1 : xS, σ1 166 = mCp r q k → Fr (fun q => q = 166) σ σ1 → Y x 82 [some (.ref 165), some (.int m), some (.int kd), some (.int a), some (.int b), some (.int (nI (q + 1))), some (.int (nI k))] [] σ1 τ 0 0 Z := by
  intro n
  induction n with
  | zero =>
    intro k hk
    intro σ1 hM1 hF1
    refine y_iload C dX9_addEvent_82 rfl ?_
    refine y_iconst (v := 4) C dX9_addEvent_84 (by decide) ?_
    refine y_icmp_ge (t := 128) C dX9_addEvent_85 (by decide) (fun c85 => ?_) (fun c85 => absurd (by rw [show k = 4 by omega]; exact Int32.le_refl _) c85)
    obtain rfl : k = 4 := by omega
    exact kx σ1 hM1 hF1
  | succ n ih =>
    intro k hk
    intro σ1 hM1 hF1
    refine y_iload C dX9_addEvent_82 rfl ?_
    refine y_iconst (v := 4) C dX9_addEvent_84 (by decide) ?_
    refine y_icmp_ge (t := 128) C dX9_addEvent_85 (by decide) (fun c85 => absurd c85 (nI_ge (a := k) (b := 4) (by omega) (by decide))) (fun c85 => ?_)
    refine y_aload_n C dX9_addEvent_88 rfl ?_
    refine g_X9_now C dX9_addEvent_89 (by decide +kernel) (by decide +kernel) ?_
    refine y_sipush (v := 145) C dX9_addEvent_92 (by decide) ?_
    refine y_iconst (v := 4) C dX9_addEvent_95 (by decide) ?_
    refine y_iload C dX9_addEvent_96 rfl ?_
    refine y_imul C dX9_addEvent_98 ?_
    refine y_iadd C dX9_addEvent_99 ?_
    refine y_iload C dX9_addEvent_100 rfl ?_
    refine y_iadd C dX9_addEvent_102 ?_
    refine y_topE (nI (145 + 4 * (q + 1) + k)) (by simp only [← nI_add, ← pk_mul]; rfl) ?_
    refine y_aload_n C dX9_addEvent_103 rfl ?_
    refine g_X9_now C dX9_addEvent_104 (by decide +kernel) (by decide +kernel) ?_
    refine y_sipush (v := 145) C dX9_addEvent_107 (by decide) ?_
    refine y_iconst (v := 4) C dX9_addEvent_110 (by decide) ?_
    refine y_iload C dX9_addEvent_111 rfl ?_
    refine y_iconst (v := 1) C dX9_addEvent_113 (by decide) ?_
    refine y_isub C dX9_addEvent_114 ?_
    refine y_topE (nI q) (nI_pred q) ?_
    refine y_imul C dX9_addEvent_115 ?_
    refine y_iadd C dX9_addEvent_116 ?_
    refine y_iload C dX9_addEvent_117 rfl ?_
    refine y_iadd C dX9_addEvent_119 ?_
    refine y_topE (nI (145 + 4 * q + k)) (by simp only [← nI_add, ← pk_mul]; rfl) ?_
    refine mA C hM1 (145 + 4 * q + k) rfl (by omega) dX9_addEvent_120 ?_
    refine y_topE (r (145 + 4 * q + k)) (mCp_out (by omega)) ?_
    refine mW C hM1 (145 + 4 * (q + 1) + k) rfl (by omega) dX9_addEvent_121 (fun σ2 hM2 hF2 => ?_)
    rw [mCp_step _ _ _ (by omega)] at hM2
    refine y_iinc C dX9_addEvent_122 (L' := [_, _, _, _, _, _, _]) rfl (nI_1 k) rfl ?_
    refine y_goto (t := 82) C dX9_addEvent_125 (by decide) ?_
    exact ih (k + 1) (by omega) σ2 hM2 (hF1.trans hF2)
set_option maxHeartbeats 4000000 in
set_option maxRecDepth 100000 in
theorem l_X9_addEvent {x : xC} (C : Cx x mX9_addEvent) (σ : xS) (τ : xT) {r : Rw} {ne : Nat} (h20 : ne < 20) (m kd a b : Int32) {Z : State → Prop} (kx : ∀ (σ1 : xS) (p : Nat) (v6 : Option Value), p = mPlF r m ne → σ1 166 = mShU r p ne → Fr (fun q => q = 166) σ σ1 → Y x 134 [some (.ref 165), some (.int m), some (.int kd), some (.int a), some (.int b), some (.int (nI p)), v6] [] σ1 τ 0 0 Z) : ∀ n k : Nat, k + n = ne → ∀ (σ1 : xS) (v6 : Option Value), σ1 166 = mShU r n ne → Fr (fun q => q = 166) σ σ1 → mPlF r m n = mPlF r m ne → Y x 55 [some (.ref 165), some (.int m), some (.int kd), some (.int a), some (.int b), some (.int (nI n)), v6] [] σ1 τ 0 0 Z := by
  intro n
  induction n with
  | zero =>
    intro k hk
    intro σ1 v6 hM1 hF1 hf
    refine y_iload C dX9_addEvent_55 rfl ?_
    refine y_if_le (t := 134) C dX9_addEvent_57 (by decide) (fun c57 => ?_) (fun c57 => absurd (Int32.le_refl _) c57)
    exact kx σ1 0 _ hf hM1 hF1
  | succ n ih =>
    intro k hk
    intro σ1 v6 hM1 hF1 hf
    refine y_iload C dX9_addEvent_55 rfl ?_
    refine y_if_le (t := 134) C dX9_addEvent_57 (by decide) (fun c57 => absurd c57 (nI_ge (a := 0) (b := n + 1) (by omega) (by omega))) (fun c57 => ?_)
    refine y_aload_n C dX9_addEvent_60 rfl ?_
    refine g_X9_now C dX9_addEvent_61 (by decide +kernel) (by decide +kernel) ?_
    refine y_sipush (v := 145) C dX9_addEvent_64 (by decide) ?_
    refine y_iconst (v := 4) C dX9_addEvent_67 (by decide) ?_
    refine y_iload C dX9_addEvent_68 rfl ?_
    refine y_iconst (v := 1) C dX9_addEvent_70 (by decide) ?_
    refine y_isub C dX9_addEvent_71 ?_
    refine y_topE (nI n) (nI_pred n) ?_
    refine y_imul C dX9_addEvent_72 ?_
    refine y_iadd C dX9_addEvent_73 ?_
    refine mA C hM1 (145 + 4 * n + 0) (show _ = nI (145 + 4 * n) from by simp only [← nI_add, ← pk_mul]; rfl) (by omega) dX9_addEvent_74 ?_
    refine y_topE (r (145 + 4 * n + 0)) (mShU_lo (by omega)) ?_
    refine y_iload_n C dX9_addEvent_75 rfl ?_
    refine y_icmp_le (t := 134) C dX9_addEvent_76 (by decide) (fun kc76 => ?_) (fun kc76 => ?_)
    · -- t
      exact kx σ1 (n + 1) _ (by simp only [mPlF] at hf; rw [if_neg (Int32.not_lt.mpr kc76)] at hf; exact hf) hM1 hF1
    · -- f
      refine y_iconst (v := 0) C dX9_addEvent_79 (by decide) ?_
      refine y_istore C dX9_addEvent_80 (L' := [_, _, _, _, _, _, _]) (Nat.lt_of_lt_of_le (by decide : (6 : Nat) < 7) (Nat.le_refl _)) rfl ?_
      refine l_X9_addEventI C σ1 τ (r := mShU r (n + 1) ne) n (by omega) m kd a b (fun σ2 hM2 hF2 => ?_) 4 0 (Nat.zero_add _) σ1 (by rw [mCp_0]; exact hM1) Fr.rf
      rw [mShU_down _ _ _ (by omega)] at hM2
      refine y_iinc C dX9_addEvent_128 (L' := [_, _, _, _, _, _, _]) rfl (pk_m1 n) rfl ?_
      refine y_goto (t := 55) C dX9_addEvent_131 (by decide) ?_
      exact ih (k + 1) (by omega) σ2 _ hM2 (hF1.trans hF2) (by simp only [mPlF] at hf; rw [if_pos (Int32.not_le.mp kc76)] at hf; exact hf)
set_option maxHeartbeats 4000000 in
set_option maxRecDepth 100000 in
theorem e_X9_addEvent (σ : xS) (τ : xT) {r : Rw} {R ns nr ne t kp : Nat} {qs : Nat → Rw} (hM : σ 166 = r) (hC : RecM σ kp qs) (hk : kp ≤ 4) (I : Inv r R ns nr ne t (t + 1)) (m kd a b : Int32) : Xi mX9_addEvent [.ref 165, .int m, .int kd, .int a, .int b] σ τ (QM (kAEv r m kd a b) (r 12 + 1) σ τ r kp qs (mIns r (mPlF r m ne) ne m kd a b) ((kK kp)) ((kQ kp qs r))) := by
  have hR4 := I.1.1.2
  have hs8 := I.1.2.1.2
  have hr8 := I.1.2.2.1.2
  have he20 := I.1.2.2.2.1.2
  refine Xi_mk (L := [some (.ref 165), some (.int m), some (.int kd), some (.int a), some (.int b), none, none]) (by decide) rfl (Nat.le_of_ble_eq_true rfl) rfl (fun x C => ?_)
  refine y_aload_n C dX9_addEvent_0 rfl ?_
  refine y_join (t := 34) (v := .int (kAEv r m kd a b)) ?_ (fun K1 => ?_)
  ·
    refine y_callVi C (e_X9_refused _ _ hM hC _) dX9_addEvent_34 rfl gX9_addEvent_X9_refused rfl (is_X9) ⟨rfl, qX9_refused⟩ ⟨rfl, rfl⟩ ⟨Nat.le_of_ble_eq_true rfl, Nat.le_of_ble_eq_true rfl⟩ rfl (Nat.le_of_ble_eq_true rfl) ⟨Nat.zero_le _, Nat.zero_le _⟩ (fun v1 σ1 τ1 hq => ?_)
    obtain ⟨rfl, hM1, hC1, hr1, hF1, rfl⟩ := hq
    refine y_if_eq (t := 42) C dX9_addEvent_37 (by decide) (fun c37 => ?_) (fun c37 => ?_)
    · -- t
      have hk0 : kAEv r m kd a b = 0 := (ref0 (kAEv_p _ _ _ _ _)).mp c37
      have h20 : ne < 20 := Nat.lt_of_le_of_ne he20 (fun z => (kAEv_0 hk0).2 (by rw [I.1.2.2.2.1.1, z]; rfl))
      have hple := mPlF_le r m ne
      refine y_aload_n C dX9_addEvent_42 rfl ?_
      refine y_callVv C (e_savesR _ _ hk hC1 hM1) dX9_addEvent_43 rfl gX9_addEvent_X9_saves rfl (is_X9) ⟨rfl, qX9_saves⟩ ⟨rfl, rfl⟩ ⟨Nat.le_of_ble_eq_true rfl, Nat.le_of_ble_eq_true rfl⟩ rfl (Nat.le_of_ble_eq_true rfl) ⟨Nat.zero_le _, Nat.zero_le _⟩ (fun σ2 τ2 hq => ?_)
      obtain ⟨hC2, hM2, hr2, hF2, rfl⟩ := hq
      refine y_aload_n C dX9_addEvent_46 rfl ?_
      refine g_X9_now C dX9_addEvent_47 (by decide +kernel) (by decide +kernel) ?_
      refine y_bipush (v := 12) C dX9_addEvent_50 (by decide) ?_
      refine mA C hM2 12 rfl (by decide) dX9_addEvent_52 ?_
      refine y_topE (nI ne) I.1.2.2.2.1.1 ?_
      refine y_istore C dX9_addEvent_53 (L' := [_, _, _, _, _, _, _]) (Nat.lt_of_lt_of_le (by decide : (5 : Nat) < 7) (Nat.le_refl _)) rfl ?_
      refine l_X9_addEvent C σ2 τ (r := r) h20 m kd a b (fun σ3 p v6 hp hM3 hF3 => ?_) ne 0 (Nat.zero_add _) σ2 _ (by rw [mShU_top]; exact hM2) Fr.rf rfl
      subst hp
      refine y_aload_n C dX9_addEvent_134 rfl ?_
      refine g_X9_now C dX9_addEvent_135 (by decide +kernel) (by decide +kernel) ?_
      refine y_sipush (v := 145) C dX9_addEvent_138 (by decide) ?_
      refine y_iconst (v := 4) C dX9_addEvent_141 (by decide) ?_
      refine y_iload C dX9_addEvent_142 rfl ?_
      refine y_imul C dX9_addEvent_144 ?_
      refine y_iadd C dX9_addEvent_145 ?_
      refine y_iload_n C dX9_addEvent_146 rfl ?_
      refine mW C hM3 (145 + 4 * mPlF r m ne + 0) (show _ = nI (145 + 4 * mPlF r m ne) from by simp only [← nI_add, ← pk_mul]; rfl) (by omega) dX9_addEvent_147 (fun σ4 hM4 hF4 => ?_)
      refine y_aload_n C dX9_addEvent_148 rfl ?_
      refine g_X9_now C dX9_addEvent_149 (by decide +kernel) (by decide +kernel) ?_
      refine y_sipush (v := 145) C dX9_addEvent_152 (by decide) ?_
      refine y_iconst (v := 4) C dX9_addEvent_155 (by decide) ?_
      refine y_iload C dX9_addEvent_156 rfl ?_
      refine y_imul C dX9_addEvent_158 ?_
      refine y_iadd C dX9_addEvent_159 ?_
      refine y_iconst (v := 1) C dX9_addEvent_160 (by decide) ?_
      refine y_iadd C dX9_addEvent_161 ?_
      refine y_iload_n C dX9_addEvent_162 rfl ?_
      refine mW C hM4 (145 + 4 * mPlF r m ne + 1) (by simp only [← nI_add, ← pk_mul]; rfl) (by omega) dX9_addEvent_163 (fun σ5 hM5 hF5 => ?_)
      refine y_aload_n C dX9_addEvent_164 rfl ?_
      refine g_X9_now C dX9_addEvent_165 (by decide +kernel) (by decide +kernel) ?_
      refine y_sipush (v := 145) C dX9_addEvent_168 (by decide) ?_
      refine y_iconst (v := 4) C dX9_addEvent_171 (by decide) ?_
      refine y_iload C dX9_addEvent_172 rfl ?_
      refine y_imul C dX9_addEvent_174 ?_
      refine y_iadd C dX9_addEvent_175 ?_
      refine y_iconst (v := 2) C dX9_addEvent_176 (by decide) ?_
      refine y_iadd C dX9_addEvent_177 ?_
      refine y_iload_n C dX9_addEvent_178 rfl ?_
      refine mW C hM5 (145 + 4 * mPlF r m ne + 2) (by simp only [← nI_add, ← pk_mul]; rfl) (by omega) dX9_addEvent_179 (fun σ6 hM6 hF6 => ?_)
      refine y_aload_n C dX9_addEvent_180 rfl ?_
      refine g_X9_now C dX9_addEvent_181 (by decide +kernel) (by decide +kernel) ?_
      refine y_sipush (v := 145) C dX9_addEvent_184 (by decide) ?_
      refine y_iconst (v := 4) C dX9_addEvent_187 (by decide) ?_
      refine y_iload C dX9_addEvent_188 rfl ?_
      refine y_imul C dX9_addEvent_190 ?_
      refine y_iadd C dX9_addEvent_191 ?_
      refine y_iconst (v := 3) C dX9_addEvent_192 (by decide) ?_
      refine y_iadd C dX9_addEvent_193 ?_
      refine y_iload C dX9_addEvent_194 rfl ?_
      refine mW C hM6 (145 + 4 * mPlF r m ne + 3) (by simp only [← nI_add, ← pk_mul]; rfl) (by omega) dX9_addEvent_196 (fun σ7 hM7 hF7 => ?_)
      refine y_aload_n C dX9_addEvent_197 rfl ?_
      refine g_X9_now C dX9_addEvent_198 (by decide +kernel) (by decide +kernel) ?_
      refine y_bipush (v := 12) C dX9_addEvent_201 (by decide) ?_
      refine y_dup2 C dX9_addEvent_203 rfl rfl ?_
      refine mA C hM7 12 rfl (by decide) dX9_addEvent_204 ?_
      refine y_iconst (v := 1) C dX9_addEvent_205 (by decide) ?_
      refine y_iadd C dX9_addEvent_206 ?_
      refine y_topE (nI (ne + 1)) (by rw [upd_ne (by omega), upd_ne (by omega), upd_ne (by omega), upd_ne (by omega), mShU_lo (by omega), I.1.2.2.2.1.1, nI_1]) ?_
      refine mW C hM7 12 rfl (by decide) dX9_addEvent_207 (fun σ8 hM8 hF8 => ?_)
      have hM8 : σ8 166 = mIns r (mPlF r m ne) ne m kd a b := hM8
      have hF39 := (((((hF3.trans hF4).trans hF5).trans hF6).trans hF7).trans hF8)
      refine y_aload_n C dX9_addEvent_208 rfl ?_
      refine g_X9_now C dX9_addEvent_209 (by decide +kernel) (by decide +kernel) ?_
      refine y_bipush (v := 12) C dX9_addEvent_212 (by decide) ?_
      refine mA C hM8 12 rfl (by decide) dX9_addEvent_214 ?_
      exact y_iret C rfl dX9_addEvent_215 (⟨by rw [hF39 165 (by decide), hr2]; exact hr1, Or.inl ⟨hk0, by rw [mIns_12, I.1.2.2.2.1.1]; exact (nI_1 ne).symm, hM8, hC2.k6 hF39, ((hF1.mono mS_5).trans (hF2.mono mS_57)).trans (hF39.mono mS_6), rfl⟩⟩)
    · -- f
      have hkn : ¬ kAEv r m kd a b = 0 := fun z => c37 ((ref0 (kAEv_p _ _ _ _ _)).mpr z)
      refine y_iconst (v := 0) C dX9_addEvent_40 (by decide) ?_
      exact y_iret C rfl dX9_addEvent_41 (⟨hr1, Or.inr ⟨hkn, hM1, hC1, hF1.mono mS_5, rfl⟩⟩)
  ·
    refine y_aload_n C dX9_addEvent_1 rfl ?_
    refine y_iload_n C dX9_addEvent_2 rfl ?_
    refine y_iload_n C dX9_addEvent_3 rfl ?_
    refine y_iload_n C dX9_addEvent_4 rfl ?_
    refine y_iload C dX9_addEvent_5 rfl ?_
    refine y_callVi C (e_X9_isEvent _ _ hM I _ _ _ _) dX9_addEvent_7 rfl gX9_addEvent_X9_isEvent rfl (is_X9) ⟨rfl, qX9_isEvent⟩ ⟨rfl, rfl⟩ ⟨Nat.le_of_ble_eq_true rfl, Nat.le_of_ble_eq_true rfl⟩ rfl (Nat.le_of_ble_eq_true rfl) ⟨Nat.zero_le _, Nat.zero_le _⟩ (fun v1 σ1 τ1 hq => ?_)
    obtain ⟨rfl, rfl, rfl⟩ := hq
    refine y_if_ne (t := 17) C dX9_addEvent_10 (by decide) (fun c10 => ?_) (fun c10 => ?_)
    · -- t
      refine y_aload_n C dX9_addEvent_17 rfl ?_
      refine g_X9_now C dX9_addEvent_18 (by decide +kernel) (by decide +kernel) ?_
      refine y_bipush (v := 12) C dX9_addEvent_21 (by decide) ?_
      refine mA C hM 12 rfl (by decide) dX9_addEvent_23 ?_
      refine y_bipush (v := 20) C dX9_addEvent_24 (by decide) ?_
      refine y_icmp_ne (t := 33) C dX9_addEvent_26 (by decide) (fun c26 => ?_) (fun c26 => ?_)
      · -- t
        refine y_iconst (v := 0) C dX9_addEvent_33 (by decide) ?_
        exact y_kE K1 (by unfold kAEv; first | (rw [if_pos (ev_f c10)]; done) | (rw [if_neg (ev_t c10), if_pos c26]; done) | (rw [if_neg (ev_t c10), if_neg c26]; done))
      · -- f
        refine y_iconst (v := 2) C dX9_addEvent_29 (by decide) ?_
        refine y_goto (t := 34) C dX9_addEvent_30 (by decide) ?_
        exact y_kE K1 (by unfold kAEv; first | (rw [if_pos (ev_f c10)]; done) | (rw [if_neg (ev_t c10), if_pos c26]; done) | (rw [if_neg (ev_t c10), if_neg c26]; done))
    · -- f
      refine y_iconst (v := 1) C dX9_addEvent_13 (by decide) ?_
      refine y_goto (t := 34) C dX9_addEvent_14 (by decide) ?_
      exact y_kE K1 (by unfold kAEv; first | (rw [if_pos (ev_f c10)]; done) | (rw [if_neg (ev_t c10), if_pos c26]; done) | (rw [if_neg (ev_t c10), if_neg c26]; done))
set_option maxHeartbeats 4000000 in
set_option maxRecDepth 100000 in
theorem l_X9_undo {x : xC} (C : Cx x mX9_undo) (σ : xS) (τ : xT) (s : Nat) (hs : s < 4) (e3 : σ 165 3 = nI s) {Z : State → Prop} (kx : ∀ σ1 : xS, (∀ i, i < 225 → σ1 166 i = σ 167 (225 * s + i)) → Fr (fun q => q = 166) σ σ1 → Y x 67 [some (.ref 165), some (.int (nI 225))] [] σ1 τ 0 0 Z) : ∀ n k : Nat, k + n = 225 → ∀ σ1 : xS, (∀ i, i < k → σ1 166 i = σ 167 (225 * s + i)) → Fr (fun q => q = 166) σ σ1 → Y x 33 [some (.ref 165), some (.int (nI k))] [] σ1 τ 0 0 Z := by
  intro n
  induction n with
  | zero =>
    intro k hk
    intro σ1 h1 hF1
    refine y_iload_n C dX9_undo_33 rfl ?_
    refine y_sipush (v := 225) C dX9_undo_34 (by decide) ?_
    refine y_icmp_ge (t := 67) C dX9_undo_37 (by decide) (fun c37 => ?_) (fun c37 => absurd (by rw [show k = 225 by omega]; exact Int32.le_refl _) c37)
    obtain rfl : k = 225 := by omega
    exact kx σ1 h1 hF1
  | succ n ih =>
    intro k hk
    intro σ1 h1 hF1
    refine y_iload_n C dX9_undo_33 rfl ?_
    refine y_sipush (v := 225) C dX9_undo_34 (by decide) ?_
    refine y_icmp_ge (t := 67) C dX9_undo_37 (by decide) (fun c37 => absurd c37 (nI_ge (a := k) (b := 225) (by omega) (by decide))) (fun c37 => ?_)
    refine y_aload_n C dX9_undo_40 rfl ?_
    refine g_X9_now C dX9_undo_41 (by decide +kernel) (by decide +kernel) ?_
    refine y_iload_n C dX9_undo_44 rfl ?_
    refine y_aload_n C dX9_undo_45 rfl ?_
    refine g_X9_past C dX9_undo_46 (by decide +kernel) (by decide +kernel) ?_
    refine y_sipush (v := 225) C dX9_undo_49 (by decide) ?_
    refine y_aload_n C dX9_undo_52 rfl ?_
    refine g_X9_saved C dX9_undo_53 (by decide +kernel) (by decide +kernel) ?_
    refine y_topE (nI s) (by rw [hF1 165 (by decide)]; exact e3) ?_
    refine y_imul C dX9_undo_56 ?_
    refine y_iload_n C dX9_undo_57 rfl ?_
    refine y_iadd C dX9_undo_58 ?_
    refine y_topE (nI (225 * s + k)) (by simp only [← nI_add, ← pk_mul]; rfl) ?_
    refine y_ia (a := 167) (N := 900) C (225 * s + k) dX9_undo_59 (by decide) rfl (by decide) rfl (by omega) ?_
    refine y_is (a := 166) (N := 225) C k dX9_undo_60 (by decide) rfl (by decide) rfl (by omega) ?_
    refine y_iinc C dX9_undo_61 (L' := [_, _]) rfl (nI_1 k) rfl ?_
    refine y_goto (t := 33) C dX9_undo_64 (by decide) ?_
    refine ih (k + 1) (by omega) _ (fun i hi => ?_) (hF1.trans (Fr.ups rfl))
    rw [ups_eq]
    by_cases e : i = k
    · rw [e, upd_eq, hF1 167 (by decide)]
    · rw [upd_ne e]
      exact h1 i (by omega)
set_option maxHeartbeats 4000000 in
set_option maxRecDepth 100000 in
theorem e_X9_undo (σ : xS) (τ : xT) {r : Rw} {R ns nr ne t kp : Nat} {qs : Nat → Rw} (hM : σ 166 = r) (hC : RecM σ kp qs) (hk : kp ≤ 4) (I : Inv r R ns nr ne t (t + 1)) : Xi mX9_undo [.ref 165] σ τ (QM (kUnd kp) (nI (kp - 1)) σ τ r kp qs (qs (kp - 1)) ((kp - 1)) (qs)) := by
  have hR4 := I.1.1.2
  have hs8 := I.1.2.1.2
  have hr8 := I.1.2.2.1.2
  have he20 := I.1.2.2.2.1.2
  refine Xi_mk (L := [some (.ref 165), none]) (by decide) rfl (Nat.le_of_ble_eq_true rfl) rfl (fun x C => ?_)
  refine y_aload_n C dX9_undo_0 rfl ?_
  refine y_join (t := 13) (v := .int (kUnd kp)) ?_ (fun K1 => ?_)
  ·
    refine y_callVi C (e_X9_refused _ _ hM hC _) dX9_undo_13 rfl gX9_undo_X9_refused rfl (is_X9) ⟨rfl, qX9_refused⟩ ⟨rfl, rfl⟩ ⟨Nat.le_of_ble_eq_true rfl, Nat.le_of_ble_eq_true rfl⟩ rfl (Nat.le_of_ble_eq_true rfl) ⟨Nat.zero_le _, Nat.zero_le _⟩ (fun v1 σ1 τ1 hq => ?_)
    obtain ⟨rfl, hM1, hC1, hr1, hF1, rfl⟩ := hq
    refine y_if_eq (t := 21) C dX9_undo_16 (by decide) (fun c16 => ?_) (fun c16 => ?_)
    · -- t
      have hk0 : kUnd kp = 0 := (ref0 (kUnd_p _)).mp c16
      have hk1 := kUnd_0 hk0
      refine y_aload_n C dX9_undo_21 rfl ?_
      refine y_dup C dX9_undo_22 rfl ?_
      refine g_X9_saved C dX9_undo_23 (by decide +kernel) (by decide +kernel) ?_
      refine y_topE (nI kp) hC1.1 ?_
      refine y_iconst (v := 1) C dX9_undo_26 (by decide) ?_
      refine y_isub C dX9_undo_27 ?_
      refine y_topE (nI (kp - 1)) (pk_sub (b := 1) (by omega)) ?_
      refine p_X9_saved C dX9_undo_28 (by decide +kernel) (by decide +kernel) ?_
      refine y_iconst (v := 0) C dX9_undo_31 (by decide) ?_
      refine y_istore_n C dX9_undo_32 (L' := [_, _]) (Nat.lt_of_lt_of_le (by decide : (1 : Nat) < 2) (Nat.le_refl _)) rfl ?_
      refine l_X9_undo C _ τ (kp - 1) (by omega) (by rw [ups_eq, upd_eq]) (fun σ3 h3 hF3 => ?_) 225 0 (Nat.zero_add _) _ (fun i hi => absurd hi (Nat.not_lt_zero i)) Fr.rf
      refine y_trim (kc := 166) (N := 225) (qs (kp - 1)) (by decide) rfl (fun i hi => by rw [h3 i hi, ups_ne (by decide)]; exact (hC1.2 (kp - 1) (by omega) i hi).symm) ?_
      have hF4 := hF3.trans (Fr.ups (σ := σ3) (f := qs (kp - 1)) (rfl : (166 : Nat) = 166))
      have e5 : (ups σ3 166 (qs (kp - 1))) 165 = upd (σ1 165) 3 (nI (kp - 1)) := by rw [hF4 165 (by decide), ups_eq]
      refine y_aload_n C dX9_undo_67 rfl ?_
      refine g_X9_saved C dX9_undo_68 (by decide +kernel) (by decide +kernel) ?_
      refine y_topE (nI (kp - 1)) (by rw [e5, upd_eq]) ?_
      exact y_iret C rfl dX9_undo_71 (⟨by rw [e5, upd_ne (by decide)]; exact hr1, Or.inl ⟨hk0, rfl, ups_eq _ _ _, ⟨by rw [e5, upd_eq], fun j hj i hi => by rw [hF4 167 (by decide), ups_ne (by decide)]; exact hC1.2 j (by omega) i hi⟩, ((hF1.mono mS_5).trans (Fr.ups ⟨by decide, by decide⟩)).trans (hF4.mono mS_6), rfl⟩⟩)
    · -- f
      have hkn : ¬ kUnd kp = 0 := fun z => c16 ((ref0 (kUnd_p _)).mpr z)
      refine y_iconst (v := 0) C dX9_undo_19 (by decide) ?_
      exact y_iret C rfl dX9_undo_20 (⟨hr1, Or.inr ⟨hkn, hM1, hC1, hF1.mono mS_5, rfl⟩⟩)
  ·
    refine y_aload_n C dX9_undo_1 rfl ?_
    refine g_X9_saved C dX9_undo_2 (by decide +kernel) (by decide +kernel) ?_
    refine y_topE (nI kp) hC.1 ?_
    refine y_if_ne (t := 12) C dX9_undo_5 (by decide) (fun c5 => ?_) (fun c5 => ?_)
    · -- t
      have c5 : ¬ kp = 0 := fun z => c5 (by rw [z]; rfl)
      refine y_iconst (v := 0) C dX9_undo_12 (by decide) ?_
      exact y_kE K1 (by unfold kUnd; first | (rw [if_pos c5]; done) | (rw [if_neg c5]; done))
    · -- f
      have c5 : kp = 0 := (nI_eq (b := 0) (by omega) (by decide)).mp c5
      refine y_iconst (v := 1) C dX9_undo_8 (by decide) ?_
      refine y_goto (t := 13) C dX9_undo_9 (by decide) ?_
      exact y_kE K1 (by unfold kUnd; first | (rw [if_pos c5]; done) | (rw [if_neg c5]; done))
