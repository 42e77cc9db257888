/-! THE SENSORS' MINUTE, THE ALARMS' MINUTE, THE DAMPER, THE WHOLE MINUTE -/
def mW1 (r : Rw) : Nat → Rw
  | 0 => r
  | k + 1 => upd (mW1 r k) (57 + 7 * k + 6) (if mExcI (mW1 r k) k = 0 then 0 else mLes 99 (mW1 r k (57 + 7 * k + 6) + 1))
def mW2 (r : Rw) : Nat → Rw
  | 0 => r
  | k + 1 => mCM (mW2 r k) k (mAgrI (mW2 r k) (nI k))
def mSom (r : Rw) : Nat → Int32
  | 0 => 0
  | k + 1 => if mSom r k = 0 then (if mAgrI (mW2 r k) (nI k) = 0 then 0 else 1) else 1
def mBgn (r : Rw) : Nat → Int32
  | 0 => 0
  | k + 1 => if ¬ mAlaI (mW2 r (k + 1)) k = 0 ∧ mAlaI (mW2 r k) k = 0 then mBgn r k + 1 else mBgn r k
theorem mBgn_a {r : Rw} {k : Nat} (h : ¬ mAlaI (mW2 r (k + 1)) k = 0) (h2 : mAlaI (mW2 r k) k = 0) : mBgn r (k + 1) = mBgn r k + 1 := if_pos ⟨h, h2⟩
theorem mBgn_b {r : Rw} {k : Nat} (h : mAlaI (mW2 r (k + 1)) k = 0) : mBgn r (k + 1) = mBgn r k := if_neg (fun q => q.1 h)
theorem mBgn_c {r : Rw} {k : Nat} (h : ¬ mAlaI (mW2 r k) k = 0) : mBgn r (k + 1) = mBgn r k := if_neg (fun q => h q.2)
theorem mSom_a {r : Rw} {k : Nat} (h : ¬ mSom r k = 0) : mSom r (k + 1) = 1 := if_neg h
theorem mSom_b {r : Rw} {k : Nat} (h : mSom r k = 0) (h2 : ¬ mAgrI (mW2 r k) (nI k) = 0) : mSom r (k + 1) = 1 := (if_pos h).trans (if_neg h2)
theorem mSom_c {r : Rw} {k : Nat} (h : mSom r k = 0) (h2 : mAgrI (mW2 r k) (nI k) = 0) : mSom r (k + 1) = 0 := (if_pos h).trans (if_pos h2)
theorem i_rng {k m : Nat} (h : k ≤ m) (hm : m < 2 ^ 31) : 0 ≤ nI k ∧ nI k ≤ nI m := ⟨nI_pos' (by omega), nI_le h hm⟩
theorem upd_comm {f : Nat → Int32} {a b : Nat} {u v : Int32} (h : a ≠ b) : upd (upd f a u) b v = upd (upd f b v) a u := by
  funext j
  by_cases e : j = a
  · subst e; rw [upd_ne h, upd_eq, upd_eq]
  · rw [upd_ne (f := upd f b v) e]
    by_cases e2 : j = b
    · subst e2; rw [upd_eq, upd_eq]
    · rw [upd_ne e2, upd_ne e, upd_ne e2]
theorem Inv.w1 {r : Rw} {R ns nr ne t tl : Nat} (I : Inv r R ns nr ne t tl) : ∀ k, k ≤ ns → Inv (mW1 r k) R ns nr ne t tl := by
  intro k
  induction k with
  | zero => intro _; exact I
  | succ k ih =>
    intro hk
    have h8 := I.1.2.1.2
    exact (ih (by omega)).set1 (57 + 7 * k + 6) _ (Or.inr ⟨by omega, by omega, by omega⟩) (by omega) (by omega) (by omega) (by omega) (by omega) (by omega) (by omega) (by omega) (by omega) (by omega)
theorem Inv.cm {r : Rw} {R ns nr ne t tl : Nat} (I : Inv r R ns nr ne t tl) {i : Nat} (hi : i < 4) (e : Int32) : Inv (mCM r i e) R ns nr ne t tl := by
  have hd := I.2.2.2.2.2.2.1 i hi
  obtain ⟨a, ha, ea⟩ := rng (m := 31) (by decide) hd.2.1.1 hd.2.1.2
  obtain ⟨m, hm, em⟩ := rng (m := 60) (by decide) hd.2.2.1 hd.2.2.2
  obtain ⟨h, hh, eh⟩ := rng (m := 30) (by decide) I.2.2.2.2.2.1.2.1.1 I.2.2.2.2.2.1.2.1.2
  have v1 : 0 ≤ r (28 + i) - (if 0 < r (28 + i) then 1 else 0) ∧ r (28 + i) - (if 0 < r (28 + i) then 1 else 0) ≤ 60 := by
    rw [em]
    cases m with
    | zero => exact ⟨by decide, by decide⟩
    | succ m =>
      rw [if_pos (show (0 : Int32) < nI (_ + 1) from nI_lt (a := 0) (Nat.succ_pos _) (by omega)), nI_pred]
      exact i_rng (m := 60) (by omega) (by decide)
  have v2 : 0 ≤ (if e = 0 then (if 0 < r (24 + i) then r (24 + i) - 1 else 0) else r 2 + 1) ∧ (if e = 0 then (if 0 < r (24 + i) then r (24 + i) - 1 else 0) else r 2 + 1) ≤ 31 := by
    rw [ea, eh, nI_1]
    split
    · cases a with
      | zero => exact ⟨by decide, by decide⟩
      | succ a =>
        rw [if_pos (show (0 : Int32) < nI (_ + 1) from nI_lt (a := 0) (Nat.succ_pos _) (by omega)), nI_pred]
        exact i_rng (m := 31) (by omega) (by decide)
    · exact i_rng (m := 31) (by omega) (by decide)
  unfold mCM
  have I1 := I.set1 (28 + i) _ (by omega) (by omega) (by omega) (by omega) (by omega) (by omega) (by omega) (by omega) (by omega) (by omega) (fun _ _ => v1)
  exact I1.set1 (24 + i) _ (by omega) (by omega) (by omega) (by omega) (by omega) (by omega) (by omega) (by omega) (by omega) (fun _ _ => v2) (by omega)
theorem Inv.w2 {r : Rw} {R ns nr ne t tl : Nat} (I : Inv r R ns nr ne t tl) : ∀ k, k ≤ 4 → Inv (mW2 r k) R ns nr ne t tl := by
  intro k
  induction k with
  | zero => intro _; exact I
  | succ k ih =>
    intro hk
    exact (ih (by omega)).cm (by omega) _
/-- the row behind the model's watches, without and with the sensors -/
def mWt (q : Rw) (R : Nat) : Rw := upd (mW2 q R) 18 (mW2 q R 18 + (if mSom q R = 0 then 0 else 1))
def mWat (r : Rw) : Rw := mWt (mW1 r (cN (r 10))) (cN (r 6))
/-- behind the class's countAlarms -/
def mCA (q : Rw) (R : Nat) : Rw := upd (mWt q R) 13 (mW2 q R 13 + mBgn q R)
theorem mCA_0 {q : Rw} {R : Nat} (h : mSom q R = 0) : upd (mW2 q R) 13 (mW2 q R 13 + mBgn q R) = mCA q R := by
  unfold mCA mWt
  rw [if_pos h, Int32.add_zero, upd_self]
theorem mCA_1 {q : Rw} {R : Nat} (h : ¬ mSom q R = 0) : upd (upd (mW2 q R) 13 (mW2 q R 13 + mBgn q R)) 18 (mW2 q R 18 + 1) = mCA q R := by
  unfold mCA mWt
  rw [if_neg h, upd_comm (by decide)]
theorem Inv.told {r : Rw} {R ns nr ne t tl : Nat} (I : Inv r R ns nr ne t tl) {j : Nat} (h : 13 ≤ j ∧ j < 20) (v : Int32) : Inv (upd r j v) R ns nr ne t tl := I.like (fun i hi => upd_ne (by omega))
theorem Inv.wt {r : Rw} {R ns nr ne t tl : Nat} (I : Inv r R ns nr ne t tl) : Inv (mWt r R) R ns nr ne t tl := (I.w2 R I.1.1.2.2).told (by omega) _
theorem Inv.wat {r : Rw} {R ns nr ne t tl : Nat} (I : Inv r R ns nr ne t tl) : Inv (mWat r) R ns nr ne t tl := by
  unfold mWat
  rw [inv_cs I, inv_cR I]
  exact (I.w1 ns (Nat.le_refl _)).wt
theorem Inv.ca {r : Rw} {R ns nr ne t tl : Nat} (I : Inv r R ns nr ne t tl) : Inv (mCA r R) R ns nr ne t tl := I.wt.told (by omega) _
/-! the damper -/
def mTgt (r : Rw) : Rw := if mFst r = -1 then r else upd r 9 (r (113 + 4 * cN (mFst r) + 3))
def mMove (r : Rw) : Rw := if mTgt r 3 = 0 ∧ ¬ mTgt r 4 = mTgt r 9 then upd (mMv1 (mTgt r)) 14 (mMv1 (mTgt r) 14 + 1) else mTgt r
theorem mFs_cases (r : Rw) : ∀ f k, mFs r k f = -1 ∨ ∃ i, k ≤ i ∧ i < k + f ∧ mFs r k f = nI i := by
  intro f
  induction f with
  | zero => intro k; exact Or.inl rfl
  | succ f ih =>
    intro k
    simp only [mFs]
    split
    · exact Or.inr ⟨k, Nat.le_refl _, by omega, rfl⟩
    · rcases ih (k + 1) with h | ⟨i, h1, h2, h3⟩
      · exact Or.inl h
      · exact Or.inr ⟨i, by omega, by omega, h3⟩
theorem nI_nm1 {i : Nat} (h : i < 2 ^ 31) : ¬ nI i = -1 := by
  intro e
  have h1 := nI_toInt h
  rw [e] at h1
  have h2 : ((-1 : Int32)).toInt = -1 := by decide
  omega
theorem mFst_cases {r : Rw} {R ns nr ne t tl : Nat} (I : Inv r R ns nr ne t tl) : mFst r = -1 ∨ ∃ i, i < nr ∧ mFst r = nI i := by
  unfold mFst
  rw [inv_cr I]
  rcases mFs_cases r nr 0 with h | ⟨i, h1, h2, h3⟩
  · exact Or.inl h
  · exact Or.inr ⟨i, by omega, h3⟩
theorem mTgt_at {r : Rw} {i : Nat} (hi : i < 2 ^ 31) (h : mFst r = nI i) : mTgt r = upd r 9 (r (113 + 4 * i + 3)) := by
  unfold mTgt
  rw [h, if_neg (nI_nm1 hi), cN_nI hi]
theorem Inv.tgt {r : Rw} {R ns nr ne t tl : Nat} (I : Inv r R ns nr ne t tl) : Inv (mTgt r) R ns nr ne t tl := by
  have h8 := I.1.2.2.1.2
  rcases mFst_cases I with h | ⟨i, hi, h⟩
  · unfold mTgt
    rw [if_pos h]
    exact I
  · rw [mTgt_at (by omega) h]
    exact I.set1 9 _ (by omega) (by omega) (by omega) (by omega) (by omega) (by omega) (by omega) (fun _ => I.2.2.2.2.2.2.2 i hi) (by omega) (by omega) (by omega)
theorem mv_rng : ∀ a, a < 9 → ∀ b, b < 9 → ¬ nI a = nI b → 0 ≤ nI a + (if nI a < nI b then 1 else -1) ∧ nI a + (if nI a < nI b then 1 else -1) ≤ 8 := by decide +kernel
theorem Inv.mv1 {r : Rw} {R ns nr ne t tl : Nat} (I : Inv r R ns nr ne t tl) : Inv (mMv1 r) R ns nr ne t tl := by
  unfold mMv1
  split
  · rename_i h
    obtain ⟨a, ha, ea⟩ := rng (m := 8) (by decide) I.2.2.2.2.2.1.2.2.2.1.1 I.2.2.2.2.2.1.2.2.2.1.2
    obtain ⟨b, hb, eb⟩ := rng (m := 8) (by decide) I.2.2.2.2.2.1.2.2.2.2.2.2.1 I.2.2.2.2.2.1.2.2.2.2.2.2.2
    refine I.set1 4 _ (by omega) (by omega) (by omega) (by omega) (fun _ => ?_) (by omega) (by omega) (by omega) (by omega) (by omega) (by omega)
    have h2 := h.2
    rw [ea, eb] at h2 ⊢
    exact mv_rng a (by omega) b (by omega) h2
  · exact I
theorem Inv.move {r : Rw} {R ns nr ne t tl : Nat} (I : Inv r R ns nr ne t tl) : Inv (mMove r) R ns nr ne t tl := by
  unfold mMove
  split
  · exact I.tgt.mv1.told (by omega) _
  · exact I.tgt
theorem mAppI_13 (r : Rw) (v : Int32) {k : Nat} (h : cN (r (113 + 4 * k + 1)) < 4) : mAppI (upd r 13 v) k = mAppI r k := by
  unfold mAppI mAlaI mDra mStr
  have e : ∀ j, ¬ j = 13 → upd r 13 v j = r j := fun j hj => upd_ne hj
  rw [e (113 + 4 * k + 0) (by omega), e (113 + 4 * k + 1) (by omega), e (113 + 4 * k + 2) (by omega), e 5 (by decide), e 4 (by decide), e 0 (by decide), e 8 (by decide), e _ (by omega), e _ (by omega), e _ (by omega)]
theorem mFs_13 (r : Rw) (v : Int32) : ∀ f k, (∀ i, k ≤ i → i < k + f → cN (r (113 + 4 * i + 1)) < 4) → mFs (upd r 13 v) k f = mFs r k f := by
  intro f
  induction f with
  | zero => intro k _; rfl
  | succ f ih =>
    intro k h
    simp only [mFs]
    rw [mAppI_13 r v (h k (Nat.le_refl _) (by omega)), ih (k + 1) (fun i h1 h2 => h i (by omega) (by omega))]
theorem mFst_13 {r : Rw} {R ns nr ne t tl : Nat} (I : Inv r R ns nr ne t tl) (v : Int32) : mFst (upd r 13 v) = mFst r := by
  have hR := I.1.1.2.2
  unfold mFst
  rw [upd_ne (by decide), inv_cr I]
  refine mFs_13 r v nr 0 (fun i _ hi => ?_)
  obtain ⟨p, hp, ep⟩ := I.2.2.1 i (by omega)
  rw [ep, cN_nI (by omega)]
  omega
theorem mTgt_13 {r : Rw} {R ns nr ne t tl : Nat} (I : Inv r R ns nr ne t tl) (v : Int32) : mTgt (upd r 13 v) = upd (mTgt r) 13 v := by
  have h8 := I.1.2.2.1.2
  rcases mFst_cases I with h | ⟨i, hi, h⟩
  · unfold mTgt
    rw [mFst_13 I, if_pos h, if_pos h]
  · have h2 := h
    rw [← mFst_13 I v] at h2
    rw [mTgt_at (by omega) h, mTgt_at (by omega) h2, upd_ne (by omega), upd_comm (by decide)]
theorem mMv1_13 (r : Rw) (v : Int32) : mMv1 (upd r 13 v) = upd (mMv1 r) 13 v := by
  unfold mMv1
  rw [upd_ne (by decide), upd_ne (by decide), upd_ne (by decide)]
  split
  · rw [upd_comm (by decide)]
  · rfl
theorem mMv1_ne {r : Rw} {j : Nat} (h : ¬ j = 4) : mMv1 r j = r j := by
  unfold mMv1
  split
  · exact upd_ne h
  · rfl
theorem mTgt_ne {r : Rw} {j : Nat} (h : ¬ j = 9) : mTgt r j = r j := by
  unfold mTgt
  split
  · rfl
  · exact upd_ne h
theorem mMove_ne {r : Rw} {j : Nat} (h4 : ¬ j = 4) (h9 : ¬ j = 9) (h14 : ¬ j = 14) : mMove r j = r j := by
  unfold mMove
  split
  · rw [upd_ne h14, mMv1_ne h4, mTgt_ne h9]
  · exact mTgt_ne h9
theorem mMove_13 {r : Rw} {R ns nr ne t tl : Nat} (I : Inv r R ns nr ne t tl) (v : Int32) : mMove (upd r 13 v) = upd (mMove r) 13 v := by
  unfold mMove
  rw [mTgt_13 I, mMv1_13, upd_ne (by decide), upd_ne (by decide), upd_ne (by decide), upd_ne (by decide)]
  split
  · rw [upd_comm (by decide)]
  · rfl
/-! the model's masks of alarms -/
def gAl (A : Nat → Int32) : Nat → Int32
  | 0 => 0
  | k + 1 => gAl A k ||| (if A k = 0 then 0 else (1 : Int32) <<< (nI k &&& 31))
def gBg (A B : Nat → Int32) : Nat → Int32
  | 0 => 0
  | k + 1 => if ¬ A k = 0 ∧ B k = 0 then gBg A B k + 1 else gBg A B k
def gBit (m : Nat) : Nat → Int32 := fun i => if m.testBit i = true then 1 else 0
theorem gAl_ext {A B : Nat → Int32} : ∀ n, (∀ i, i < n → (A i = 0 ↔ B i = 0)) → gAl A n = gAl B n := by
  intro n
  induction n with
  | zero => intro _; rfl
  | succ n ih =>
    intro h
    simp only [gAl]
    rw [ih (fun i hi => h i (by omega))]
    have h1 := h n (by omega)
    by_cases q : A n = 0
    · rw [if_pos q, if_pos (h1.mp q)]
    · rw [if_neg q, if_neg (fun z => q (h1.mpr z))]
theorem gBg_ext {A B C D : Nat → Int32} : ∀ n, (∀ i, i < n → (A i = 0 ↔ C i = 0) ∧ (B i = 0 ↔ D i = 0)) → gBg A B n = gBg C D n := by
  intro n
  induction n with
  | zero => intro _; rfl
  | succ n ih =>
    intro h
    simp only [gBg]
    rw [ih (fun i hi => h i (by omega))]
    obtain ⟨h1, h2⟩ := h n (by omega)
    by_cases q : ¬ A n = 0 ∧ B n = 0
    · rw [if_pos q, if_pos ⟨fun z => q.1 (h1.mpr z), h2.mp q.2⟩]
    · rw [if_neg q, if_neg (fun z => q ⟨fun y => z.1 (h1.mp y), h2.mpr z.2⟩)]
theorem bits4 (A : Nat → Int32) : ∃ m, m < 16 ∧ ∀ i, i < 4 → (A i = 0 ↔ gBit m i = 0) := by
  have key : ∀ b0 b1 b2 b3 : Nat, b0 < 2 → b1 < 2 → b2 < 2 → b3 < 2 → (b0 + 2 * b1 + 4 * b2 + 8 * b3 < 16 ∧ (gBit (b0 + 2 * b1 + 4 * b2 + 8 * b3) 0 = 0 ↔ b0 = 0) ∧ (gBit (b0 + 2 * b1 + 4 * b2 + 8 * b3) 1 = 0 ↔ b1 = 0) ∧ (gBit (b0 + 2 * b1 + 4 * b2 + 8 * b3) 2 = 0 ↔ b2 = 0) ∧ (gBit (b0 + 2 * b1 + 4 * b2 + 8 * b3) 3 = 0 ↔ b3 = 0)) := by
    intro b0 b1 b2 b3 h0 h1 h2 h3
    have e0 : b0 = 0 ∨ b0 = 1 := by omega
    have e1 : b1 = 0 ∨ b1 = 1 := by omega
    have e2 : b2 = 0 ∨ b2 = 1 := by omega
    have e3 : b3 = 0 ∨ b3 = 1 := by omega
    rcases e0 with rfl | rfl <;> rcases e1 with rfl | rfl <;> rcases e2 with rfl | rfl <;> rcases e3 with rfl | rfl <;> decide +kernel
  have ex : ∀ x : Int32, ∃ b : Nat, b < 2 ∧ (x = 0 ↔ b = 0) := by
    intro x
    by_cases q : x = 0
    · exact ⟨0, by decide, by simp [q]⟩
    · exact ⟨1, by decide, by simp [q]⟩
  obtain ⟨b0, h0, e0⟩ := ex (A 0)
  obtain ⟨b1, h1, e1⟩ := ex (A 1)
  obtain ⟨b2, h2, e2⟩ := ex (A 2)
  obtain ⟨b3, h3, e3⟩ := ex (A 3)
  obtain ⟨k, k0, k1, k2, k3⟩ := key b0 b1 b2 b3 h0 h1 h2 h3
  refine ⟨_, k, fun i hi => ?_⟩
  have hz : i = 0 ∨ i = 1 ∨ i = 2 ∨ i = 3 := by omega
  rcases hz with rfl | rfl | rfl | rfl
  · exact e0.trans k0.symm
  · exact e1.trans k1.symm
  · exact e2.trans k2.symm
  · exact e3.trans k3.symm
theorem gFresh4 : ∀ R, R < 5 → ∀ a, a < 16 → ∀ b, b < 16 → mMny (gAl (gBit a) R &&& (gAl (gBit b) R ^^^ -1)) 4 = gBg (gBit a) (gBit b) R := by decide +kernel
theorem gFresh (A B : Nat → Int32) {R : Nat} (hR : R ≤ 4) : mMny (gAl A R &&& (gAl B R ^^^ -1)) 4 = gBg A B R := by
  obtain ⟨a, ha, ea⟩ := bits4 A
  obtain ⟨b, hb, eb⟩ := bits4 B
  rw [gAl_ext R (fun i hi => ea i (by omega)), gAl_ext R (fun i hi => eb i (by omega)), gBg_ext (C := gBit a) (D := gBit b) R (fun i hi => ⟨ea i (by omega), eb i (by omega)⟩)]
  exact gFresh4 R (by omega) a ha b hb
def mAla (r : Rw) (R : Nat) : Int32 := gAl (mAlaI r) R
theorem mAlaI_cong {p q : Rw} {i : Nat} (h1 : p (24 + i) = q (24 + i)) (h2 : p (28 + i) = q (28 + i)) : mAlaI p i = mAlaI q i := by
  unfold mAlaI
  rw [h1, h2]
theorem mCM_ne {r : Rw} {k i : Nat} {e : Int32} (hk : k < 4) (hi : i < 4) (h : ¬ i = k) : mCM r k e (24 + i) = r (24 + i) ∧ mCM r k e (28 + i) = r (28 + i) := by
  unfold mCM
  exact ⟨by rw [upd_ne (by omega), upd_ne (by omega)], by rw [upd_ne (by omega), upd_ne (by omega)]⟩
theorem mW2_later (r : Rw) {i : Nat} (hi : i < 4) : ∀ k, k ≤ i → mW2 r k (24 + i) = r (24 + i) ∧ mW2 r k (28 + i) = r (28 + i) := by
  intro k
  induction k with
  | zero => intro _; exact ⟨rfl, rfl⟩
  | succ k ih =>
    intro hk
    have h1 := ih (by omega)
    have h2 := mCM_ne (r := mW2 r k) (e := mAgrI (mW2 r k) (nI k)) (show k < 4 by omega) hi (show ¬ i = k by omega)
    exact ⟨h2.1.trans h1.1, h2.2.trans h1.2⟩
theorem mW2_done (r : Rw) {i : Nat} (hi : i < 4) : ∀ n, i + 1 + n ≤ 4 → mW2 r (i + 1 + n) (24 + i) = mW2 r (i + 1) (24 + i) ∧ mW2 r (i + 1 + n) (28 + i) = mW2 r (i + 1) (28 + i) := by
  intro n
  induction n with
  | zero => intro _; exact ⟨rfl, rfl⟩
  | succ n ih =>
    intro hn
    have h1 := ih (by omega)
    have h2 := mCM_ne (r := mW2 r (i + 1 + n)) (e := mAgrI (mW2 r (i + 1 + n)) (nI (i + 1 + n))) (show i + 1 + n < 4 by omega) hi (show ¬ i = i + 1 + n by omega)
    exact ⟨h2.1.trans h1.1, h2.2.trans h1.2⟩
theorem mBgn_g (r : Rw) {R : Nat} (hR : R ≤ 4) : ∀ k, k ≤ R → mBgn r k = gBg (mAlaI (mW2 r R)) (mAlaI r) k := by
  intro k
  induction k with
  | zero => intro _; rfl
  | succ k ih =>
    intro hk
    have h1 := mW2_done r (i := k) (by omega) (R - (k + 1)) (by omega)
    rw [show k + 1 + (R - (k + 1)) = R by omega] at h1
    have h2 := mW2_later r (i := k) (by omega) k (Nat.le_refl _)
    simp only [mBgn, gBg]
    rw [ih (by omega), mAlaI_cong h1.1 h1.2, mAlaI_cong h2.1 h2.2]

theorem ite10 {p : Prop} [Decidable p] : ((if p then (1 : Int32) else 0) = 0) ↔ ¬ p := by
  by_cases h : p <;> simp [h]
theorem ite10n {p : Prop} [Decidable p] : (¬ (if p then (1 : Int32) else 0) = 0) ↔ p := by
  by_cases h : p <;> simp [h]
theorem mTgt_9 (r : Rw) : upd r 9 (mTgt r 9) = mTgt r := by
  unfold mTgt
  split
  · exact upd_self r 9
  · rw [upd_eq]
theorem mTgt_m1 {r : Rw} (h : mFst r = -1) : mTgt r = r := if_pos h
theorem mHas_no {r : Rw} {R ns nr ne t tl : Nat} (I : Inv r R ns nr ne t tl) (h : (if 0 ≤ mFst r ∧ mFst r < r 11 then (1 : Int32) else 0) = 0) : mTgt r = r := by
  have h8 := I.1.2.2.1.2
  rw [ite10] at h
  rcases mFst_cases I with q | ⟨i, hi, q⟩
  · exact mTgt_m1 q
  · exact absurd ⟨by rw [q]; exact nI_pos' (by omega), by rw [q]; exact inv_r I hi⟩ h
theorem mHas_yes {r : Rw} {R ns nr ne t tl : Nat} (I : Inv r R ns nr ne t tl) (h : ¬ (if 0 ≤ mFst r ∧ mFst r < r 11 then (1 : Int32) else 0) = 0) : ∃ i, i < nr ∧ mFst r = nI i := by
  rw [ite10n] at h
  rcases mFst_cases I with q | q
  · rw [q] at h
    exact absurd h.1 (by decide)
  · exact q
theorem mMove_no {r : Rw} (h : ¬ (mTgt r 3 = 0 ∧ ¬ mTgt r 4 = mTgt r 9)) : mMove r = mTgt r ∧ mMv1 (mTgt r) = mTgt r := ⟨if_neg h, if_neg h⟩
theorem mMove_yes {r : Rw} (h : mTgt r 3 = 0 ∧ ¬ mTgt r 4 = mTgt r 9) : mMove r = upd (mMv1 (mTgt r)) 14 (mMv1 (mTgt r) 14 + 1) := if_pos h
/-! the whole minute -/
def Sk (r : Rw) : Prop := ∀ i, i < 4 → r (20 + i) ≤ 99999
theorem bu_rng : ∀ f, f < 201 → ∀ o, o < 9 → 0 ≤ (if nI f - 1 - nI o / 2 < 0 then 0 else nI f - 1 - nI o / 2) ∧ (if nI f - 1 - nI o / 2 < 0 then 0 else nI f - 1 - nI o / 2) ≤ 200 := by decide +kernel
theorem mLes_nI {a b : Nat} (ha : a < 2 ^ 31) (hb : b < 2 ^ 31) : mLes (nI a) (nI b) = nI (min a b) := by
  unfold mLes
  by_cases q : a < b
  · rw [if_pos (nI_lt q hb), Nat.min_eq_left (Nat.le_of_lt q)]
  · rw [if_neg (nI_nlt (Nat.le_of_not_lt q) ha), Nat.min_eq_right (Nat.le_of_not_lt q)]
theorem Inv.b1 {r : Rw} {R ns nr ne t tl : Nat} (I : Inv r R ns nr ne t tl) : Inv (mB1 r) R ns nr ne t tl := by
  obtain ⟨-, -, -, d4, d5, d8, -⟩ := I.2.2.2.2.2.1
  obtain ⟨f, hf, ef⟩ := rng (m := 200) (by decide) d8.1 d8.2
  obtain ⟨o, ho, eo⟩ := rng (m := 8) (by decide) d4.1 d4.2
  obtain ⟨w, hw, ew⟩ := rng (m := 999) (by decide) d5.1 d5.2
  obtain ⟨s, hs, es⟩ := mStr_nI d8.1 d8.2
  have v8 : 0 ≤ (if mStr r = 0 then r 8 else if r 8 - 1 - r 4 / 2 < 0 then 0 else r 8 - 1 - r 4 / 2) ∧ (if mStr r = 0 then r 8 else if r 8 - 1 - r 4 / 2 < 0 then 0 else r 8 - 1 - r 4 / 2) ≤ 200 := by
    by_cases q : mStr r = 0
    · rw [if_pos q]; exact d8
    · rw [if_neg q, ef, eo]
      exact bu_rng f (by omega) o (by omega)
  have v5 : 0 ≤ mLes 999 (r 5 + 6 * mStr r - r 5 / 8) ∧ mLes 999 (r 5 + 6 * mStr r - r 5 / 8) ≤ 999 := by
    have e : r 5 + 6 * mStr r - r 5 / 8 = nI (w + 6 * s - w / 8) := by
      rw [ew, es, show (6 : Int32) = nI 6 from rfl, show (8 : Int32) = nI 8 from rfl, pk_mul, nI_add, pk_div (by omega) (by decide) (by decide), pk_sub (by omega)]
    rw [e, show (999 : Int32) = nI 999 from rfl, mLes_nI (by decide) (by omega)]
    exact i_rng (Nat.min_le_left _ _) (by decide)
  unfold mB1
  have I1 := I.set1 8 _ (by omega) (by omega) (by omega) (by omega) (by omega) (by omega) (fun _ => v8) (by omega) (by omega) (by omega) (by omega)
  exact I1.set1 5 _ (by omega) (by omega) (by omega) (by omega) (by omega) (fun _ => v5) (by omega) (by omega) (by omega) (by omega) (by omega)
theorem Inv.b2 {r : Rw} {R ns nr ne t tl : Nat} (I : Inv r R ns nr ne t tl) (h20 : r 20 ≤ 99999) {u : Int32} (hu : ∃ s, s ≤ 9 ∧ u = nI s) : Inv (mB2 r u) R ns nr ne t tl := by
  obtain ⟨d0, -, -, d4, d5, -, -⟩ := I.2.2.2.2.2.1
  obtain ⟨s, hs, rfl⟩ := hu
  obtain ⟨d, hd, ed⟩ := mDra_nI ⟨d0, d4, d5⟩
  obtain ⟨x, hx, ex⟩ := rng (x := r 20) (m := 99999) (by decide) (I.2.2.2.2.2.2.1 0 (by decide)).1.1 h20
  have m1 := Nat.min_le_left (40 * s) (2 * d)
  have m2 := Nat.min_le_right (d / 2) (x + (40 * s - min (40 * s) (2 * d)))
  have e : r 20 + (40 * nI s - mLes (40 * nI s) (2 * mDra r)) - mLes (mDra r / 2) (r 20 + (40 * nI s - mLes (40 * nI s) (2 * mDra r))) = nI (x + (40 * s - min (40 * s) (2 * d)) - min (d / 2) (x + (40 * s - min (40 * s) (2 * d)))) := by
    rw [ex, ed, show (40 : Int32) = nI 40 from rfl, show (2 : Int32) = nI 2 from rfl, pk_mul, pk_mul, mLes_nI (by omega) (by omega), pk_sub m1, nI_add, pk_div (by omega) (by decide) (by decide), mLes_nI (by omega) (by omega), pk_sub m2]
  have v : 0 ≤ r 20 + (40 * nI s - mLes (40 * nI s) (2 * mDra r)) - mLes (mDra r / 2) (r 20 + (40 * nI s - mLes (40 * nI s) (2 * mDra r))) ∧ r 20 + (40 * nI s - mLes (40 * nI s) (2 * mDra r)) - mLes (mDra r / 2) (r 20 + (40 * nI s - mLes (40 * nI s) (2 * mDra r))) ≤ 110000 := by
    rw [e]
    exact i_rng (m := 110000) (by omega) (by decide)
  unfold mB2
  have I1 := I.set1 20 _ (by omega) (by omega) (by omega) (by omega) (by omega) (by omega) (by omega) (by omega) (fun _ _ => v) (by omega) (by omega)
  exact I1.told (by omega) _
theorem Sk.spread {r : Rw} {R ns nr ne t tl : Nat} (I : Inv r R ns nr ne t tl) (h : ∀ i, 1 ≤ i → i < 4 → r (20 + i) ≤ 99999) : Sk (mSpread r) := by
  intro i hi
  have hR := I.1.1.2.1
  unfold mSpread
  rw [inv_cR I]
  by_cases q : i < R
  · simp only [mSpR]
    rw [if_pos (by omega)]
    exact (mCla_rng _).2
  · rw [mSpR_out (by omega), upd_ne (by omega)]
    exact h i (by omega) hi
theorem Inv.tick {r : Rw} {R ns nr ne t tl : Nat} (I : Inv r R ns nr ne t tl) (ht : t < 1000000) : Inv (upd r 7 (r 7 + 1)) R ns nr ne (t + 1) tl := by
  obtain ⟨⟨⟨a1, a2, a3⟩, ⟨a4, a5⟩, ⟨a6, a7⟩, ⟨a8, a9⟩, ⟨a10, a11⟩⟩, b1, b2, b3, b4, ⟨c0, c2, c3, c4, c5, c8, c9⟩, d1, d2⟩ := I
  have u : ∀ i, ¬ i = 7 → upd r 7 (r 7 + 1) i = r i := fun i h => upd_ne h
  refine ⟨⟨⟨by rw [u 6 (by decide)]; exact a1, a2, a3⟩, ⟨by rw [u 10 (by decide)]; exact a4, a5⟩, ⟨by rw [u 11 (by decide)]; exact a6, a7⟩, ⟨by rw [u 12 (by decide)]; exact a8, a9⟩, ⟨by rw [upd_eq, a10, nI_1], by omega⟩⟩, fun k hk => ?_, fun k hk => ?_, fun k hk => ?_, fun k hk => ?_, ⟨?_, ?_, ?_, ?_, ?_, ?_, ?_⟩, fun i hi => ⟨?_, ?_, ?_⟩, fun k hk => ?_⟩
  · rw [u _ (by omega)]; exact b1 k hk
  · rw [u _ (by omega)]; exact b2 k hk
  · unfold EvOk
    rw [u (145 + 4 * k + 0) (by omega), u (145 + 4 * k + 1) (by omega), u (145 + 4 * k + 2) (by omega), u (145 + 4 * k + 3) (by omega)]
    exact b3 k hk
  · rw [u _ (by omega), u _ (by omega)]; exact b4 k hk
  · rw [u 0 (by decide)]; exact c0
  · rw [u 2 (by decide)]; exact c2
  · rw [u 3 (by decide)]; exact c3
  · rw [u 4 (by decide)]; exact c4
  · rw [u 5 (by decide)]; exact c5
  · rw [u 8 (by decide)]; exact c8
  · rw [u 9 (by decide)]; exact c9
  · rw [u _ (by omega)]; exact (d1 i hi).1
  · rw [u _ (by omega)]; exact (d1 i hi).2.1
  · rw [u _ (by omega)]; exact (d1 i hi).2.2
  · rw [u _ (by omega)]; exact d2 k hk
theorem mDueF_stop (r : Rw) : ∀ f k, mDueF r k f < k + f → ¬ r (145 + 4 * mDueF r k f + 0) ≤ r 7 := by
  intro f
  induction f with
  | zero => intro k h; exact absurd h (by simp only [mDueF]; omega)
  | succ f ih =>
    intro k h
    simp only [mDueF] at h ⊢
    by_cases q : r (145 + 4 * k + 0) ≤ r 7
    · rw [if_pos q] at h ⊢
      exact ih (k + 1) (by omega)
    · rw [if_neg q]
      exact q
theorem Inv.sorted {r : Rw} {R ns nr ne t tl : Nat} (I : Inv r R ns nr ne t tl) (d : Nat) : ∀ n, d + n < ne → r (145 + 4 * d + 0) ≤ r (145 + 4 * (d + n) + 0) := by
  intro n
  induction n with
  | zero => intro _; exact Int32.le_refl _
  | succ n ih =>
    intro h
    exact Int32.le_trans (ih (by omega)) (I.2.2.2.2.1 (d + n) (by omega))
theorem Inv.later {r : Rw} {R ns nr ne t : Nat} (I : Inv r R ns nr ne t t) : Inv (mComes r) R ns nr (ne - mDue r) t (t + 1) := by
  have I1 := I.comes
  have h3 := (comeN_inv I _ (mDue_le I)).2.2.2
  have hd : mDue r = mDueF r 0 ne := by
    unfold mDue
    rw [I.1.2.2.2.1.1, cN_nI (by have := I.1.2.2.2.1.2; omega)]
  refine ⟨I1.1, I1.2.1, I1.2.2.1, fun k hk => ?_, I1.2.2.2.2⟩
  obtain ⟨⟨m, em, hm1, hm2⟩, h⟩ := I1.2.2.2.1 k hk
  refine ⟨⟨m, em, ?_, hm2⟩, h⟩
  have hst := mDueF_stop r ne 0 (by rw [← hd]; omega)
  rw [← hd] at hst
  have hso := I.sorted (mDue r) k (by omega)
  have e : mComes r (145 + 4 * k + 0) = r (145 + 4 * (mDue r + k) + 0) := by
    have h9 := h3 (4 * k + 0) (by omega)
    rw [show 145 + 4 * k + 0 = 145 + (4 * k + 0) by omega]
    exact h9.trans (congrArg r (by omega))
  rw [← e, em] at hso
  have h7 : r 7 < nI m := by
    rcases Int32.lt_or_le (r 7) (nI m) with q | q
    · exact q
    · exact absurd (Int32.le_trans hso q) hst
  rw [I.1.2.2.2.2.1] at h7
  have := (nI_ltI (by have := I.1.2.2.2.2.2; omega) (by omega)).mp h7
  omega
def mR1 (r : Rw) : Rw := mComes (upd r 7 (r 7 + 1))
def mR2 (r : Rw) : Rw := mSpread (mB2 (mB1 (mR1 r)) (mStr (mR1 r)))
def mMinI (r : Rw) : Rw := mMove (mWat (mR2 r))
def mNew (r : Rw) : Int32 := mBgn (mW1 (mR2 r) (cN (mR2 r 10))) (cN (mR2 r 6))
def mMin (r : Rw) : Rw := upd (mMinI r) 13 (mMinI r 13 + mNew r)
theorem mEvK_al {r : Rw} {R ns nr ne t tl : Nat} (I : Inv r R ns nr ne t tl) {k : Nat} (hk : k < ne) (j : Nat) (hj : 16 ≤ j ∧ j < 32) : mEvK r k j = r j := by
  have hR := I.1.1.2.2
  have hns := I.1.2.1.2
  obtain ⟨-, e0, -, -, e3⟩ := I.2.2.2.1 k hk
  unfold mEvK mEff
  by_cases q0 : r (145 + 4 * k + 1) = 0
  · rw [if_pos q0]
    obtain ⟨a, b, ha, hb, hab, ea, eb⟩ := e0 q0
    rw [ea, eb, cN_nI (by omega), cN_nI (by omega)]
    exact mSets_out (by omega) (by omega) (by omega)
  · rw [if_neg q0]
    by_cases q1 : r (145 + 4 * k + 1) = 1
    · rw [if_pos q1, upd_ne (by omega)]
    · rw [if_neg q1]
      by_cases q2 : r (145 + 4 * k + 1) = 2
      · rw [if_pos q2, upd_ne (by omega)]
      · rw [if_neg q2]
        by_cases q3 : r (145 + 4 * k + 1) = 3
        · rw [if_pos q3]
          obtain ⟨a, ha, ea⟩ := e3 q3
          rw [ea, cN_nI (by omega), upd_ne (by omega)]
        · rw [if_neg q3, upd_ne (by omega)]
theorem mEffN_al {r : Rw} {R ns nr ne t tl : Nat} (I : Inv r R ns nr ne t tl) (j : Nat) (hj : 16 ≤ j ∧ j < 32) : ∀ n, n ≤ ne → mEffN r n j = r j := by
  intro n
  induction n with
  | zero => intro _; rfl
  | succ n ih =>
    intro hn
    exact (mEvK_al (effN_inv I n (by omega)).1 (by omega) j hj).trans (ih (by omega))
theorem mComes_al {r : Rw} {R ns nr ne t tl : Nat} (I : Inv r R ns nr ne t tl) (j : Nat) (hj : 16 ≤ j ∧ j < 32) : mComes r j = r j :=
  ((comeN_inv I _ (mDue_le I)).2.1 j (by omega) (by omega) (by omega)).trans (mEffN_al I j hj _ (mDue_le I))
theorem mR1_al {r : Rw} {R ns nr ne t : Nat} (I : Inv r R ns nr ne t (t + 1)) (ht : t < 1000000) (j : Nat) (hj : 16 ≤ j ∧ j < 32) : mR1 r j = r j :=
  (mComes_al (I.tick ht) j hj).trans (upd_ne (by omega))
theorem Inv.r1 {r : Rw} {R ns nr ne t : Nat} (I : Inv r R ns nr ne t (t + 1)) (ht : t < 1000000) : Inv (mR1 r) R ns nr (ne - mDue (upd r 7 (r 7 + 1))) (t + 1) (t + 2) := (I.tick ht).later
theorem Inv.b {r : Rw} {R ns nr ne t : Nat} (I : Inv r R ns nr ne t (t + 1)) (hs : Sk r) (ht : t < 1000000) : Inv (mB2 (mB1 (mR1 r)) (mStr (mR1 r))) R ns nr (ne - mDue (upd r 7 (r 7 + 1))) (t + 1) (t + 2) := by
  have I1 := I.r1 ht
  have d8 := I1.2.2.2.2.2.1.2.2.2.2.2.1
  refine I1.b1.b2 ?_ (mStr_nI d8.1 d8.2)
  unfold mB1
  rw [upd_ne (by decide), upd_ne (by decide), mR1_al I ht 20 (by decide)]
  exact hs 0 (by decide)
theorem Inv.r2 {r : Rw} {R ns nr ne t : Nat} (I : Inv r R ns nr ne t (t + 1)) (hs : Sk r) (ht : t < 1000000) : Inv (mR2 r) R ns nr (ne - mDue (upd r 7 (r 7 + 1))) (t + 1) (t + 2) := (I.b hs ht).spread
theorem Sk.r2 {r : Rw} {R ns nr ne t : Nat} (I : Inv r R ns nr ne t (t + 1)) (hs : Sk r) (ht : t < 1000000) : Sk (mR2 r) := by
  refine Sk.spread (I.b hs ht) (fun i h1 h4 => ?_)
  unfold mB2 mB1
  rw [upd_ne (by omega), upd_ne (by omega), upd_ne (by omega), upd_ne (by omega), mR1_al I ht _ (by omega)]
  exact hs i h4
theorem mW1_lo (r : Rw) {j : Nat} (h : j < 57) : ∀ k, mW1 r k j = r j := by
  intro k
  induction k with
  | zero => rfl
  | succ k ih => exact (upd_ne (by omega)).trans ih
theorem mCM_lo {r : Rw} {i j : Nat} {e : Int32} (h : j < 24 ∨ 28 + i < j) : mCM r i e j = r j := by
  unfold mCM
  rw [upd_ne (by omega), upd_ne (by omega)]
theorem mW2_lo (r : Rw) {j : Nat} (h : j < 24 ∨ 32 ≤ j) : ∀ k, k ≤ 4 → mW2 r k j = r j := by
  intro k
  induction k with
  | zero => intro _; rfl
  | succ k ih => intro hk; exact (mCM_lo (by omega)).trans (ih (by omega))
theorem mWat_lo {r : Rw} {R ns nr ne t tl : Nat} (I : Inv r R ns nr ne t tl) {j : Nat} (h : j < 24) (h18 : ¬ j = 18) : mWat r j = r j := by
  unfold mWat mWt
  rw [upd_ne h18, inv_cR I, mW2_lo _ (Or.inl h) R I.1.1.2.2, mW1_lo _ (by omega)]
theorem Inv.minI {r : Rw} {R ns nr ne t : Nat} (I : Inv r R ns nr ne t (t + 1)) (hs : Sk r) (ht : t < 1000000) : Inv (mMinI r) R ns nr (ne - mDue (upd r 7 (r 7 + 1))) (t + 1) (t + 2) := (I.r2 hs ht).wat.move
theorem Inv.min {r : Rw} {R ns nr ne t : Nat} (I : Inv r R ns nr ne t (t + 1)) (hs : Sk r) (ht : t < 1000000) : Inv (mMin r) R ns nr (ne - mDue (upd r 7 (r 7 + 1))) (t + 1) (t + 2) := (I.minI hs ht).told (by omega) _
theorem Sk.min {r : Rw} {R ns nr ne t : Nat} (I : Inv r R ns nr ne t (t + 1)) (hs : Sk r) (ht : t < 1000000) : Sk (mMin r) := by
  intro i hi
  unfold mMin mMinI
  rw [upd_ne (by omega), mMove_ne (by omega) (by omega) (by omega), mWat_lo (I.r2 hs ht) (by omega) (by omega)]
  exact Sk.r2 I hs ht i hi
/-- the class's minute is the model's -/
theorem min_class {r : Rw} {R ns nr ne t : Nat} (I : Inv r R ns nr ne t (t + 1)) (hs : Sk r) (ht : t < 1000000) : mMove (mCA (mW1 (mR2 r) ns) R) = mMin r ∧ mBgn (mW1 (mR2 r) ns) R = mNew r := by
  have I2 := I.r2 hs ht
  have e : mNew r = mBgn (mW1 (mR2 r) ns) R := by
    unfold mNew
    rw [inv_cs I2, inv_cR I2]
  have I3 := (I2.w1 ns (Nat.le_refl _)).wt
  have em : mMinI r = mMove (mWt (mW1 (mR2 r) ns) R) := by
    unfold mMinI mWat
    rw [inv_cs I2, inv_cR I2]
  refine ⟨?_, e.symm⟩
  unfold mCA
  rw [mMove_13 I3]
  unfold mMin
  rw [em, e, mMove_ne (j := 13) (by decide) (by decide) (by decide)]
  congr 2
theorem min_model {r : Rw} {R ns nr ne t : Nat} (I : Inv r R ns nr ne t (t + 1)) (hs : Sk r) (ht : t < 1000000) : mMny (mAla (mMinI r) R &&& (mAla r R ^^^ -1)) 4 = mNew r := by
  have I2 := I.r2 hs ht
  have Ib := I.b hs ht
  have hR := I.1.1.2.2
  rw [← (min_class I hs ht).2, mBgn_g _ hR R (Nat.le_refl _)]
  unfold mAla
  rw [gFresh _ _ hR]
  have al : ∀ j, 24 ≤ j → j < 32 → mW1 (mR2 r) ns j = r j := by
    intro j h1 h2
    rw [mW1_lo _ (by omega)]
    unfold mR2 mSpread
    rw [inv_cR Ib, mSpR_out (by omega), upd_ne (by omega)]
    unfold mB2 mB1
    rw [upd_ne (by omega), upd_ne (by omega), upd_ne (by omega), upd_ne (by omega)]
    exact mR1_al I ht j (by omega)
  have af : ∀ j, 24 ≤ j → j < 32 → mMinI r j = mW2 (mW1 (mR2 r) ns) R j := by
    intro j h1 h2
    unfold mMinI
    rw [mMove_ne (by omega) (by omega) (by omega)]
    unfold mWat mWt
    rw [upd_ne (by omega), inv_cs I2, inv_cR I2]
  refine gBg_ext R (fun i hi => ?_)
  rw [mAlaI_cong (af (24 + i) (by omega) (by omega)) (af (28 + i) (by omega) (by omega)), mAlaI_cong (al (24 + i) (by omega) (by omega)) (al (28 + i) (by omega) (by omega))]
  exact ⟨Iff.rfl, Iff.rfl⟩

