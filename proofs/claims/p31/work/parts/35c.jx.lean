/-! MORE THAT STAYS TRUE OF A ROW: the quorum, two counts against the minute, the faults, the faults that events bring -/
def Jx (r : Rw) : Prop := 0 ≤ r 1 ∧ (∃ a, r 14 = nI a ∧ a ≤ cN (r 7)) ∧ (∃ a, r 18 = nI a ∧ a ≤ cN (r 7)) ∧ (∀ k, k < cN (r 10) → 0 ≤ r (57 + 7 * k + 5)) ∧ ∀ k, k < cN (r 12) → r (145 + 4 * k + 1) = 3 → 0 ≤ r (145 + 4 * k + 3)
theorem inv_ce {r : Rw} {R ns nr ne t tl : Nat} (I : Inv r R ns nr ne t tl) : cN (r 12) = ne := by
  rw [I.1.2.2.2.1.1]
  exact cN_nI (by have := I.1.2.2.2.1.2; omega)
theorem inv_ct {r : Rw} {R ns nr ne t tl : Nat} (I : Inv r R ns nr ne t tl) : cN (r 7) = t := by
  rw [I.1.2.2.2.2.1]
  exact cN_nI (by have := I.1.2.2.2.2.2; omega)
/-- the same, the numbers named -/
def Jn (r : Rw) (ns ne t : Nat) : Prop := 0 ≤ r 1 ∧ (∃ a, r 14 = nI a ∧ a ≤ t) ∧ (∃ a, r 18 = nI a ∧ a ≤ t) ∧ (∀ k, k < ns → 0 ≤ r (57 + 7 * k + 5)) ∧ ∀ k, k < ne → r (145 + 4 * k + 1) = 3 → 0 ≤ r (145 + 4 * k + 3)
theorem jx_jn {r : Rw} {R ns nr ne t tl : Nat} (I : Inv r R ns nr ne t tl) : Jx r ↔ Jn r ns ne t := by
  unfold Jx Jn
  rw [inv_cs I, inv_ce I, inv_ct I]
theorem Jn.like {r q : Rw} {ns ne t : Nat} (J : Jn r ns ne t) (h1 : q 1 = r 1) (h14 : q 14 = r 14) (h18 : q 18 = r 18) (hf : ∀ k, k < ns → q (57 + 7 * k + 5) = r (57 + 7 * k + 5)) (he : ∀ k w, k < ne → w < 4 → q (145 + 4 * k + w) = r (145 + 4 * k + w)) : Jn q ns ne t := by
  obtain ⟨a1, a2, a3, a4, a5⟩ := J
  refine ⟨by rw [h1]; exact a1, by rw [h14]; exact a2, by rw [h18]; exact a3, fun k hk => by rw [hf k hk]; exact a4 k hk, fun k hk e => ?_⟩
  rw [he k 1 hk (by decide)] at e
  rw [he k 3 hk (by decide)]
  exact a5 k hk e
theorem Jn.upd1 {r : Rw} {ns ne t : Nat} (J : Jn r ns ne t) (j : Nat) (v : Int32) (hs : ns ≤ 8) (h : j < 57 ∧ j ≠ 1 ∧ j ≠ 14 ∧ j ≠ 18) : Jn (upd r j v) ns ne t :=
  J.like (upd_ne (by omega)) (upd_ne (by omega)) (upd_ne (by omega)) (fun k hk => upd_ne (by omega)) (fun k w hk hw => upd_ne (by omega))
theorem mEvK_oth {r : Rw} {R ns nr ne t tl : Nat} (I : Inv r R ns nr ne t tl) {k : Nat} (hk : k < ne) (j : Nat) (hj : j < 32 ∧ j ≠ 0 ∧ j ≠ 3 ∧ j ≠ 8) : mEvK r k j = r j := by
  have hR := I.1.1.2.2
  have hns := I.1.2.1.2
  obtain ⟨-, e0, -, -, e3⟩ := I.2.2.2.1 k hk
  unfold mEvK mEff
  by_cases q0 : r (145 + 4 * k + 1) = 0
  · rw [if_pos q0]
    obtain ⟨a, b, ha, hb, hab, ea, eb⟩ := e0 q0
    rw [ea, eb, cN_nI (by omega), cN_nI (by omega)]
    exact mSets_out (by omega) (by omega) (by omega)
  · rw [if_neg q0]
    by_cases q1 : r (145 + 4 * k + 1) = 1
    · rw [if_pos q1, upd_ne (by omega)]
    · rw [if_neg q1]
      by_cases q2 : r (145 + 4 * k + 1) = 2
      · rw [if_pos q2, upd_ne (by omega)]
      · rw [if_neg q2]
        by_cases q3 : r (145 + 4 * k + 1) = 3
        · rw [if_pos q3]
          obtain ⟨a, ha, ea⟩ := e3 q3
          rw [ea, cN_nI (by omega), upd_ne (by omega)]
        · rw [if_neg q3, upd_ne (by omega)]
theorem mEvK_flt {r : Rw} {R ns nr ne t tl : Nat} (I : Inv r R ns nr ne t tl) {k : Nat} (hk : k < ne) (hf : ∀ i, i < ns → 0 ≤ r (57 + 7 * i + 5)) (hb : r (145 + 4 * k + 1) = 3 → 0 ≤ r (145 + 4 * k + 3)) : ∀ i, i < ns → 0 ≤ mEvK r k (57 + 7 * i + 5) := by
  intro i hi
  have hR := I.1.1.2.2
  have hns := I.1.2.1.2
  obtain ⟨-, e0, -, -, e3⟩ := I.2.2.2.1 k hk
  unfold mEvK mEff
  by_cases q0 : r (145 + 4 * k + 1) = 0
  · rw [if_pos q0]
    obtain ⟨a, b, ha, hb2, hab, ea, eb⟩ := e0 q0
    rw [ea, eb, cN_nI (by omega), cN_nI (by omega), mSets_out (by omega) (by omega) (by omega)]
    exact hf i hi
  · rw [if_neg q0]
    by_cases q1 : r (145 + 4 * k + 1) = 1
    · rw [if_pos q1, upd_ne (by omega)]; exact hf i hi
    · rw [if_neg q1]
      by_cases q2 : r (145 + 4 * k + 1) = 2
      · rw [if_pos q2, upd_ne (by omega)]; exact hf i hi
      · rw [if_neg q2]
        by_cases q3 : r (145 + 4 * k + 1) = 3
        · rw [if_pos q3]
          by_cases z : 57 + 7 * i + 5 = 57 + 7 * cN (r (145 + 4 * k + 2)) + 5
          · rw [z, upd_eq]; exact hb q3
          · rw [upd_ne z]; exact hf i hi
        · rw [if_neg q3, upd_ne (by omega)]; exact hf i hi
theorem mEffN_oth {r : Rw} {R ns nr ne t tl : Nat} (I : Inv r R ns nr ne t tl) (j : Nat) (hj : j < 32 ∧ j ≠ 0 ∧ j ≠ 3 ∧ j ≠ 8) : ∀ n, n ≤ ne → mEffN r n j = r j := by
  intro n
  induction n with
  | zero => intro _; rfl
  | succ n ih =>
    intro hn
    exact (mEvK_oth (effN_inv I n (by omega)).1 (by omega) j hj).trans (ih (by omega))
theorem mEffN_flt {r : Rw} {R ns nr ne t tl : Nat} (I : Inv r R ns nr ne t tl) (hf : ∀ i, i < ns → 0 ≤ r (57 + 7 * i + 5)) (hb : ∀ k, k < ne → r (145 + 4 * k + 1) = 3 → 0 ≤ r (145 + 4 * k + 3)) : ∀ n, n ≤ ne → ∀ i, i < ns → 0 ≤ mEffN r n (57 + 7 * i + 5) := by
  intro n
  induction n with
  | zero => intro _; exact hf
  | succ n ih =>
    intro hn
    obtain ⟨I1, h1⟩ := effN_inv I n (by omega)
    refine mEvK_flt I1 (by omega) (ih (by omega)) (fun e => ?_)
    rw [h1 _ (by omega)] at e ⊢
    exact hb n (by omega) e
theorem Jn.comes {r : Rw} {R ns nr ne t tl : Nat} (I : Inv r R ns nr ne t tl) {u : Nat} (J : Jn r ns ne u) : Jn (mComes r) ns (ne - mDue r) u := by
  have hns := I.1.2.1.2
  have hd := mDue_le I
  obtain ⟨-, h2, -, h4⟩ := comeN_inv I _ hd
  obtain ⟨a1, a2, a3, a4, a5⟩ := J
  have o : ∀ j, (j < 32 ∧ j ≠ 0 ∧ j ≠ 3 ∧ j ≠ 8) → j ≠ 12 → j ≠ 15 → mComes r j = r j := fun j hj h12 h15 => (h2 j (by omega) h12 h15).trans (mEffN_oth I j hj _ hd)
  have e : ∀ k w, k < ne - mDue r → w < 4 → mComes r (145 + 4 * k + w) = r (145 + 4 * (mDue r + k) + w) := fun k w hk hw => by
    rw [show 145 + 4 * k + w = 145 + (4 * k + w) by omega]
    exact (h4 (4 * k + w) (by omega)).trans (congrArg r (by omega))
  refine ⟨by rw [o 1 (by decide) (by decide) (by decide)]; exact a1, by rw [o 14 (by decide) (by decide) (by decide)]; exact a2, by rw [o 18 (by decide) (by decide) (by decide)]; exact a3, fun k hk => ?_, fun k hk q => ?_⟩
  · have h9 := h2 (57 + 7 * k + 5) (by omega) (by omega) (by omega)
    show 0 ≤ mComeN r (mDue r) (57 + 7 * k + 5)
    rw [h9]
    exact mEffN_flt I a4 a5 _ hd k hk
  · rw [e k 1 hk (by decide)] at q
    rw [e k 3 hk (by decide)]
    exact a5 _ (by omega) q
theorem mW1_oth (r : Rw) {j : Nat} : ∀ k, (∀ i, i < k → j ≠ 57 + 7 * i + 6) → mW1 r k j = r j := by
  intro k
  induction k with
  | zero => intro _; rfl
  | succ k ih => intro h; exact (upd_ne (h k (Nat.lt_succ_self k))).trans (ih (fun i hi => h i (by omega)))
/-- what a minute leaves as the events have left it -/
theorem mMin_oth {r : Rw} {R ns nr ne t : Nat} (I : Inv r R ns nr ne t (t + 1)) (hs : Sk r) (ht : t < 1000000) {j : Nat} (h : j = 1 ∨ (57 ≤ j ∧ ∀ k, k < 8 → j ≠ 57 + 7 * k + 6)) : mMin r j = mR1 r j := by
  have I2 := I.r2 hs ht
  have Ib := I.b hs ht
  have hR := I.1.1.2.2
  unfold mMin mMinI
  rw [upd_ne (by omega), mMove_ne (by omega) (by omega) (by omega)]
  unfold mWat mWt
  rw [upd_ne (by omega), inv_cR I2, inv_cs I2, mW2_lo _ (by omega) R hR, mW1_oth _ ns (fun k hk => by rcases h with h | h; omega; exact h.2 k (by have := I.1.2.1.2; omega))]
  unfold mR2 mSpread
  rw [inv_cR Ib, mSpR_out (by omega), upd_ne (by omega)]
  unfold mB2 mB1
  rw [upd_ne (by omega), upd_ne (by omega), upd_ne (by omega), upd_ne (by omega)]
theorem mR1_14 {r : Rw} {R ns nr ne t : Nat} (I : Inv r R ns nr ne t (t + 1)) (ht : t < 1000000) (j : Nat) (hj : j = 14 ∨ j = 18) : mR1 r j = r j := by
  have I1 := I.tick ht
  have h2 := (comeN_inv I1 _ (mDue_le I1)).2.1 j (by omega) (by omega) (by omega)
  exact (h2.trans (mEffN_oth I1 j (by omega) _ (mDue_le I1))).trans (upd_ne (by omega))
theorem mR2_14 {r : Rw} {R ns nr ne t : Nat} (I : Inv r R ns nr ne t (t + 1)) (hs : Sk r) (ht : t < 1000000) (j : Nat) (hj : j = 14 ∨ j = 18) : mR2 r j = r j := by
  have Ib := I.b hs ht
  unfold mR2 mSpread
  rw [inv_cR Ib, mSpR_out (by omega), upd_ne (by omega)]
  unfold mB2 mB1
  rw [upd_ne (by omega), upd_ne (by omega), upd_ne (by omega), upd_ne (by omega)]
  exact mR1_14 I ht j hj
theorem mMove_14 (q : Rw) : mMove q 14 = q 14 ∨ mMove q 14 = q 14 + 1 := by
  have e1 : mTgt q 14 = q 14 := by
    unfold mTgt
    split
    · rfl
    · rw [upd_ne (by decide)]
  have e2 : mMv1 (mTgt q) 14 = q 14 := by
    unfold mMv1
    split
    · rw [upd_ne (by decide), e1]
    · exact e1
  unfold mMove
  split
  · right; rw [upd_eq, e2]
  · left; exact e1
/-- the moves of a minute -/
theorem mMin_14 {r : Rw} {R ns nr ne t : Nat} (I : Inv r R ns nr ne t (t + 1)) (hs : Sk r) (ht : t < 1000000) : mMin r 14 = r 14 ∨ mMin r 14 = r 14 + 1 := by
  have e : mWat (mR2 r) 14 = r 14 := (mWat_lo (I.r2 hs ht) (by decide) (by decide)).trans (mR2_14 I hs ht 14 (Or.inl rfl))
  have h := mMove_14 (mWat (mR2 r))
  unfold mMin mMinI
  rw [upd_ne (by decide)]
  rw [e] at h
  exact h
theorem mMin_18 {r : Rw} {R ns nr ne t : Nat} (I : Inv r R ns nr ne t (t + 1)) (hs : Sk r) (ht : t < 1000000) : mMin r 18 = r 18 ∨ mMin r 18 = r 18 + 1 := by
  have I2 := I.r2 hs ht
  have hR := I.1.1.2.2
  have e : ∀ k, mW2 (mW1 (mR2 r) k) R 18 = r 18 := fun k => by
    rw [mW2_lo _ (by omega) R hR, mW1_lo _ (by omega)]
    exact mR2_14 I hs ht 18 (Or.inr rfl)
  unfold mMin mMinI
  rw [upd_ne (by decide), mMove_ne (by decide) (by decide) (by decide)]
  unfold mWat mWt
  rw [upd_eq, inv_cR I2, e]
  split
  · left; exact Int32.add_zero _
  · right; rfl
theorem Jn.min {r : Rw} {R ns nr ne t : Nat} (I : Inv r R ns nr ne t (t + 1)) (hs : Sk r) (ht : t < 1000000) (J : Jn r ns ne t) : Jn (mMin r) ns (ne - mDue (upd r 7 (r 7 + 1))) (t + 1) := by
  have hns := I.1.2.1.2
  have I1 := I.tick ht
  have J1 : Jn (upd r 7 (r 7 + 1)) ns ne t := J.upd1 7 _ hns (by decide)
  have J2 : Jn (mR1 r) ns (ne - mDue (upd r 7 (r 7 + 1))) t := Jn.comes I1 J1
  obtain ⟨-, ⟨a, ea, ha⟩, ⟨b, eb, hb⟩, -, -⟩ := J
  obtain ⟨b1, -, -, b4, b5⟩ := J2
  have hne : ne - mDue (upd r 7 (r 7 + 1)) ≤ 20 := by have := I.1.2.2.2.1.2; omega
  refine ⟨by rw [mMin_oth I hs ht (Or.inl rfl)]; exact b1, ?_, ?_, fun k hk => ?_, fun k hk q => ?_⟩
  · rcases mMin_14 I hs ht with h | h
    · exact ⟨a, h.trans ea, by omega⟩
    · exact ⟨a + 1, by rw [h, ea]; exact nI_1 a, by omega⟩
  · rcases mMin_18 I hs ht with h | h
    · exact ⟨b, h.trans eb, by omega⟩
    · exact ⟨b + 1, by rw [h, eb]; exact nI_1 b, by omega⟩
  · rw [mMin_oth I hs ht (Or.inr ⟨by omega, fun i hi => by omega⟩)]
    exact b4 k hk
  · rw [mMin_oth I hs ht (Or.inr ⟨by omega, fun i hi => by omega⟩)] at q ⊢
    exact b5 k hk q
/-! THE LAW'S INVARIANT OF A ROW -/
def Gd (r : Rw) (R ns nr ne t : Nat) : Prop := Inv r R ns nr ne t (t + 1) ∧ Sk r ∧ Jn r ns ne t
theorem Gd.min {r : Rw} {R ns nr ne t : Nat} (G : Gd r R ns nr ne t) (ht : t < 1000000) : Gd (mMin r) R ns nr (ne - mDue (upd r 7 (r 7 + 1))) (t + 1) := ⟨G.1.min G.2.1 ht, Sk.min G.1 G.2.1 ht, Jn.min G.1 G.2.1 ht G.2.2⟩
theorem Gd.minN {R ns nr : Nat} : ∀ (n : Nat) {r : Rw} {ne t : Nat}, Gd r R ns nr ne t → t + n ≤ 1000000 → ∃ ne', Gd (mMinN r n) R ns nr ne' (t + n) := by
  intro n
  induction n with
  | zero => intro r ne t G _; exact ⟨ne, G⟩
  | succ n ih =>
    intro r ne t G h
    obtain ⟨ne', G'⟩ := ih (G.min (by omega)) (by omega)
    refine ⟨ne', ?_⟩
    rw [show t + (n + 1) = t + 1 + n by omega]
    exact G'
def Gk (r : Rw) (T : Nat) : Prop := ∃ R ns nr ne t, Gd r R ns nr ne t ∧ t ≤ T
theorem Gk.mono {r : Rw} {T T' : Nat} (h : Gk r T) (hT : T ≤ T') : Gk r T' := by
  obtain ⟨R, ns, nr, ne, t, G, h⟩ := h
  exact ⟨R, ns, nr, ne, t, G, by omega⟩
theorem Gk.of {r : Rw} {T : Nat} (h : Ok r T) (J : Jx r) : Gk r T := by
  obtain ⟨R, ns, nr, ne, t, I, hs, ht⟩ := h
  exact ⟨R, ns, nr, ne, t, ⟨I, hs, (jx_jn I).mp J⟩, ht⟩
theorem Jn.toX {r q : Rw} {R ns nr ne t tl : Nat} (J : Jn q ns ne t) (h10 : q 10 = nI ns) (h12 : q 12 = nI ne) (h7 : q 7 = nI t) (hb : ns ≤ 8 ∧ ne ≤ 20 ∧ t ≤ 1000000) : Jx q := by
  unfold Jx
  rw [h10, h12, h7, cN_nI (by omega), cN_nI (by omega), cN_nI (by omega)]
  exact J
