/-! WHAT IS TOLD IN THOUGHT, minute by minute -/
section RT
variable {r : Rw} {R ns nr ne t kp : Nat} {qs : Nat → Rw}
theorem w1_in {N m : Nat} (h : 1 ≤ N ∧ N ≤ m) (hm : m < 2 ^ 30) : ¬ mWithI (nI N) 1 (nI m) = 0 := mWithI_ne.mpr ⟨nI_le (a := 1) h.1 (by omega), nI_le h.2 (by omega)⟩
theorem w0_in {N m : Nat} (h : N ≤ m) (hm : m < 2 ^ 30) : ¬ mWithI (nI N) 0 (nI m) = 0 := mWithI_ne.mpr ⟨nI_pos' (by omega), nI_le h (by omega)⟩
theorem kW_in1 {N m : Nat} (h : 1 ≤ N ∧ N ≤ m) (hm : m < 2 ^ 30) : kW (nI N) 1 (nI m) = 0 := by unfold kW; rw [if_neg (w1_in h hm)]
theorem rd_pass (G : Gd r R ns nr ne t) (hk : kp ≤ 4) (ht : t + 200 ≤ 1000000) (w : Nat) (hw : 1 ≤ w ∧ w ≤ 60) : Xs mL_pass [.ref 0, .int (nI w)] r kp qs (mNewN r w 0) (mMinN r w) (kK kp) (kQ kp qs r) := by
  have h := s_pass (qs := qs) G.1 hk G.2.1 ht (nI w) (kW_in1 hw (by decide))
  rw [cN_nI (by omega)] at h
  exact h
theorem pass_nn' (G : Gd r R ns nr ne t) (w : Nat) (hw : t + w ≤ 1000000) : ¬ mNewN r w 0 < 0 := by
  obtain ⟨c, hc, e⟩ := mNewN_n w 0 G hw
  rw [show (0 : Int32) = nI 0 from rfl, e]
  exact nI_nlt (by omega) (by omega)
theorem rd_alarmIn (G : Gd r R ns nr ne t) (hk : kp ≤ 4) (ht : t + 200 ≤ 1000000) {i N : Nat} (hi : i < R) (hN : 1 ≤ N ∧ N ≤ 200) : Xs mL_alarmIn [.ref 0, .int (nI i), .int (nI N)] r kp qs (mAIn r i N) r kp qs := by
  have h4 := G.1.1.1.2.2
  have h := s_alarmIn (qs := qs) G.1 hk G.2.1 ht (nI i) (nI N) (kRW_in G hi (w1_in hN (by decide)))
  rw [cN_nI (by omega), cN_nI (by omega)] at h
  exact h
theorem rd_smokeAfter (G : Gd r R ns nr ne t) (hk : kp ≤ 4) (ht : t + 200 ≤ 1000000) {i N : Nat} (hi : i < R) (hN : 1 ≤ N ∧ N ≤ 200) : Xs mL_smokeAfter [.ref 0, .int (nI i), .int (nI N)] r kp qs (mMinN r N (20 + i)) r kp qs := by
  have h4 := G.1.1.1.2.2
  have h := s_smokeAfter (qs := qs) G.1 hk G.2.1 ht (nI i) (nI N) (kRW_in G hi (w1_in hN (by decide)))
  rw [cN_nI (by omega), cN_nI (by omega)] at h
  exact h
theorem rd_burnsFor (G : Gd r R ns nr ne t) (hk : kp ≤ 4) (ht : t + 200 ≤ 1000000) {N : Nat} (hN : 1 ≤ N ∧ N ≤ 200) : Xs mL_burnsFor [.ref 0, .int (nI N)] r kp qs (mBFo r N) r kp qs := by
  have h := s_burnsFor (qs := qs) G.1 hk G.2.1 ht (nI N) (kW_in1 hN (by decide))
  rw [cN_nI (by omega)] at h
  exact h
theorem rd_best (G : Gd r R ns nr ne t) (hk : kp ≤ 4) (ht : t + 200 ≤ 1000000) {N : Nat} (hN : 1 ≤ N ∧ N ≤ 200) : Xs mL_bestOpening [.ref 0, .int (nI N)] r kp qs (nI (mBe r N 8)) r kp qs := by
  have h := s_bestOpening (qs := qs) G.1 hk G.2.1 ht (nI N) (kW_in1 hN (by decide))
  rw [cN_nI (by omega)] at h
  exact h
theorem rd_peak0 (G : Gd r R ns nr ne t) (hk : kp ≤ 4) (ht : t + 200 ≤ 1000000) {o : Int32} {N : Nat} (ho : 0 ≤ o ∧ o ≤ 8) (hN : 1 ≤ N ∧ N ≤ 200) : Xs mL_peak [.ref 0, .int 0, .int o, .int (nI N)] r kp qs (mPk r 0 o N) r kp qs := by
  have hR := G.1.1.1
  have hin : ¬ mRoomI r 0 = 0 := mRoomI_ne.mpr ⟨by decide, by rw [hR.1]; exact nI_lt (a := 0) (by omega) (by omega)⟩
  have h := s_peak (qs := qs) G.1 hk G.2.1 ht 0 o (nI N) (by unfold kPeak; rw [if_neg hin, if_neg (fun z => z.elim (mWithI_ne.mpr ho) (w1_in hN (by decide)))])
  rw [show cN 0 = 0 from by decide, cN_nI (by omega)] at h
  exact h
theorem rd_smoke0 (G : Gd r R ns nr ne t) (hk : kp ≤ 4) (ht : t + 200 ≤ 1000000) {N : Nat} (hN : 1 ≤ N ∧ N ≤ 200) : Xs mL_smokeAfter [.ref 0, .int 0, .int (nI N)] r kp qs (mMinN r N 20) r kp qs := rd_smokeAfter (i := 0) G hk ht (by have := G.1.1.1.2.1; omega) hN
theorem rd_needed (G : Gd r R ns nr ne t) (hk : kp ≤ 4) (ht : t + 200 ≤ 1000000) {i N : Nat} (hi : i < R) (hN : 1 ≤ N ∧ N ≤ 200) : Xs mL_neededSensors [.ref 0, .int (nI i), .int (nI N)] r kp qs (mNee r i N ns) r kp qs := by
  have h4 := G.1.1.1.2.2
  have h := s_neededSensors (qs := qs) G.1 hk G.2.1 ht (nI i) (nI N) (kRW_in G hi (w1_in hN (by decide)))
  rw [cN_nI (by omega), cN_nI (by omega)] at h
  exact h
theorem rd_dead (G : Gd r R ns nr ne t) (hk : kp ≤ 4) {i : Nat} (hi : i < ns) : Xs mL_setFault [.ref 0, .int (nI i), .int 1] r kp qs (r (57 + 7 * i + 5)) (upd r (57 + 7 * i + 5) 1) (kK kp) (kQ kp qs r) := by
  have h4 := G.1.1.2.1.2
  have h := s_setFault (qs := qs) G.1 hk (nI i) 1 (kSW_in G hi (by decide))
  rw [cN_nI (by omega)] at h
  exact h
theorem Gd.dead (G : Gd r R ns nr ne t) {i : Nat} (hi : i < ns) : Gd (upd r (57 + 7 * i + 5) 1) R ns nr ne t := ⟨G.1.dead hi 1, G.2.1.dead i 1, jn_flt G.2.2 ⟨G.1.1.2.1.2, hi⟩ (by decide)⟩
theorem eq_top {n m : Nat} (h : ¬ nI n < nI m) (hn : n ≤ m) (hm : m < 2 ^ 30) : n = m := by
  rcases Nat.lt_or_ge n m with q | q
  · exact absurd (nI_lt q (by omega)) h
  · omega
end RT
/-- the first of the numbers 1, 2 .. k at which p is not 0 -/
def gF (p : Nat → Int32) : Nat → Int32
  | 0 => -1
  | k + 1 => if gF p k = -1 ∧ ¬ p (k + 1) = 0 then nI (k + 1) else gF p k
theorem gF_a {p : Nat → Int32} {k : Nat} (h : ¬ gF p k = -1) : gF p (k + 1) = gF p k := if_neg (fun z => h z.1)
theorem gF_b {p : Nat → Int32} {k : Nat} (h : p (k + 1) = 0) : gF p (k + 1) = gF p k := if_neg (fun z => z.2 h)
theorem gF_c {p : Nat → Int32} {k : Nat} (h : gF p k = -1) (h2 : ¬ p (k + 1) = 0) : gF p (k + 1) = nI (k + 1) := if_pos ⟨h, h2⟩
theorem gF_rng (p : Nat → Int32) : ∀ k, gF p k = -1 ∨ ∃ j, 1 ≤ j ∧ j ≤ k ∧ gF p k = nI j := by
  intro k
  induction k with
  | zero => exact Or.inl rfl
  | succ k ih =>
    simp only [gF]
    split
    · exact Or.inr ⟨k + 1, by omega, by omega, rfl⟩
    · rcases ih with h | ⟨j, h1, h2, h3⟩
      · exact Or.inl h
      · exact Or.inr ⟨j, h1, by omega, h3⟩
theorem gF_stop {p : Nat → Int32} {k : Nat} (h : ¬ gF p k = -1) : ∀ m, gF p (k + m) = gF p k := by
  intro m
  induction m with
  | zero => rfl
  | succ m ih =>
    rw [← Nat.add_assoc, gF_a (by rw [ih]; exact h), ih]
theorem mMinN_s : ∀ (k : Nat) (r : Rw), mMin (mMinN r k) = mMinN r (k + 1) := by
  intro k
  induction k with
  | zero => intro r; rfl
  | succ k ih =>
    intro r
    have e : ∀ (q : Rw) (n : Nat), mMinN q (n + 1) = mMinN (mMin q) n := fun _ _ => rfl
    rw [e r k, e r (k + 1)]
    exact ih (mMin r)
def pA (r : Rw) (i : Nat) : Nat → Int32 := fun j => mAlaI (mMinN r j) i
def pB (r : Rw) : Nat → Int32 := fun j => if mMinN r j 8 = 0 then 1 else 0
theorem mFaF_g (r : Rw) (i : Nat) : ∀ n k, k + n < 2 ^ 31 → (if gF (pA r i) k = -1 then mFaF i (mMinN r k) k n else gF (pA r i) k) = gF (pA r i) (k + n) := by
  intro n
  induction n with
  | zero =>
    intro k _
    by_cases h : gF (pA r i) k = -1
    · rw [if_pos h]; exact h.symm
    · rw [if_neg h]; rfl
  | succ n ih =>
    intro k hk
    have h9 := ih (k + 1) (by omega)
    rw [show k + (n + 1) = k + 1 + n by omega, ← h9]
    by_cases h : gF (pA r i) k = -1
    · rw [if_pos h]
      simp only [mFaF]
      rw [mMinN_s]
      by_cases q : mAlaI (mMinN r (k + 1)) i = 0
      · rw [if_neg (fun z => z q), if_pos ((gF_b (p := pA r i) q).trans h)]
      · rw [if_pos q, gF_c h q, if_neg (nI_nm1 (by omega))]
    · rw [if_neg h, gF_a h, if_neg h]
theorem mBuF_g (r : Rw) : ∀ n k, k + n < 2 ^ 31 → (if gF (pB r) k = -1 then mBuF (mMinN r k) k n else gF (pB r) k) = gF (pB r) (k + n) := by
  intro n
  induction n with
  | zero =>
    intro k _
    by_cases h : gF (pB r) k = -1
    · rw [if_pos h]; exact h.symm
    · rw [if_neg h]; rfl
  | succ n ih =>
    intro k hk
    have h9 := ih (k + 1) (by omega)
    rw [show k + (n + 1) = k + 1 + n by omega, ← h9]
    by_cases h : gF (pB r) k = -1
    · rw [if_pos h]
      simp only [mBuF]
      rw [mMinN_s]
      by_cases q : mMinN r (k + 1) 8 = 0
      · have q2 : ¬ pB r (k + 1) = 0 := by unfold pB; rw [if_pos q]; decide
        rw [if_pos q, gF_c h q2, if_neg (nI_nm1 (by omega))]
      · have q2 : pB r (k + 1) = 0 := by unfold pB; rw [if_neg q]
        rw [if_neg q, if_pos ((gF_b q2).trans h)]
    · rw [if_neg h, gF_a h, if_neg h]
theorem mFaF_0 (r : Rw) (i : Nat) {n : Nat} (hn : n < 2 ^ 31) : mFaF i r 0 n = gF (pA r i) n := by
  have h := mFaF_g r i n 0 (by omega)
  rw [if_pos (show gF (pA r i) 0 = -1 from rfl), Nat.zero_add] at h
  exact h
theorem mBuF_0 (r : Rw) {n : Nat} (hn : n < 2 ^ 31) : mBuF r 0 n = gF (pB r) n := by
  have h := mBuF_g r n 0 (by omega)
  rw [if_pos (show gF (pB r) 0 = -1 from rfl), Nat.zero_add] at h
  exact h
/-- what isThought's 'first' and 'empty' are after k minutes -/
def fA (r : Rw) (i k : Nat) : Int32 := if mAlaI r i = 0 then gF (pA r i) k else 0
def fB (r : Rw) (k : Nat) : Int32 := if r 8 = 0 then 0 else gF (pB r) k
theorem fA_1 {r : Rw} {i k : Nat} (h : ¬ fA r i k = -1) : fA r i (k + 1) = fA r i k := by
  unfold fA at h ⊢
  by_cases q : mAlaI r i = 0
  · rw [if_pos q] at h ⊢; rw [if_pos q]; exact gF_a h
  · rw [if_neg q, if_neg q]
theorem fA_2 {r : Rw} {i k : Nat} (h : ¬ mAlaI (mMinN r (k + 1)) i = 1) : fA r i (k + 1) = fA r i k := by
  have h0 : pA r i (k + 1) = 0 := (mAlaI_01 _ _).resolve_right h
  unfold fA
  rw [gF_b h0]
theorem fA_3 {r : Rw} {i k : Nat} (h : fA r i k = -1) (h2 : mAlaI (mMinN r (k + 1)) i = 1) : fA r i (k + 1) = nI (k + 1) := by
  unfold fA at h ⊢
  by_cases q : mAlaI r i = 0
  · rw [if_pos q] at h ⊢
    exact gF_c h (show ¬ mAlaI (mMinN r (k + 1)) i = 0 by rw [h2]; decide)
  · rw [if_neg q] at h
    exact absurd h (by decide)
theorem fB_1 {r : Rw} {k : Nat} (h : ¬ fB r k = -1) : fB r (k + 1) = fB r k := by
  unfold fB at h ⊢
  by_cases q : r 8 = 0
  · rw [if_pos q, if_pos q]
  · rw [if_neg q] at h ⊢; rw [if_neg q]; exact gF_a h
theorem fB_2 {r : Rw} {k : Nat} (h : ¬ mMinN r (k + 1) 8 = 0) : fB r (k + 1) = fB r k := by
  have h0 : pB r (k + 1) = 0 := by unfold pB; rw [if_neg h]
  unfold fB
  rw [gF_b h0]
theorem fB_3 {r : Rw} {k : Nat} (h : fB r k = -1) (h2 : mMinN r (k + 1) 8 = 0) : fB r (k + 1) = nI (k + 1) := by
  unfold fB at h ⊢
  by_cases q : r 8 = 0
  · rw [if_pos q] at h
    exact absurd h (by decide)
  · rw [if_neg q] at h ⊢
    exact gF_c h (by unfold pB; rw [if_pos h2]; decide)
theorem fA_N {r : Rw} {i n : Nat} (hn : n < 2 ^ 31) : fA r i n = mAIn r i n := by
  unfold fA mAIn
  rw [mFaF_0 r i hn]
theorem fB_N {r : Rw} {n : Nat} (hn : n < 2 ^ 31) : fB r n = mBFo r n := by
  unfold fB mBFo
  rw [mBuF_0 r hn]
theorem fA_z1 {r : Rw} {i : Nat} (h : mAlaI r i = 1) : (0 : Int32) = fA r i 0 := by
  unfold fA
  rw [if_neg (by rw [h]; decide)]
theorem fA_z0 {r : Rw} {i : Nat} (h : ¬ mAlaI r i = 1) : (-1 : Int32) = fA r i 0 := by
  unfold fA
  rw [if_pos ((mAlaI_01 r i).resolve_right h)]
  rfl
theorem fB_z1 {r : Rw} (h : r 8 = 0) : (0 : Int32) = fB r 0 := by
  unfold fB
  rw [if_pos h]
theorem fB_z0 {r : Rw} (h : ¬ r 8 = 0) : (-1 : Int32) = fB r 0 := by
  unfold fB
  rw [if_neg h]
  rfl
theorem gF_n0 (p : Nat → Int32) {n : Nat} (hn : n < 2 ^ 31) : ¬ gF p n = 0 := by
  rcases gF_rng p n with h | ⟨j, h1, h2, h3⟩
  · rw [h]; decide
  · rw [h3]
    intro z
    have := congrArg cN z
    rw [cN_nI (by omega)] at this
    have h0 : cN 0 = 0 := by decide
    omega
theorem an_1 {r : Rw} {i n : Nat} (h : ¬ mAIn r i n = 0) : (0 : Int32) = mAlaI r i := by
  unfold mAIn at h
  by_cases q : mAlaI r i = 0
  · exact q.symm
  · rw [if_neg q] at h; exact absurd rfl h
theorem an_0 {r : Rw} {i n : Nat} (hn : n < 2 ^ 31) (h : mAIn r i n = 0) : (1 : Int32) = mAlaI r i := by
  unfold mAIn at h
  by_cases q : mAlaI r i = 0
  · rw [if_pos q, mFaF_0 r i hn] at h
    exact absurd h (gF_n0 _ hn)
  · exact ((mAlaI_01 r i).resolve_left q).symm
theorem bn_1 {r : Rw} {n : Nat} (h : ¬ mBFo r n = 0) : (0 : Int32) = if r 8 = 0 then 1 else 0 := by
  unfold mBFo at h
  by_cases q : r 8 = 0
  · rw [if_pos q] at h; exact absurd rfl h
  · rw [if_neg q]
theorem bn_0 {r : Rw} {n : Nat} (hn : n < 2 ^ 31) (h : mBFo r n = 0) : (1 : Int32) = if r 8 = 0 then 1 else 0 := by
  unfold mBFo at h
  by_cases q : r 8 = 0
  · rw [if_pos q]
  · rw [if_neg q, mBuF_0 r hn] at h
    exact absurd h (gF_n0 _ hn)
theorem mv_c {R ns nr : Nat} : ∀ (w : Nat) {r : Rw} {ne t a : Nat}, Gd r R ns nr ne t → t + w ≤ 1000000 → r 14 = nI a → ∃ c, c ≤ w ∧ mMinN r w 14 = nI (a + c) := by
  intro w
  induction w with
  | zero => intro r ne t a G _ e; exact ⟨0, Nat.le_refl _, e⟩
  | succ w ih =>
    intro r ne t a G h e
    have h14 : ∃ d, d ≤ 1 ∧ mMin r 14 = nI (a + d) := by
      rcases mMin_14 G.1 G.2.1 (by omega) with q | q
      · exact ⟨0, by omega, q.trans e⟩
      · exact ⟨1, by omega, by rw [q, e]; exact nI_1 a⟩
    obtain ⟨d, hd, e2⟩ := h14
    obtain ⟨c, hc, e3⟩ := ih (G.min (by omega)) (by omega) e2
    exact ⟨d + c, by omega, by rw [← Nat.add_assoc]; exact e3⟩
theorem mv_le {r : Rw} {R ns nr ne t : Nat} (G : Gd r R ns nr ne t) (w : Nat) (h : t + w ≤ 1000000) : ¬ nI w < mMinN r w 14 - r 14 := by
  obtain ⟨a, ea, ha⟩ := G.2.2.2.1
  obtain ⟨c, hc, e⟩ := mv_c w G h ea
  rw [e, ea, pk_sub (by omega), Nat.add_sub_cancel_left]
  exact nI_nlt hc (by omega)
