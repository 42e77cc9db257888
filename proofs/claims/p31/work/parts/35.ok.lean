/-! WHAT HOLDS OF THE ROW BEHIND EACH CALL -/
def Ok (r : Rw) (T : Nat) : Prop := ∃ R ns nr ne t, Inv r R ns nr ne t (t + 1) ∧ Sk r ∧ t ≤ T
theorem Ok.mono {r : Rw} {T T' : Nat} (h : Ok r T) (hT : T ≤ T') : Ok r T' := by
  obtain ⟨R, ns, nr, ne, t, I, hs, ht⟩ := h
  exact ⟨R, ns, nr, ne, t, I, hs, Nat.le_trans ht hT⟩
theorem Ok.jam {r : Rw} {T : Nat} (h : Ok r T) : r 3 = 0 ∨ r 3 = 1 := by
  obtain ⟨R, ns, nr, ne, t, I, hs, ht⟩ := h
  exact I.jam
theorem Sk.like {r q : Rw} (h : Sk r) (e : ∀ i, i < 4 → q (20 + i) = r (20 + i)) : Sk q := fun i hi => by rw [e i hi]; exact h i hi
theorem EvOk.more {r : Rw} {R ns ns' tl k : Nat} (h : EvOk r R ns tl k) (hn : ns ≤ ns') : EvOk r R ns' tl k := by
  obtain ⟨h0, h1, h2, h3, h4⟩ := h
  refine ⟨h0, h1, h2, h3, fun z => ?_⟩
  obtain ⟨a, ha, e⟩ := h4 z
  exact ⟨a, by omega, e⟩
theorem EvOk.same {r q : Rw} {R ns tl k k' : Nat} (h : EvOk r R ns tl k) (e : ∀ w, w < 4 → q (145 + 4 * k' + w) = r (145 + 4 * k + w)) : EvOk q R ns tl k' := by
  unfold EvOk
  rw [e 0 (by decide), e 1 (by decide), e 2 (by decide), e 3 (by decide)]
  exact h
theorem Inv.ase {r : Rw} {R ns nr ne t tl : Nat} (I : Inv r R ns nr ne t tl) (h8 : ns < 8) {a b c d e : Int32} (ha : ∃ p, p < R ∧ a = nI p) : Inv (mASe r ns a b c d e) R (ns + 1) nr ne t tl := by
  obtain ⟨⟨⟨a1, a2, a3⟩, ⟨a4, a5⟩, ⟨a6, a7⟩, ⟨a8, a9⟩, ⟨a10, a11⟩⟩, b1, b2, b3, b4, ⟨c0, c2, c3, c4, c5, c8, c9⟩, d1, d2⟩ := I
  have u : ∀ i, ¬ i = 10 → ¬ (57 + 7 * ns ≤ i ∧ i < 57 + 7 * ns + 7) → mASe r ns a b c d e i = r i := fun i h1 h2 => mASe_ne h1 h2
  refine ⟨⟨⟨by rw [u 6 (by omega) (by omega)]; exact a1, a2, a3⟩, ⟨by unfold mASe; rw [upd_eq], by omega⟩, ⟨by rw [u 11 (by omega) (by omega)]; exact a6, a7⟩, ⟨by rw [u 12 (by omega) (by omega)]; exact a8, a9⟩, ⟨by rw [u 7 (by omega) (by omega)]; exact a10, a11⟩⟩, fun k hk => ?_, fun k hk => ?_, fun k hk => ?_, fun k hk => ?_, ⟨?_, ?_, ?_, ?_, ?_, ?_, ?_⟩, fun i hi => ⟨?_, ?_, ?_⟩, fun k hk => ?_⟩
  · by_cases z : k = ns
    · subst z
      have e0 : mASe r k a b c d e (57 + 7 * k + 0) = a := by
        unfold mASe
        rw [upd_ne (by omega), upd_ne (by omega), upd_ne (by omega), upd_ne (by omega), upd_ne (by omega), upd_ne (by omega), upd_ne (by omega), upd_eq]
      rw [e0]
      exact ha
    · rw [u _ (by omega) (by omega)]; exact b1 k (by omega)
  · rw [u _ (by omega) (by omega)]; exact b2 k hk
  · exact ((b3 k hk).more (Nat.le_succ ns)).same (fun w hw => u _ (by omega) (by omega))
  · rw [u _ (by omega) (by omega), u _ (by omega) (by omega)]; exact b4 k hk
  · rw [u 0 (by omega) (by omega)]; exact c0
  · rw [u 2 (by omega) (by omega)]; exact c2
  · rw [u 3 (by omega) (by omega)]; exact c3
  · rw [u 4 (by omega) (by omega)]; exact c4
  · rw [u 5 (by omega) (by omega)]; exact c5
  · rw [u 8 (by omega) (by omega)]; exact c8
  · rw [u 9 (by omega) (by omega)]; exact c9
  · rw [u _ (by omega) (by omega)]; exact (d1 i hi).1
  · rw [u _ (by omega) (by omega)]; exact (d1 i hi).2.1
  · rw [u _ (by omega) (by omega)]; exact (d1 i hi).2.2
  · rw [u _ (by omega) (by omega)]; exact d2 k hk
theorem Inv.aru {r : Rw} {R ns nr ne t tl : Nat} (I : Inv r R ns nr ne t tl) (h8 : nr < 8) {a b c d : Int32} (hb : ∃ p, p < R ∧ b = nI p) (hd : 0 ≤ d ∧ d ≤ 8) : Inv (mARu r nr a b c d) R ns (nr + 1) ne t tl := by
  obtain ⟨⟨⟨a1, a2, a3⟩, ⟨a4, a5⟩, ⟨a6, a7⟩, ⟨a8, a9⟩, ⟨a10, a11⟩⟩, b1, b2, b3, b4, ⟨c0, c2, c3, c4, c5, c8, c9⟩, d1, d2⟩ := I
  have u : ∀ i, ¬ i = 11 → ¬ (113 + 4 * nr ≤ i ∧ i < 113 + 4 * nr + 4) → mARu r nr a b c d i = r i := fun i h1 h2 => mARu_ne h1 h2
  refine ⟨⟨⟨by rw [u 6 (by omega) (by omega)]; exact a1, a2, a3⟩, ⟨by rw [u 10 (by omega) (by omega)]; exact a4, a5⟩, ⟨by unfold mARu; rw [upd_eq], by omega⟩, ⟨by rw [u 12 (by omega) (by omega)]; exact a8, a9⟩, ⟨by rw [u 7 (by omega) (by omega)]; exact a10, a11⟩⟩, fun k hk => ?_, fun k hk => ?_, fun k hk => ?_, fun k hk => ?_, ⟨?_, ?_, ?_, ?_, ?_, ?_, ?_⟩, fun i hi => ⟨?_, ?_, ?_⟩, fun k hk => ?_⟩
  · rw [u _ (by omega) (by omega)]; exact b1 k hk
  · by_cases z : k = nr
    · subst z
      have e0 : mARu r k a b c d (113 + 4 * k + 1) = b := by
        unfold mARu
        rw [upd_ne (by omega), upd_ne (by omega), upd_ne (by omega), upd_eq]
      rw [e0]
      exact hb
    · rw [u _ (by omega) (by omega)]; exact b2 k (by omega)
  · exact (b3 k hk).same (fun w hw => u _ (by omega) (by omega))
  · rw [u _ (by omega) (by omega), u _ (by omega) (by omega)]; exact b4 k hk
  · rw [u 0 (by omega) (by omega)]; exact c0
  · rw [u 2 (by omega) (by omega)]; exact c2
  · rw [u 3 (by omega) (by omega)]; exact c3
  · rw [u 4 (by omega) (by omega)]; exact c4
  · rw [u 5 (by omega) (by omega)]; exact c5
  · rw [u 8 (by omega) (by omega)]; exact c8
  · rw [u 9 (by omega) (by omega)]; exact c9
  · rw [u _ (by omega) (by omega)]; exact (d1 i hi).1
  · rw [u _ (by omega) (by omega)]; exact (d1 i hi).2.1
  · rw [u _ (by omega) (by omega)]; exact (d1 i hi).2.2
  · by_cases z : k = nr
    · subst z
      have e0 : mARu r k a b c d (113 + 4 * k + 3) = d := by
        unfold mARu
        rw [upd_ne (by omega), upd_eq]
      rw [e0]
      exact hd
    · rw [u _ (by omega) (by omega)]; exact d2 k (by omega)
theorem mDro_lo {r : Rw} {a n j : Nat} (h11 : ¬ j = 11) (h : j < 113 + 4 * a ∨ 113 + 4 * (n - 1) ≤ j) : mDro r a n j = r j := by
  unfold mDro
  rw [upd_ne h11]
  simp only [mDrR]
  rw [if_neg (by omega)]
theorem mDro_hi {r : Rw} {a n j : Nat} (h : 113 + 4 * a ≤ j ∧ j < 113 + 4 * (n - 1)) : mDro r a n j = r (j + 4) := by
  unfold mDro
  rw [upd_ne (by omega)]
  simp only [mDrR]
  rw [if_pos h]
theorem Inv.dro {r : Rw} {R ns nr ne t tl : Nat} (I : Inv r R ns nr ne t tl) {a : Nat} (ha : a < nr) : Inv (mDro r a nr) R ns (nr - 1) ne t tl := by
  obtain ⟨⟨⟨a1, a2, a3⟩, ⟨a4, a5⟩, ⟨a6, a7⟩, ⟨a8, a9⟩, ⟨a10, a11⟩⟩, b1, b2, b3, b4, ⟨c0, c2, c3, c4, c5, c8, c9⟩, d1, d2⟩ := I
  have u : ∀ i, ¬ i = 11 → (i < 113 ∨ 145 ≤ i) → mDro r a nr i = r i := fun i h1 h2 => mDro_lo h1 (by omega)
  have w : ∀ k q, k < nr - 1 → q < 4 → ∃ k', k' < nr ∧ mDro r a nr (113 + 4 * k + q) = r (113 + 4 * k' + q) := by
    intro k q hk hq
    by_cases z : k < a
    · exact ⟨k, by omega, mDro_lo (by omega) (by omega)⟩
    · refine ⟨k + 1, by omega, ?_⟩
      rw [mDro_hi (by omega)]
      congr 1
      omega
  refine ⟨⟨⟨by rw [u 6 (by omega) (by omega)]; exact a1, a2, a3⟩, ⟨by rw [u 10 (by omega) (by omega)]; exact a4, a5⟩, ⟨by unfold mDro; rw [upd_eq], by omega⟩, ⟨by rw [u 12 (by omega) (by omega)]; exact a8, a9⟩, ⟨by rw [u 7 (by omega) (by omega)]; exact a10, a11⟩⟩, fun k hk => ?_, fun k hk => ?_, fun k hk => ?_, fun k hk => ?_, ⟨?_, ?_, ?_, ?_, ?_, ?_, ?_⟩, fun i hi => ⟨?_, ?_, ?_⟩, fun k hk => ?_⟩
  · rw [u _ (by omega) (by omega)]; exact b1 k hk
  · obtain ⟨k', hk', e⟩ := w k 1 hk (by decide)
    rw [e]
    exact b2 k' hk'
  · exact (b3 k hk).same (fun w hw => u _ (by omega) (by omega))
  · rw [u _ (by omega) (by omega), u _ (by omega) (by omega)]; exact b4 k hk
  · rw [u 0 (by omega) (by omega)]; exact c0
  · rw [u 2 (by omega) (by omega)]; exact c2
  · rw [u 3 (by omega) (by omega)]; exact c3
  · rw [u 4 (by omega) (by omega)]; exact c4
  · rw [u 5 (by omega) (by omega)]; exact c5
  · rw [u 8 (by omega) (by omega)]; exact c8
  · rw [u 9 (by omega) (by omega)]; exact c9
  · rw [u _ (by omega) (by omega)]; exact (d1 i hi).1
  · rw [u _ (by omega) (by omega)]; exact (d1 i hi).2.1
  · rw [u _ (by omega) (by omega)]; exact (d1 i hi).2.2
  · obtain ⟨k', hk', e⟩ := w k 3 hk (by decide)
    rw [e]
    exact d2 k' hk'
theorem mPlF_lo (r : Rw) (m : Int32) : ∀ n p, mPlF r m n = p + 1 → ¬ m < r (145 + 4 * p + 0) := by
  intro n
  induction n with
  | zero => intro p h; simp only [mPlF] at h; omega
  | succ n ih =>
    intro p h
    simp only [mPlF] at h
    by_cases z : m < r (145 + 4 * n + 0)
    · rw [if_pos z] at h; exact ih p h
    · rw [if_neg z] at h
      have : n = p := by omega
      rw [← this]
      exact z
theorem mPlF_hi (r : Rw) (m : Int32) : ∀ n i, mPlF r m n ≤ i → i < n → m < r (145 + 4 * i + 0) := by
  intro n
  induction n with
  | zero => intro i _ h; omega
  | succ n ih =>
    intro i h hi
    simp only [mPlF] at h
    by_cases z : m < r (145 + 4 * n + 0)
    · rw [if_pos z] at h
      by_cases e : i = n
      · rw [e]; exact z
      · exact ih i h (by omega)
    · rw [if_neg z] at h; omega
theorem mIns_out {r : Rw} {p n : Nat} {m k a b : Int32} {j : Nat} (hp : p ≤ n) (h12 : ¬ j = 12) (h : j < 145) : mIns r p n m k a b j = r j := mIns_lo h12 (by omega)
theorem Inv.ins {r : Rw} {R ns nr ne t tl : Nat} (I : Inv r R ns nr ne t tl) (h20 : ne < 20) {m kd a b : Int32} (hm : ∃ mm, m = nI mm ∧ tl ≤ mm ∧ mm ≤ 2000000) (he : ¬ mEvtI r kd a b = 0) : Inv (mIns r (mPlF r m ne) ne m kd a b) R ns nr (ne + 1) t tl := by
  have I0 := I
  obtain ⟨⟨⟨a1, a2, a3⟩, ⟨a4, a5⟩, ⟨a6, a7⟩, ⟨a8, a9⟩, ⟨a10, a11⟩⟩, b1, b2, b3, b4, ⟨c0, c2, c3, c4, c5, c8, c9⟩, d1, d2⟩ := I
  have hple := mPlF_le r m ne
  obtain ⟨p, hp⟩ : ∃ p, p = mPlF r m ne := ⟨_, rfl⟩
  rw [← hp] at hple ⊢
  have u : ∀ i, ¬ i = 12 → i < 145 → mIns r p ne m kd a b i = r i := fun i h1 h2 => mIns_out hple h1 h2
  have lo : ∀ k w, k < p → w < 4 → mIns r p ne m kd a b (145 + 4 * k + w) = r (145 + 4 * k + w) := fun k w hk hw => mIns_lo (by omega) (by omega)
  have hi : ∀ k w, p < k → k < ne + 1 → w < 4 → mIns r p ne m kd a b (145 + 4 * k + w) = r (145 + 4 * (k - 1) + w) := by
    intro k w hk hk2 hw
    rw [mIns_hi (by omega) (by omega)]
    congr 1
    omega
  obtain ⟨g0, g1, g2, g3⟩ := mIns_at (r := r) (p := p) (n := ne) (m := m) (k := kd) (a := a) (b := b)
  refine ⟨⟨⟨by rw [u 6 (by omega) (by omega)]; exact a1, a2, a3⟩, ⟨by rw [u 10 (by omega) (by omega)]; exact a4, a5⟩, ⟨by rw [u 11 (by omega) (by omega)]; exact a6, a7⟩, ⟨mIns_12, by omega⟩, ⟨by rw [u 7 (by omega) (by omega)]; exact a10, a11⟩⟩, fun k hk => ?_, fun k hk => ?_, fun k hk => ?_, fun k hk => ?_, ⟨?_, ?_, ?_, ?_, ?_, ?_, ?_⟩, fun i hi => ⟨?_, ?_, ?_⟩, fun k hk => ?_⟩
  · rw [u _ (by omega) (by omega)]; exact b1 k hk
  · rw [u _ (by omega) (by omega)]; exact b2 k hk
  · rcases Nat.lt_trichotomy k p with z | z | z
    · exact (b3 k (by omega)).same (fun w hw => lo k w z hw)
    · subst z
      unfold EvOk
      rw [g0, g1, g2, g3]
      unfold mEvtI at he
      refine ⟨hm, fun z => ?_, fun z => ?_, fun z => ?_, fun z => ?_⟩
      · rw [if_pos z] at he
        have he := gd1_t he
        rw [a1] at he
        obtain ⟨x, hx, ex⟩ := in_of (n := R) (by omega) he.1
        obtain ⟨y, hy, ey⟩ := rng (m := R) (by omega) he.2.1.1 he.2.1.2
        exact ⟨x, y, hx, hy, fun q => he.2.2 (by rw [ex, ey, q]), ex, ey⟩
      · rw [z, if_neg (by decide), if_pos rfl] at he
        exact (gd1_t he).1
      · rw [z, if_neg (by decide), if_neg (by decide), if_pos rfl] at he
        exact (gd1_t he).1
      · rw [z, if_neg (by decide), if_neg (by decide), if_neg (by decide), if_pos rfl] at he
        have he := gd1_t he
        rw [a4] at he
        exact in_of (n := ns) (by omega) he.1
    · exact (b3 (k - 1) (by omega)).same (fun w hw => hi k w z hk hw)
  · rcases Nat.lt_trichotomy (k + 1) p with z | z | z
    · rw [lo k 0 (by omega) (by decide), lo (k + 1) 0 z (by decide)]; exact b4 k (by omega)
    · rw [lo k 0 (by omega) (by decide), z, g0]
      exact Int32.not_lt.mp (mPlF_lo r m ne k (by omega))
    · by_cases q : k = p
      · rw [q, g0, hi (p + 1) 0 (by omega) (by omega) (by decide), Nat.add_sub_cancel]
        exact Int32.le_of_lt (mPlF_hi r m ne p (by omega) (by omega))
      · rw [hi k 0 (by omega) (by omega) (by decide), hi (k + 1) 0 (by omega) hk (by decide), show k + 1 - 1 = k - 1 + 1 by omega]
        exact b4 (k - 1) (by omega)
  · rw [u 0 (by omega) (by omega)]; exact c0
  · rw [u 2 (by omega) (by omega)]; exact c2
  · rw [u 3 (by omega) (by omega)]; exact c3
  · rw [u 4 (by omega) (by omega)]; exact c4
  · rw [u 5 (by omega) (by omega)]; exact c5
  · rw [u 8 (by omega) (by omega)]; exact c8
  · rw [u 9 (by omega) (by omega)]; exact c9
  · rw [u _ (by omega) (by omega)]; exact (d1 i hi).1
  · rw [u _ (by omega) (by omega)]; exact (d1 i hi).2.1
  · rw [u _ (by omega) (by omega)]; exact (d1 i hi).2.2
  · rw [u _ (by omega) (by omega)]; exact d2 k hk
theorem mBeg_at (w : Int32) {j : Nat} (h : ¬ j = 6 ∧ ¬ j = 1 ∧ ¬ j = 2 ∧ ¬ j = 4 ∧ ¬ j = 9) : mBeg w j = 0 := by
  unfold mBeg
  rw [if_neg h.1, if_neg h.2.1, if_neg h.2.2.1, if_neg h.2.2.2.1, if_neg h.2.2.2.2]
theorem Inv.beg {w : Nat} (h1 : 1 ≤ w) (h4 : w ≤ 4) : Inv (mBeg (nI w)) w 0 0 0 0 1 := by
  have z : ∀ j, (¬ j = 6 ∧ ¬ j = 1 ∧ ¬ j = 2 ∧ ¬ j = 4 ∧ ¬ j = 9) → mBeg (nI w) j = 0 := fun j h => mBeg_at _ h
  have e2 : mBeg (nI w) 2 = 3 := rfl
  have e4 : mBeg (nI w) 4 = 8 := rfl
  have e9 : mBeg (nI w) 9 = 8 := rfl
  refine ⟨⟨⟨rfl, h1, h4⟩, ⟨rfl, by omega⟩, ⟨rfl, by omega⟩, ⟨rfl, by omega⟩, ⟨rfl, by omega⟩⟩, fun k hk => absurd hk (Nat.not_lt_zero k), fun k hk => absurd hk (Nat.not_lt_zero k), fun k hk => absurd hk (Nat.not_lt_zero k), fun k hk => absurd hk (Nat.not_lt_zero _), ⟨?_, ?_, ?_, ?_, ?_, ?_, ?_⟩, fun i hi => ⟨?_, ?_, ?_⟩, fun k hk => absurd hk (Nat.not_lt_zero k)⟩
  · rw [z 0 (by decide)]; decide
  · rw [e2]; decide
  · rw [z 3 (by decide)]; decide
  · rw [e4]; decide
  · rw [z 5 (by decide)]; decide
  · rw [z 8 (by decide)]; decide
  · rw [e9]; decide
  · rw [z (20 + i) (by omega)]; decide
  · rw [z (24 + i) (by omega)]; decide
  · rw [z (28 + i) (by omega)]; decide
theorem Sk.beg (w : Int32) : Sk (mBeg w) := fun i hi => by rw [mBeg_at w (by omega)]; decide
theorem Inv.minN {R ns nr : Nat} : ∀ (n : Nat) (r : Rw) (ne t : Nat), Inv r R ns nr ne t (t + 1) → Sk r → t + n ≤ 1000000 → ∃ ne', Inv (mMinN r n) R ns nr ne' (t + n) (t + n + 1) ∧ Sk (mMinN r n) := by
  intro n
  induction n with
  | zero => intro r ne t I hs _; exact ⟨ne, I, hs⟩
  | succ n ih =>
    intro r ne t I hs ht
    obtain ⟨e, h1, h2⟩ := ih (mMin r) _ (t + 1) (I.min hs (by omega)) (Sk.min I hs (by omega)) (by omega)
    refine ⟨e, ?_, h2⟩
    rw [show t + (n + 1) = t + 1 + n by omega]
    exact h1
theorem ok_begin {r : Rw} {R ns nr ne t : Nat} (I : Inv r R ns nr ne t (t + 1)) (hs : Sk r) (ht : t + 200 ≤ 1000000) (u : Int32) (h : kW u 1 4 = 0) : Ok (mBeg u) (t + 60) := by
  obtain ⟨w, h1, h2, rfl⟩ := with1 4 (by decide) rfl (kW_0 h)
  exact ⟨w, 0, 0, 0, 0, Inv.beg h1 h2, Sk.beg _, Nat.zero_le _⟩
theorem ok_setDoor {r : Rw} {R ns nr ne t : Nat} (I : Inv r R ns nr ne t (t + 1)) (hs : Sk r) (ht : t + 200 ≤ 1000000) (u v o : Int32) (h : kDoor r u v = 0) : Ok (mSets r (cN u) (cN v) o) (t + 60) := by
  obtain ⟨h7, hne⟩ := kDoor_0 h
  have h4 := I.1.1.2.2
  obtain ⟨a, ha, rfl⟩ := plac_of I (fun z => h7 (Or.inl z))
  obtain ⟨b, hb, rfl⟩ := plac_of I (fun z => h7 (Or.inr z))
  rw [cN_nI (n := a) (by omega), cN_nI (n := b) (by omega)]
  have e : ∀ j, (j < 32 ∨ 57 ≤ j) → mSets r a b o j = r j := fun j hj => by
    unfold mSets
    rw [upd_ne (by omega), upd_ne (by omega)]
  exact ⟨R, ns, nr, ne, t, I.like (fun j hj => e j (by omega)), hs.like (fun i hi => e _ (by omega)), by omega⟩
theorem ok_addFuel {r : Rw} {R ns nr ne t : Nat} (I : Inv r R ns nr ne t (t + 1)) (hs : Sk r) (ht : t + 200 ≤ 1000000) (u : Int32) (h : kW u 1 200 = 0) : Ok (upd r 8 (if 200 < r 8 + u then 200 else r 8 + u)) (t + 60) := by
  obtain ⟨w, h1, h2, rfl⟩ := with1 200 (by decide) rfl (kW_0 h)
  obtain ⟨f, hf, ef⟩ := rng (m := 200) (by decide) I.2.2.2.2.2.1.2.2.2.2.2.1.1 I.2.2.2.2.2.1.2.2.2.2.2.1.2
  have hv : (0 : Int32) ≤ (if 200 < r 8 + nI w then 200 else r 8 + nI w) ∧ (if 200 < r 8 + nI w then 200 else r 8 + nI w) ≤ (200 : Int32) := by
    split
    · exact ⟨by decide, by decide⟩
    · rename_i z
      refine ⟨?_, Int32.not_lt.mp z⟩
      rw [ef, nI_add]
      exact nI_pos' (by omega)
  exact ⟨R, ns, nr, ne, t, I.set1 8 _ (by omega) (by omega) (by omega) (by omega) (by omega) (by omega) (fun _ => hv) (by omega) (by omega) (by omega) (by omega), hs.like (fun i hi => upd_ne (by omega)), by omega⟩
theorem ok_setTarget {r : Rw} {R ns nr ne t : Nat} (I : Inv r R ns nr ne t (t + 1)) (hs : Sk r) (ht : t + 200 ≤ 1000000) (u : Int32) (h : kW u 0 8 = 0) : Ok (upd r 9 u) (t + 60) :=
  ⟨R, ns, nr, ne, t, I.set1 9 _ (by omega) (by omega) (by omega) (by omega) (by omega) (by omega) (by omega) (fun _ => mWithI_ne.mp (kW_0 h)) (by omega) (by omega) (by omega), hs.like (fun i hi => upd_ne (by omega)), by omega⟩
theorem ok_set {r : Rw} {R ns nr ne t : Nat} (I : Inv r R ns nr ne t (t + 1)) (hs : Sk r) (ht : t + 200 ≤ 1000000) (u v : Int32) (h : kSet u v = 0) : Ok (upd r (cN u) v) (t + 60) := by
  have h0 := kSet_0 h
  obtain ⟨w, hw, rfl⟩ := with0 5 (by decide) (u := u) rfl (fun z => h0 (can_out v z))
  rw [can_in w (by omega)] at h0
  rw [cN_nI (n := w) (by omega)]
  exact ⟨R, ns, nr, ne, t, I.set1 w v (by omega) (fun e => by subst e; exact mWithI_ne.mp h0) (fun e => by subst e; exact mWithI_ne.mp h0) (fun e => can_j (w := w) (by omega) h0 e) (fun e => by subst e; exact mWithI_ne.mp h0) (fun e => by subst e; exact mWithI_ne.mp h0) (by omega) (by omega) (by omega) (by omega) (by omega), hs.like (fun i hi => upd_ne (by omega)), by omega⟩
theorem ok_setSmoke {r : Rw} {R ns nr ne t : Nat} (I : Inv r R ns nr ne t (t + 1)) (hs : Sk r) (ht : t + 200 ≤ 1000000) (u v : Int32) (h : kRW r u v 0 99999 = 0) : Ok (upd r (20 + cN u) v) (t + 60) := by
  have h4 := I.1.1.2.2
  obtain ⟨i, hi, rfl⟩ := room_of I (kRW_0 h).1
  have hv := mWithI_ne.mp (kRW_0 h).2
  rw [cN_nI (n := i) (by omega)]
  refine ⟨R, ns, nr, ne, t, I.set1 (20 + i) v (by omega) (by omega) (by omega) (by omega) (by omega) (by omega) (by omega) (by omega) (fun _ _ => ⟨hv.1, Int32.le_trans hv.2 (by decide)⟩) (by omega) (by omega), fun j hj => ?_, by omega⟩
  by_cases e : j = i
  · rw [e, upd_eq]; exact hv.2
  · rw [upd_ne (by omega)]; exact hs j hj
theorem ok_mute {r : Rw} {R ns nr ne t : Nat} (I : Inv r R ns nr ne t (t + 1)) (hs : Sk r) (ht : t + 200 ≤ 1000000) (u v : Int32) (h : kRW r u v 0 60 = 0) : Ok (upd r (28 + cN u) v) (t + 60) := by
  have h4 := I.1.1.2.2
  obtain ⟨i, hi, rfl⟩ := room_of I (kRW_0 h).1
  have hv := mWithI_ne.mp (kRW_0 h).2
  rw [cN_nI (n := i) (by omega)]
  exact ⟨R, ns, nr, ne, t, I.set1 (28 + i) v (by omega) (by omega) (by omega) (by omega) (by omega) (by omega) (by omega) (by omega) (by omega) (by omega) (fun _ _ => hv), hs.like (fun j hj => upd_ne (by omega)), by omega⟩
theorem ok_setFault {r : Rw} {R ns nr ne t : Nat} (I : Inv r R ns nr ne t (t + 1)) (hs : Sk r) (ht : t + 200 ≤ 1000000) (u v : Int32) (h : kSW r u v 0 2 = 0) : Ok (upd r (57 + 7 * cN u + 5) v) (t + 60) := by
  have h8 := I.1.2.1.2
  obtain ⟨i, hi, rfl⟩ := sens_of I (kSW_0 h).1
  rw [cN_nI (n := i) (by omega)]
  exact ⟨R, ns, nr, ne, t, I.dead hi v, hs.dead i v, by omega⟩
theorem ok_addSensor {r : Rw} {R ns nr ne t : Nat} (I : Inv r R ns nr ne t (t + 1)) (hs : Sk r) (ht : t + 200 ≤ 1000000) (a b c d e : Int32) (h : kASe r a b c d e = 0) : Ok (mASe r ns a b c d e) (t + 60) := by
  have h8 : ns < 8 := Nat.lt_of_le_of_ne I.1.2.1.2 (fun z => (kASe_0 h).2.2 (by rw [I.1.2.1.1, z]; rfl))
  exact ⟨R, ns + 1, nr, ne, t, I.ase h8 (room_of I (kASe_0 h).1), hs.like (fun i hi => mASe_ne (by omega) (by omega)), by omega⟩
theorem ok_addRule {r : Rw} {R ns nr ne t : Nat} (I : Inv r R ns nr ne t (t + 1)) (hs : Sk r) (ht : t + 200 ≤ 1000000) (k a b c : Int32) (h : kARu r k a b c = 0) : Ok (mARu r nr k a b c) (t + 60) := by
  have h8 : nr < 8 := Nat.lt_of_le_of_ne I.1.2.2.1.2 (fun z => (kARu_0 h).2.2 (by rw [I.1.2.2.1.1, z]; rfl))
  exact ⟨R, ns, nr + 1, ne, t, I.aru h8 (room_of I (kARu_0 h).1) (w8 (fun z => (kARu_0 h).2.1 (Or.inr (Or.inr z)))), hs.like (fun i hi => mARu_ne (by omega) (by omega)), by omega⟩
theorem ok_removeRule {r : Rw} {R ns nr ne t : Nat} (I : Inv r R ns nr ne t (t + 1)) (hs : Sk r) (ht : t + 200 ≤ 1000000) (u : Int32) (h : kRem r u = 0) : Ok (mDro r (cN u) nr) (t + 60) := by
  have h8 := I.1.2.2.1.2
  have h0 := kRem_0 h
  rw [I.1.2.2.1.1] at h0
  obtain ⟨a, ha, rfl⟩ := in_of (n := nr) (by omega) h0
  rw [cN_nI (n := a) (by omega)]
  exact ⟨R, ns, nr - 1, ne, t, I.dro ha, hs.like (fun i hi => mDro_lo (by omega) (by omega)), by omega⟩
theorem ok_addEvent {r : Rw} {R ns nr ne t : Nat} (I : Inv r R ns nr ne t (t + 1)) (hs : Sk r) (ht : t + 200 ≤ 1000000) (m k a b : Int32) (h : kAEv r m k a b = 0) : Ok (mIns r (mPlF r m ne) ne m k a b) (t + 60) := by
  have h20 : ne < 20 := Nat.lt_of_le_of_ne I.1.2.2.2.1.2 (fun z => (kAEv_0 h).2 (by rw [I.1.2.2.2.1.1, z]; rfl))
  have ht := I.1.2.2.2.2.2
  have hw := mWithI_ne.mp (fun z => (kAEv_0 h).1 (Or.inl z))
  rw [I.1.2.2.2.2.1] at hw
  have e1 : nI t + 1 = nI (t + 1) := nI_1 t
  have e9 : nI t + 999 = nI (t + 999) := nI_add t 999
  rw [e1, e9] at hw
  obtain ⟨mm, hm, rfl⟩ := rng (m := t + 999) (by omega) (Int32.le_trans (nI_pos' (by omega)) hw.1) hw.2
  exact ⟨R, ns, nr, ne + 1, t, I.ins h20 ⟨mm, rfl, (nI_leI (by omega) (by omega)).mp hw.1, by omega⟩ (fun z => (kAEv_0 h).1 (Or.inr z)), hs.like (fun i hi => mIns_out (mPlF_le r _ ne) (by omega) (by omega)), by omega⟩
theorem ok_pass {r : Rw} {R ns nr ne t : Nat} (I : Inv r R ns nr ne t (t + 1)) (hs : Sk r) (ht : t + 200 ≤ 1000000) (u : Int32) (h : kW u 1 60 = 0) : Ok (mMinN r (cN u)) (t + 60) := by
  obtain ⟨w, h1, h2, rfl⟩ := with1 60 (by decide) rfl (kW_0 h)
  rw [cN_nI (n := w) (by omega)]
  obtain ⟨e, J, hs2⟩ := Inv.minN w r ne t I hs (by omega)
  exact ⟨R, ns, nr, e, t + w, J, hs2, by omega⟩
