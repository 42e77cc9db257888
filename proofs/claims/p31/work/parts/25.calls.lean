/-! WHAT THE CALLS MAKE OF THE ROW -/
def okR (r : Rw) (R ns nr ne t : Nat) : Prop := Inv r R ns nr ne t (t + 1) ∧ Sk r
theorem Rel.of {σ σ1 : xS} {B : Nat} {r r1 : Rw} (h : Rel σ B r) (hd : σ1 (B + 1) 2 = σ (B + 1) 2) (hr : ∀ j, 32 ≤ j → j < 57 → r1 j = r j) (hl : ∀ j, lvP r1 j → (lvP r j ∧ r1 j = r j ∧ σ1 (B + (pl j).1) (pl j).2 = σ (B + (pl j).1) (pl j).2) ∨ σ1 (B + (pl j).1) (pl j).2 = r1 j) : Rel σ1 B r1 := by
  refine ⟨fun j hj => ?_, fun a b ha hb hab => ?_⟩
  · rcases hl j hj with ⟨h1, h2, h3⟩ | h1
    · rw [h3, h2]
      exact h.1 j h1
    · exact h1
  · rw [hd, hr _ (by omega) (by omega)]
    exact h.2 a b ha hb hab
theorem pl_sen : ∀ j, j < 113 → 57 ≤ j → 6 ≤ (pl j).1 ∧ (pl j).1 ≤ 12 := by decide +kernel
theorem pl_rul : ∀ j, j < 145 → 113 ≤ j → 17 ≤ (pl j).1 ∧ (pl j).1 ≤ 20 := by decide +kernel
theorem pl_evt : ∀ j, j < 225 → 145 ≤ j → 22 ≤ (pl j).1 ∧ (pl j).1 ≤ 25 := by decide +kernel
theorem pl_n5 : ∀ j, j < 32 → j ≠ 10 → j ≠ 19 → ¬ (5 ≤ (pl j).1 ∧ (pl j).1 ≤ 12) := by decide +kernel
theorem pl_n16 : ∀ j, j < 32 → j ≠ 11 → j ≠ 19 → ¬ (16 ≤ (pl j).1 ∧ (pl j).1 ≤ 20) := by decide +kernel
theorem pl_n21 : ∀ j, j < 32 → j ≠ 12 → j ≠ 19 → ¬ (21 ≤ (pl j).1 ∧ (pl j).1 ≤ 25) := by decide +kernel
def mARu (r : Rw) (n : Nat) (a b c d : Int32) : Rw := upd (upd (upd (upd (upd r (113 + 4 * n + 0) a) (113 + 4 * n + 1) b) (113 + 4 * n + 2) c) (113 + 4 * n + 3) d) 11 (nI (n + 1))
theorem mARu_ne {r : Rw} {n : Nat} {a b c d : Int32} {j : Nat} (h11 : ¬ j = 11) (h : ¬ (113 + 4 * n ≤ j ∧ j < 113 + 4 * n + 4)) : mARu r n a b c d j = r j := by
  unfold mARu
  rw [upd_ne h11, upd_ne (by omega), upd_ne (by omega), upd_ne (by omega), upd_ne (by omega)]
theorem Rel.aru {σ σ1 : xS} {B : Nat} {r : Rw} (h : Rel σ B r) {n : Nat} (hn : n < 8) (e11 : r 11 = nI n) {a b c d : Int32} (hF : Fr (fun q => B + 16 ≤ q ∧ q ≤ B + 20) σ σ1) (hc : σ1 (B + 16) 0 = nI (n + 1))
    (h0 : σ1 (B + 17) = upd (σ (B + 17)) n a) (h1 : σ1 (B + 18) = upd (σ (B + 18)) n b) (h2 : σ1 (B + 19) = upd (σ (B + 19)) n c) (h3 : σ1 (B + 20) = upd (σ (B + 20)) n d) : Rel σ1 B (mARu r n a b c d) := by
  have e10 : mARu r n a b c d 10 = r 10 := mARu_ne (by decide) (by omega)
  have e12 : mARu r n a b c d 12 = r 12 := mARu_ne (by decide) (by omega)
  have e11' : mARu r n a b c d 11 = nI (n + 1) := by unfold mARu; rw [upd_eq]
  refine h.of (by rw [hF (B + 1) (by omega)]) (fun j h1 h2 => mARu_ne (by omega) (by omega)) (fun j hj => ?_)
  have hlt := lv_lt5 hj
  have out : ∀ q, (q < 16 ∨ 20 < q) → σ1 (B + q) = σ (B + q) := fun q hq => hF _ (by omega)
  unfold lvP at hj
  rw [e10, e11', e12] at hj
  rcases hj with hj | hj | hj | hj
  · by_cases e : j = 11
    · right; subst e; rw [e11']; exact hc
    · left
      have := pl_n16 j hj.1 e hj.2
      exact ⟨Or.inl hj, mARu_ne e (by omega), by rw [out _ (by omega)]⟩
  · left
    have := pl_sen j hj.2.1 hj.1
    exact ⟨Or.inr (Or.inl hj), mARu_ne (by omega) (by omega), by rw [out _ (by omega)]⟩
  · have hk := (nI_ltI (by omega) (by omega)).mp hj.2.2
    obtain ⟨i, q, hq, rfl⟩ : ∃ i q, q < 4 ∧ j = 113 + 4 * i + q := ⟨(j - 113) / 4, (j - 113) % 4, by omega, by omega⟩
    have hi : i < n + 1 := by omega
    rw [pl_r i (by omega) q hq]
    by_cases e : i = n
    · right
      subst e
      have hz : q = 0 ∨ q = 1 ∨ q = 2 ∨ q = 3 := by omega
      unfold mARu
      rw [upd_ne (by omega)]
      rcases hz with rfl | rfl | rfl | rfl
      · show σ1 (B + 17) i = _
        rw [h0, upd_eq, upd_ne (by omega), upd_ne (by omega), upd_ne (by omega), upd_eq]
      · show σ1 (B + 18) i = _
        rw [h1, upd_eq, upd_ne (by omega), upd_ne (by omega), upd_eq]
      · show σ1 (B + 19) i = _
        rw [h2, upd_eq, upd_ne (by omega), upd_eq]
      · show σ1 (B + 20) i = _
        rw [h3, upd_eq, upd_eq]
    · left
      refine ⟨Or.inr (Or.inr (Or.inl ⟨by omega, by omega, ?_⟩)), mARu_ne (by omega) (by omega), ?_⟩
      · rw [e11]
        exact nI_lt (by omega) (by omega)
      · have hz : q = 0 ∨ q = 1 ∨ q = 2 ∨ q = 3 := by omega
        rcases hz with rfl | rfl | rfl | rfl
        · show σ1 (B + 17) i = σ (B + 17) i
          rw [h0, upd_ne e]
        · show σ1 (B + 18) i = σ (B + 18) i
          rw [h1, upd_ne e]
        · show σ1 (B + 19) i = σ (B + 19) i
          rw [h2, upd_ne e]
        · show σ1 (B + 20) i = σ (B + 20) i
          rw [h3, upd_ne e]
  · left
    have := pl_evt j hj.2.1 hj.1
    exact ⟨Or.inr (Or.inr (Or.inr hj)), mARu_ne (by omega) (by omega), by rw [out _ (by omega)]⟩
def mASe (r : Rw) (n : Nat) (a b c d e : Int32) : Rw := upd (upd (upd (upd (upd (upd (upd (upd r (57 + 7 * n + 0) a) (57 + 7 * n + 1) b) (57 + 7 * n + 2) c) (57 + 7 * n + 3) d) (57 + 7 * n + 4) e) (57 + 7 * n + 5) 0) (57 + 7 * n + 6) 0) 10 (nI (n + 1))
theorem mASe_ne {r : Rw} {n : Nat} {a b c d e : Int32} {j : Nat} (h10 : ¬ j = 10) (h : ¬ (57 + 7 * n ≤ j ∧ j < 57 + 7 * n + 7)) : mASe r n a b c d e j = r j := by
  unfold mASe
  rw [upd_ne h10, upd_ne (by omega), upd_ne (by omega), upd_ne (by omega), upd_ne (by omega), upd_ne (by omega), upd_ne (by omega), upd_ne (by omega)]
theorem Rel.ase {σ σ1 : xS} {B : Nat} {r : Rw} (h : Rel σ B r) {n : Nat} (hn : n < 8) (e10 : r 10 = nI n) {a b c d e : Int32} (hF : Fr (fun q => B + 5 ≤ q ∧ q ≤ B + 12) σ σ1) (hc : σ1 (B + 5) 0 = nI (n + 1))
    (h0 : σ1 (B + 6) = upd (σ (B + 6)) n a) (h1 : σ1 (B + 7) = upd (σ (B + 7)) n b) (h2 : σ1 (B + 8) = upd (σ (B + 8)) n c) (h3 : σ1 (B + 9) = upd (σ (B + 9)) n d) (h4 : σ1 (B + 10) = upd (σ (B + 10)) n e) (h5 : σ1 (B + 11) = upd (σ (B + 11)) n 0) (h6 : σ1 (B + 12) = upd (σ (B + 12)) n 0) : Rel σ1 B (mASe r n a b c d e) := by
  have e11 : mASe r n a b c d e 11 = r 11 := mASe_ne (by decide) (by omega)
  have e12 : mASe r n a b c d e 12 = r 12 := mASe_ne (by decide) (by omega)
  have e10' : mASe r n a b c d e 10 = nI (n + 1) := by unfold mASe; rw [upd_eq]
  refine h.of (by rw [hF (B + 1) (by omega)]) (fun j h1 h2 => mASe_ne (by omega) (by omega)) (fun j hj => ?_)
  have hlt := lv_lt5 hj
  have out : ∀ q, (q < 5 ∨ 12 < q) → σ1 (B + q) = σ (B + q) := fun q hq => hF _ (by omega)
  unfold lvP at hj
  rw [e10', e11, e12] at hj
  rcases hj with hj | hj | hj | hj
  · by_cases e : j = 10
    · right; subst e; rw [e10']; exact hc
    · left
      have := pl_n5 j hj.1 e hj.2
      exact ⟨Or.inl hj, mASe_ne e (by omega), by rw [out _ (by omega)]⟩
  · have hk := (nI_ltI (by omega) (by omega)).mp hj.2.2
    obtain ⟨i, q, hq, rfl⟩ : ∃ i q, q < 7 ∧ j = 57 + 7 * i + q := ⟨(j - 57) / 7, (j - 57) % 7, by omega, by omega⟩
    have hi : i < n + 1 := by omega
    rw [pl_s i (by omega) q hq]
    have hz : q = 0 ∨ q = 1 ∨ q = 2 ∨ q = 3 ∨ q = 4 ∨ q = 5 ∨ q = 6 := by omega
    by_cases e : i = n
    · right
      subst e
      unfold mASe
      rw [upd_ne (by omega)]
      rcases hz with rfl | rfl | rfl | rfl | rfl | rfl | rfl
      · show σ1 (B + 6) i = _
        rw [h0, upd_eq, upd_ne (by omega), upd_ne (by omega), upd_ne (by omega), upd_ne (by omega), upd_ne (by omega), upd_ne (by omega), upd_eq]
      · show σ1 (B + 7) i = _
        rw [h1, upd_eq, upd_ne (by omega), upd_ne (by omega), upd_ne (by omega), upd_ne (by omega), upd_ne (by omega), upd_eq]
      · show σ1 (B + 8) i = _
        rw [h2, upd_eq, upd_ne (by omega), upd_ne (by omega), upd_ne (by omega), upd_ne (by omega), upd_eq]
      · show σ1 (B + 9) i = _
        rw [h3, upd_eq, upd_ne (by omega), upd_ne (by omega), upd_ne (by omega), upd_eq]
      · show σ1 (B + 10) i = _
        rw [h4, upd_eq, upd_ne (by omega), upd_ne (by omega), upd_eq]
      · show σ1 (B + 11) i = _
        rw [h5, upd_eq, upd_ne (by omega), upd_eq]
      · show σ1 (B + 12) i = _
        rw [h6, upd_eq, upd_eq]
    · left
      refine ⟨Or.inr (Or.inl ⟨by omega, by omega, ?_⟩), mASe_ne (by omega) (by omega), ?_⟩
      · rw [e10]
        exact nI_lt (by omega) (by omega)
      · rcases hz with rfl | rfl | rfl | rfl | rfl | rfl | rfl
        · show σ1 (B + 6) i = σ (B + 6) i
          rw [h0, upd_ne e]
        · show σ1 (B + 7) i = σ (B + 7) i
          rw [h1, upd_ne e]
        · show σ1 (B + 8) i = σ (B + 8) i
          rw [h2, upd_ne e]
        · show σ1 (B + 9) i = σ (B + 9) i
          rw [h3, upd_ne e]
        · show σ1 (B + 10) i = σ (B + 10) i
          rw [h4, upd_ne e]
        · show σ1 (B + 11) i = σ (B + 11) i
          rw [h5, upd_ne e]
        · show σ1 (B + 12) i = σ (B + 12) i
          rw [h6, upd_ne e]
  · left
    have := pl_rul j hj.2.1 hj.1
    exact ⟨Or.inr (Or.inr (Or.inl hj)), mASe_ne (by omega) (by omega), by rw [out _ (by omega)]⟩
  · left
    have := pl_evt j hj.2.1 hj.1
    exact ⟨Or.inr (Or.inr (Or.inr hj)), mASe_ne (by omega) (by omega), by rw [out _ (by omega)]⟩
/-- rules a .. are moved down by one, i of them done -/
def mDrR (r : Rw) (a i : Nat) : Rw := fun j => if 113 + 4 * a ≤ j ∧ j < 113 + 4 * i then r (j + 4) else r j
def mDro (r : Rw) (a n : Nat) : Rw := upd (mDrR r a (n - 1)) 11 (nI (n - 1))
theorem mDrR_0 (r : Rw) (a : Nat) : mDrR r a a = r := by
  funext j
  simp only [mDrR]
  rw [if_neg (by omega)]
theorem mDrR_out {r : Rw} {a i j : Nat} (h : j < 113 ∨ 113 + 4 * i ≤ j) : mDrR r a i j = r j := by
  simp only [mDrR]
  rw [if_neg (by omega)]
theorem mDrR_step (r : Rw) {a i : Nat} (h : a ≤ i) : upd (upd (upd (upd (mDrR r a i) (113 + 4 * i + 0) (r (113 + 4 * (i + 1) + 0))) (113 + 4 * i + 1) (r (113 + 4 * (i + 1) + 1))) (113 + 4 * i + 2) (r (113 + 4 * (i + 1) + 2))) (113 + 4 * i + 3) (r (113 + 4 * (i + 1) + 3)) = mDrR r a (i + 1) := by
  funext j
  by_cases q3 : j = 113 + 4 * i + 3
  · subst q3; rw [upd_eq]; simp only [mDrR]; rw [if_pos (by omega)]; congr 1
  · rw [upd_ne q3]
    by_cases q2 : j = 113 + 4 * i + 2
    · subst q2; rw [upd_eq]; simp only [mDrR]; rw [if_pos (by omega)]; congr 1
    · rw [upd_ne q2]
      by_cases q1 : j = 113 + 4 * i + 1
      · subst q1; rw [upd_eq]; simp only [mDrR]; rw [if_pos (by omega)]; congr 1
      · rw [upd_ne q1]
        by_cases q0 : j = 113 + 4 * i + 0
        · subst q0; rw [upd_eq]; simp only [mDrR]; rw [if_pos (by omega)]; congr 1
        · rw [upd_ne q0]
          simp only [mDrR]
          by_cases z : 113 + 4 * a ≤ j ∧ j < 113 + 4 * i
          · rw [if_pos z, if_pos (by omega)]
          · rw [if_neg z, if_neg (by omega)]
/-- where a new event goes: behind all that come no later -/
def mPlF (r : Rw) (m : Int32) : Nat → Nat
  | 0 => 0
  | k + 1 => if m < r (145 + 4 * k + 0) then mPlF r m k else k + 1
theorem mPlF_le (r : Rw) (m : Int32) : ∀ n, mPlF r m n ≤ n := by
  intro n
  induction n with
  | zero => exact Nat.le_refl _
  | succ n ih =>
    simp only [mPlF]
    split <;> omega
def mShU (r : Rw) (p n : Nat) : Rw := fun j => if 145 + 4 * (p + 1) ≤ j ∧ j < 145 + 4 * (n + 1) then r (j - 4) else r j
def mIns (r : Rw) (p n : Nat) (m k a b : Int32) : Rw := upd (upd (upd (upd (upd (mShU r p n) (145 + 4 * p + 0) m) (145 + 4 * p + 1) k) (145 + 4 * p + 2) a) (145 + 4 * p + 3) b) 12 (nI (n + 1))
theorem mShU_lo {r : Rw} {p n j : Nat} (h : j < 145 + 4 * (p + 1)) : mShU r p n j = r j := by
  simp only [mShU]
  rw [if_neg (by omega)]
theorem mShU_hi {r : Rw} {p n j : Nat} (h : 145 + 4 * (p + 1) ≤ j) (h2 : j < 145 + 4 * (n + 1)) : mShU r p n j = r (j - 4) := by
  simp only [mShU]
  rw [if_pos ⟨h, h2⟩]
theorem mIns_lo {r : Rw} {p n : Nat} {m k a b : Int32} {j : Nat} (h12 : ¬ j = 12) (h : j < 145 + 4 * p) : mIns r p n m k a b j = r j := by
  unfold mIns
  rw [upd_ne h12, upd_ne (by omega), upd_ne (by omega), upd_ne (by omega), upd_ne (by omega), mShU_lo (by omega)]
theorem mIns_hi {r : Rw} {p n : Nat} {m k a b : Int32} {j : Nat} (h : 145 + 4 * (p + 1) ≤ j) (h2 : j < 145 + 4 * (n + 1)) : mIns r p n m k a b j = r (j - 4) := by
  unfold mIns
  rw [upd_ne (by omega), upd_ne (by omega), upd_ne (by omega), upd_ne (by omega), upd_ne (by omega), mShU_hi h h2]
theorem mIns_12 {r : Rw} {p n : Nat} {m k a b : Int32} : mIns r p n m k a b 12 = nI (n + 1) := by
  unfold mIns
  rw [upd_eq]
theorem mIns_at {r : Rw} {p n : Nat} {m k a b : Int32} : mIns r p n m k a b (145 + 4 * p + 0) = m ∧ mIns r p n m k a b (145 + 4 * p + 1) = k ∧ mIns r p n m k a b (145 + 4 * p + 2) = a ∧ mIns r p n m k a b (145 + 4 * p + 3) = b := by
  unfold mIns
  refine ⟨?_, ?_, ?_, ?_⟩
  · rw [upd_ne (by omega), upd_ne (by omega), upd_ne (by omega), upd_ne (by omega), upd_eq]
  · rw [upd_ne (by omega), upd_ne (by omega), upd_ne (by omega), upd_eq]
  · rw [upd_ne (by omega), upd_ne (by omega), upd_eq]
  · rw [upd_ne (by omega), upd_eq]
theorem Rel.ins {σ σ1 : xS} {B : Nat} {r : Rw} (h : Rel σ B r) {n p : Nat} (hn : n < 20) (hp : p ≤ n) (e12 : r 12 = nI n) {m k a b : Int32} (hF : Fr (fun q => B + 21 ≤ q ∧ q ≤ B + 25) σ σ1) (hc : σ1 (B + 21) 0 = nI (n + 1))
    (hlo : ∀ d, 22 ≤ d → d ≤ 25 → ∀ i, i < p → σ1 (B + d) i = σ (B + d) i) (hhi : ∀ d, 22 ≤ d → d ≤ 25 → ∀ i, p ≤ i → i < n → σ1 (B + d) (i + 1) = σ (B + d) i)
    (h0 : σ1 (B + 22) p = m) (h1 : σ1 (B + 23) p = k) (h2 : σ1 (B + 24) p = a) (h3 : σ1 (B + 25) p = b) : Rel σ1 B (mIns r p n m k a b) := by
  have e10 : mIns r p n m k a b 10 = r 10 := mIns_lo (by decide) (by omega)
  have e11 : mIns r p n m k a b 11 = r 11 := mIns_lo (by decide) (by omega)
  refine h.of (by rw [hF (B + 1) (by omega)]) (fun j h1 h2 => mIns_lo (by omega) (by omega)) (fun j hj => ?_)
  have hlt := lv_lt5 hj
  have out : ∀ q, (q < 21 ∨ 25 < q) → σ1 (B + q) = σ (B + q) := fun q hq => hF _ (by omega)
  unfold lvP at hj
  rw [e10, e11, mIns_12] at hj
  rcases hj with hj | hj | hj | hj
  · by_cases e : j = 12
    · right; subst e; rw [mIns_12]; exact hc
    · left
      have := pl_n21 j hj.1 e hj.2
      exact ⟨Or.inl hj, mIns_lo e (by omega), by rw [out _ (by omega)]⟩
  · left
    have := pl_sen j hj.2.1 hj.1
    exact ⟨Or.inr (Or.inl hj), mIns_lo (by omega) (by omega), by rw [out _ (by omega)]⟩
  · left
    have := pl_rul j hj.2.1 hj.1
    exact ⟨Or.inr (Or.inr (Or.inl hj)), mIns_lo (by omega) (by omega), by rw [out _ (by omega)]⟩
  · have hk := (nI_ltI (by omega) (by omega)).mp hj.2.2
    obtain ⟨i, q, hq, rfl⟩ : ∃ i q, q < 4 ∧ j = 145 + 4 * i + q := ⟨(j - 145) / 4, (j - 145) % 4, by omega, by omega⟩
    have hi : i < n + 1 := by omega
    rw [pl_e i (by omega) q hq]
    have hz : q = 0 ∨ q = 1 ∨ q = 2 ∨ q = 3 := by omega
    by_cases e : i = p
    · right
      subst e
      obtain ⟨g0, g1, g2, g3⟩ := mIns_at (r := r) (p := i) (n := n) (m := m) (k := k) (a := a) (b := b)
      rcases hz with rfl | rfl | rfl | rfl
      · rw [g0]; exact h0
      · rw [g1]; exact h1
      · rw [g2]; exact h2
      · rw [g3]; exact h3
    · by_cases e2 : i < p
      · left
        refine ⟨Or.inr (Or.inr (Or.inr ⟨by omega, by omega, ?_⟩)), mIns_lo (by omega) (by omega), hlo _ (by omega) (by omega) i e2⟩
        rw [e12]
        exact nI_lt (by omega) (by omega)
      · right
        obtain ⟨i, rfl⟩ : ∃ u, i = u + 1 := ⟨i - 1, by omega⟩
        rw [mIns_hi (by omega) (by omega)]
        show σ1 (B + (22 + q)) (i + 1) = _
        rw [hhi (22 + q) (by omega) (by omega) i (by omega) (by omega)]
        have h9 := h.1 (145 + 4 * i + q) (lv_e (by omega) hq (by rw [e12]; exact nI_lt (by omega) (by omega)))
        rw [pl_e i (by omega) q hq] at h9
        rw [show 145 + 4 * (i + 1) + q - 4 = 145 + 4 * i + q by omega]
        exact h9
