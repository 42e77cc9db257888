theorem y_joinS {x : xC} {pc k n t : Nat} {L : List (Option Value)} {st : List Value} {σ : xS} {τ : xT} {Z : State → Prop} {P : xS → Prop} (K : ∀ σ2, P σ2 → Y x t L st σ2 τ k n Z) (F : (∀ σ2, P σ2 → Y x t L st σ2 τ k n Z) → Y x pc L st σ τ k n Z) : Y x pc L st σ τ k n Z := F K
/-! EVENTS -/
def mEff (r : Rw) (kd a b : Int32) : Rw := if kd = 0 then mSets r (cN a) (cN b) (if mDoorI r (cN a) (cN b) = 0 then 1 else 0) else if kd = 1 then upd r 8 (if 200 < r 8 + a then 200 else r 8 + a) else if kd = 2 then upd r 0 a else if kd = 3 then upd r (57 + 7 * cN a + 5) b else upd r 3 (1 - r 3)
def mEvK (r : Rw) (k : Nat) : Rw := mEff r (r (145 + 4 * k + 1)) (r (145 + 4 * k + 2)) (r (145 + 4 * k + 3))
def mShI (p : Rw) (i : Nat) : Rw := fun j => if 145 ≤ j ∧ j < 145 + i then p (j + 4) else p j
def mShf (r : Rw) : Rw := upd (mShI (upd r 12 (r 12 - 1)) (4 * cN (r 12 - 1))) 15 (r 15 + 1)
def mCome (r : Rw) : Rw := mShf (mEvK r 0)
def mComeN (r : Rw) : Nat → Rw
  | 0 => r
  | n + 1 => mCome (mComeN r n)
def mEffN (r : Rw) : Nat → Rw
  | 0 => r
  | n + 1 => mEvK (mEffN r n) n
def mDueF (r : Rw) : Nat → Nat → Nat
  | k, 0 => k
  | k, f + 1 => if r (145 + 4 * k + 0) ≤ r 7 then mDueF r (k + 1) f else k
def mDue (r : Rw) : Nat := mDueF r 0 (cN (r 12))
def mComes (r : Rw) : Rw := mComeN r (mDue r)
theorem upd_ne {f : Nat → Int32} {k j : Nat} {v : Int32} (h : ¬ j = k) : upd f k v j = f j := by simp [upd, h]
theorem upd_eq {f : Nat → Int32} {k : Nat} {v : Int32} : upd f k v k = v := by simp [upd]
theorem mShI_step (p : Rw) (i : Nat) : upd (mShI p i) (145 + i) (mShI p i (145 + i + 4)) = mShI p (i + 1) := by
  funext j
  have e : mShI p i (145 + i + 4) = p (145 + i + 4) := by
    simp only [mShI]
    rw [if_neg (by omega)]
  rw [e]
  by_cases q : j = 145 + i
  · subst q
    rw [upd_eq]
    simp only [mShI]
    rw [if_pos (by omega)]
  · rw [upd_ne q]
    simp only [mShI]
    by_cases q2 : 145 ≤ j ∧ j < 145 + i
    · rw [if_pos q2, if_pos (by omega)]
    · rw [if_neg q2, if_neg (by omega)]
set_option maxHeartbeats 4000000 in
theorem Inv.set1 {r : Rw} {R ns nr ne t tl : Nat} (I : Inv r R ns nr ne t tl) (j : Nat) (v : Int32) (hj : (j < 32 ∧ j ≠ 6 ∧ j ≠ 7 ∧ j ≠ 10 ∧ j ≠ 11 ∧ j ≠ 12) ∨ (57 ≤ j ∧ j < 113 ∧ (j - 57) % 7 ≠ 0))
    (h0 : j = 0 → 0 ≤ v ∧ v ≤ 60) (h2 : j = 2 → 0 ≤ v ∧ v ≤ 30) (h3 : j = 3 → v = 0 ∨ v = 1) (h4 : j = 4 → 0 ≤ v ∧ v ≤ 8) (h5 : j = 5 → 0 ≤ v ∧ v ≤ 999) (h8 : j = 8 → 0 ≤ v ∧ v ≤ 200) (h9 : j = 9 → 0 ≤ v ∧ v ≤ 8)
    (h20 : 20 ≤ j → j < 24 → 0 ≤ v ∧ v ≤ 110000) (h24 : 24 ≤ j → j < 28 → 0 ≤ v ∧ v ≤ 31) (h28 : 28 ≤ j → j < 32 → 0 ≤ v ∧ v ≤ 60) : Inv (upd r j v) R ns nr ne t tl := by
  obtain ⟨⟨⟨a1, a2, a3⟩, ⟨a4, a5⟩, ⟨a6, a7⟩, ⟨a8, a9⟩, ⟨a10, a11⟩⟩, b1, b2, b3, b4, ⟨c0, c2, c3, c4, c5, c8, c9⟩, d1, d2⟩ := I
  have u : ∀ i, ¬ i = j → upd r j v i = r i := fun i h => upd_ne h
  have hn : ∀ a, (a = 6 ∨ a = 7 ∨ a = 10 ∨ a = 11 ∨ a = 12 ∨ 113 ≤ a) → ¬ a = j := by
    intro a ha e
    subst e
    rcases hj with hj | hj <;> omega
  have hs : ∀ k, ¬ 57 + 7 * k + 0 = j := by
    intro k e
    subst e
    rcases hj with hj | hj <;> omega
  clear hj
  refine ⟨⟨⟨by rw [u 6 (hn 6 (by decide))]; exact a1, a2, a3⟩, ⟨by rw [u 10 (hn 10 (by decide))]; exact a4, a5⟩, ⟨by rw [u 11 (hn 11 (by decide))]; exact a6, a7⟩, ⟨by rw [u 12 (hn 12 (by decide))]; exact a8, a9⟩, ⟨by rw [u 7 (hn 7 (by decide))]; exact a10, a11⟩⟩, fun k hk => ?_, fun k hk => ?_, fun k hk => ?_, fun k hk => ?_, ⟨?_, ?_, ?_, ?_, ?_, ?_, ?_⟩, fun i hi => ⟨?_, ?_, ?_⟩, fun k hk => ?_⟩
  · rw [u _ (hs k)]; exact b1 k hk
  · rw [u _ (hn _ (by omega))]; exact b2 k hk
  · unfold EvOk
    rw [u (145 + 4 * k + 0) (hn _ (by omega)), u (145 + 4 * k + 1) (hn _ (by omega)), u (145 + 4 * k + 2) (hn _ (by omega)), u (145 + 4 * k + 3) (hn _ (by omega))]
    exact b3 k hk
  · rw [u _ (hn _ (by omega)), u _ (hn _ (by omega))]; exact b4 k hk
  · by_cases e : 0 = j
    · rw [← e, upd_eq]; exact h0 e.symm
    · rw [u _ e]; exact c0
  · by_cases e : 2 = j
    · rw [← e, upd_eq]; exact h2 e.symm
    · rw [u _ e]; exact c2
  · by_cases e : 3 = j
    · rw [← e, upd_eq]; exact h3 e.symm
    · rw [u _ e]; exact c3
  · by_cases e : 4 = j
    · rw [← e, upd_eq]; exact h4 e.symm
    · rw [u _ e]; exact c4
  · by_cases e : 5 = j
    · rw [← e, upd_eq]; exact h5 e.symm
    · rw [u _ e]; exact c5
  · by_cases e : 8 = j
    · rw [← e, upd_eq]; exact h8 e.symm
    · rw [u _ e]; exact c8
  · by_cases e : 9 = j
    · rw [← e, upd_eq]; exact h9 e.symm
    · rw [u _ e]; exact c9
  · by_cases e : 20 + i = j
    · rw [← e, upd_eq]; exact h20 (by omega) (by omega)
    · rw [u _ e]; exact (d1 i hi).1
  · by_cases e : 24 + i = j
    · rw [← e, upd_eq]; exact h24 (by omega) (by omega)
    · rw [u _ e]; exact (d1 i hi).2.1
  · by_cases e : 28 + i = j
    · rw [← e, upd_eq]; exact h28 (by omega) (by omega)
    · rw [u _ e]; exact (d1 i hi).2.2
  · rw [u _ (hn _ (by omega))]; exact d2 k hk
/-- a row that is the same but at the doors and the counts of 'told' -/
theorem Inv.like {r q : Rw} {R ns nr ne t tl : Nat} (I : Inv r R ns nr ne t tl) (h : ∀ j, (j < 13 ∨ (20 ≤ j ∧ j < 32) ∨ 57 ≤ j) → q j = r j) : Inv q R ns nr ne t tl := by
  obtain ⟨⟨⟨a1, a2, a3⟩, ⟨a4, a5⟩, ⟨a6, a7⟩, ⟨a8, a9⟩, ⟨a10, a11⟩⟩, b1, b2, b3, b4, ⟨c0, c2, c3, c4, c5, c8, c9⟩, d1, d2⟩ := I
  refine ⟨⟨⟨by rw [h 6 (by omega)]; exact a1, a2, a3⟩, ⟨by rw [h 10 (by omega)]; exact a4, a5⟩, ⟨by rw [h 11 (by omega)]; exact a6, a7⟩, ⟨by rw [h 12 (by omega)]; exact a8, a9⟩, ⟨by rw [h 7 (by omega)]; exact a10, a11⟩⟩, fun k hk => ?_, fun k hk => ?_, fun k hk => ?_, fun k hk => ?_, ⟨?_, ?_, ?_, ?_, ?_, ?_, ?_⟩, fun i hi => ⟨?_, ?_, ?_⟩, fun k hk => ?_⟩
  · rw [h _ (by omega)]; exact b1 k hk
  · rw [h _ (by omega)]; exact b2 k hk
  · unfold EvOk
    rw [h (145 + 4 * k + 0) (by omega), h (145 + 4 * k + 1) (by omega), h (145 + 4 * k + 2) (by omega), h (145 + 4 * k + 3) (by omega)]
    exact b3 k hk
  · rw [h _ (by omega), h _ (by omega)]; exact b4 k hk
  · rw [h 0 (by omega)]; exact c0
  · rw [h 2 (by omega)]; exact c2
  · rw [h 3 (by omega)]; exact c3
  · rw [h 4 (by omega)]; exact c4
  · rw [h 5 (by omega)]; exact c5
  · rw [h 8 (by omega)]; exact c8
  · rw [h 9 (by omega)]; exact c9
  · rw [h _ (by omega)]; exact (d1 i hi).1
  · rw [h _ (by omega)]; exact (d1 i hi).2.1
  · rw [h _ (by omega)]; exact (d1 i hi).2.2
  · rw [h _ (by omega)]; exact d2 k hk
theorem bool_flip {x : Int32} (h : x = 0 ∨ x = 1) : (1 - x = 0 ∨ 1 - x = 1) ∧ (1 - x = if ¬ x = 0 then 0 else 1) := by
  rcases h with rfl | rfl <;> decide
theorem Inv.evK {r : Rw} {R ns nr ne t tl : Nat} (I : Inv r R ns nr ne t tl) {k : Nat} (hk : k < ne) : Inv (mEvK r k) R ns nr ne t tl := by
  have hR := I.1.1.2.2
  have hns := I.1.2.1.2
  obtain ⟨-, e0, e1, e2, e3⟩ := I.2.2.2.1 k hk
  unfold mEvK mEff
  by_cases q0 : r (145 + 4 * k + 1) = 0
  · rw [if_pos q0]
    obtain ⟨a, b, ha, hb, hab, ea, eb⟩ := e0 q0
    rw [ea, eb, cN_nI (by omega), cN_nI (by omega)]
    exact I.like (fun j hj => mSets_out (by omega) (by omega) (by omega))
  · rw [if_neg q0]
    by_cases q1 : r (145 + 4 * k + 1) = 1
    · rw [if_pos q1]
      refine I.set1 8 _ (by omega) (by omega) (by omega) (by omega) (by omega) (by omega) (fun _ => ?_) (by omega) (by omega) (by omega) (by omega)
      obtain ⟨f, hf, ef⟩ := rng (m := 200) (by decide) I.2.2.2.2.2.1.2.2.2.2.2.1.1 I.2.2.2.2.2.1.2.2.2.2.2.1.2
      obtain ⟨h1, h2⟩ := e1 q1
      obtain ⟨m, hm, em⟩ := rng (m := 200) (x := r (145 + 4 * k + 2)) (by decide) (Int32.le_trans (by decide) h1) h2
      rw [ef, em, nI_add]
      split
      · exact ⟨by decide, by decide⟩
      · rename_i z
        refine ⟨nI_pos' (by omega), ?_⟩
        exact Int32.not_lt.mp z
    · rw [if_neg q1]
      by_cases q2 : r (145 + 4 * k + 1) = 2
      · rw [if_pos q2]
        exact I.set1 0 _ (by omega) (fun _ => e2 q2) (by omega) (by omega) (by omega) (by omega) (by omega) (by omega) (by omega) (by omega) (by omega)
      · rw [if_neg q2]
        by_cases q3 : r (145 + 4 * k + 1) = 3
        · rw [if_pos q3]
          obtain ⟨a, ha, ea⟩ := e3 q3
          rw [ea, cN_nI (by omega)]
          exact I.set1 (57 + 7 * a + 5) _ (Or.inr ⟨by omega, by omega, by omega⟩) (by omega) (by omega) (by omega) (by omega) (by omega) (by omega) (by omega) (by omega) (by omega) (by omega)
        · rw [if_neg q3]
          exact I.set1 3 _ (by omega) (by omega) (by omega) (fun _ => (bool_flip I.2.2.2.2.2.1.2.2.1).1) (by omega) (by omega) (by omega) (by omega) (by omega) (by omega) (by omega)
theorem mEvK_hi {r : Rw} {R ns nr ne t tl : Nat} (I : Inv r R ns nr ne t tl) {k : Nat} (hk : k < ne) (j : Nat) (hj : j = 7 ∨ (10 ≤ j ∧ j < 20) ∨ 113 ≤ j) : mEvK r k j = r j := by
  have hR := I.1.1.2.2
  have hns := I.1.2.1.2
  obtain ⟨-, e0, -, -, e3⟩ := I.2.2.2.1 k hk
  unfold mEvK mEff
  by_cases q0 : r (145 + 4 * k + 1) = 0
  · rw [if_pos q0]
    obtain ⟨a, b, ha, hb, hab, ea, eb⟩ := e0 q0
    rw [ea, eb, cN_nI (by omega), cN_nI (by omega)]
    exact mSets_out (by omega) (by omega) (by omega)
  · rw [if_neg q0]
    by_cases q1 : r (145 + 4 * k + 1) = 1
    · rw [if_pos q1, upd_ne (by omega)]
    · rw [if_neg q1]
      by_cases q2 : r (145 + 4 * k + 1) = 2
      · rw [if_pos q2, upd_ne (by omega)]
      · rw [if_neg q2]
        by_cases q3 : r (145 + 4 * k + 1) = 3
        · rw [if_pos q3]
          obtain ⟨a, ha, ea⟩ := e3 q3
          rw [ea, cN_nI (by omega), upd_ne (by omega)]
        · rw [if_neg q3, upd_ne (by omega)]
theorem mShf_lo {r : Rw} {j : Nat} (hj : j < 145) (h12 : j ≠ 12) (h15 : j ≠ 15) : mShf r j = r j := by
  unfold mShf
  rw [upd_ne h15]
  simp only [mShI]
  rw [if_neg (by omega), upd_ne h12]
theorem mShf_12 {r : Rw} : mShf r 12 = r 12 - 1 := by
  unfold mShf
  rw [upd_ne (by decide)]
  simp only [mShI]
  rw [if_neg (by omega), upd_eq]
theorem mShf_ev {r : Rw} {ne : Nat} (h : r 12 = nI (ne + 1)) (hn : ne < 1000) {j : Nat} (hj : j < 4 * ne) : mShf r (145 + j) = r (145 + j + 4) := by
  unfold mShf
  rw [upd_ne (by omega), h, nI_pred, cN_nI (by omega)]
  simp only [mShI]
  rw [if_pos (by omega), upd_ne (by omega)]
theorem Inv.shf {r : Rw} {R ns nr ne t tl : Nat} (I : Inv r R ns nr (ne + 1) t tl) : Inv (mShf r) R ns nr ne t tl := by
  obtain ⟨⟨⟨a1, a2, a3⟩, ⟨a4, a5⟩, ⟨a6, a7⟩, ⟨a8, a9⟩, ⟨a10, a11⟩⟩, b1, b2, b3, b4, ⟨c0, c2, c3, c4, c5, c8, c9⟩, d1, d2⟩ := I
  have u : ∀ i, i < 145 → i ≠ 12 → i ≠ 15 → mShf r i = r i := fun i h1 h2 h3 => mShf_lo h1 h2 h3
  have v : ∀ i w, i < ne → w < 4 → mShf r (145 + 4 * i + w) = r (145 + 4 * (i + 1) + w) := by
    intro i w hi hw
    rw [show 145 + 4 * i + w = 145 + (4 * i + w) by omega, mShf_ev a8 (by omega) (by omega)]
    congr 1
    omega
  refine ⟨⟨⟨by rw [u 6 (by omega) (by omega) (by omega)]; exact a1, a2, a3⟩, ⟨by rw [u 10 (by omega) (by omega) (by omega)]; exact a4, a5⟩, ⟨by rw [u 11 (by omega) (by omega) (by omega)]; exact a6, a7⟩, ⟨by rw [mShf_12, a8]; exact nI_pred ne, by omega⟩, ⟨by rw [u 7 (by omega) (by omega) (by omega)]; exact a10, a11⟩⟩, fun k hk => ?_, fun k hk => ?_, fun k hk => ?_, fun k hk => ?_, ⟨?_, ?_, ?_, ?_, ?_, ?_, ?_⟩, fun i hi => ⟨?_, ?_, ?_⟩, fun k hk => ?_⟩
  · rw [u _ (by omega) (by omega) (by omega)]; exact b1 k hk
  · rw [u _ (by omega) (by omega) (by omega)]; exact b2 k hk
  · unfold EvOk
    rw [v k 0 hk (by decide), v k 1 hk (by decide), v k 2 hk (by decide), v k 3 hk (by decide)]
    exact b3 (k + 1) (by omega)
  · rw [v k 0 (by omega) (by decide), v (k + 1) 0 hk (by decide)]; exact b4 (k + 1) (by omega)
  · rw [u 0 (by omega) (by omega) (by omega)]; exact c0
  · rw [u 2 (by omega) (by omega) (by omega)]; exact c2
  · rw [u 3 (by omega) (by omega) (by omega)]; exact c3
  · rw [u 4 (by omega) (by omega) (by omega)]; exact c4
  · rw [u 5 (by omega) (by omega) (by omega)]; exact c5
  · rw [u 8 (by omega) (by omega) (by omega)]; exact c8
  · rw [u 9 (by omega) (by omega) (by omega)]; exact c9
  · rw [u _ (by omega) (by omega) (by omega)]; exact (d1 i hi).1
  · rw [u _ (by omega) (by omega) (by omega)]; exact (d1 i hi).2.1
  · rw [u _ (by omega) (by omega) (by omega)]; exact (d1 i hi).2.2
  · rw [u _ (by omega) (by omega) (by omega)]; exact d2 k hk

theorem mEff_congr {p q : Rw} (h : ∀ j, j < 145 → j ≠ 12 → j ≠ 15 → p j = q j) {kd a b : Int32} (h0 : kd = 0 → cN a < 5 ∧ cN b < 5) : ∀ j, j < 145 → j ≠ 12 → j ≠ 15 → mEff p kd a b j = mEff q kd a b j := by
  intro j hj h12 h15
  unfold mEff
  by_cases q0 : kd = 0
  · rw [if_pos q0, if_pos q0]
    obtain ⟨ha, hb⟩ := h0 q0
    have e : mDoorI p (cN a) (cN b) = mDoorI q (cN a) (cN b) := by
      unfold mDoorI
      rw [h _ (by omega) (by omega) (by omega)]
    rw [e]
    simp only [mSets, upd]
    rw [h j hj h12 h15]
  · rw [if_neg q0, if_neg q0]
    by_cases q1 : kd = 1
    · rw [if_pos q1, if_pos q1, h 8 (by decide) (by decide) (by decide)]
      simp only [upd]
      rw [h j hj h12 h15]
    · rw [if_neg q1, if_neg q1]
      by_cases q2 : kd = 2
      · rw [if_pos q2, if_pos q2]
        simp only [upd]
        rw [h j hj h12 h15]
      · rw [if_neg q2, if_neg q2]
        by_cases q3 : kd = 3
        · rw [if_pos q3, if_pos q3]
          simp only [upd]
          rw [h j hj h12 h15]
        · rw [if_neg q3, if_neg q3, h 3 (by decide) (by decide) (by decide)]
          simp only [upd]
          rw [h j hj h12 h15]
theorem effN_inv {r : Rw} {R ns nr ne t tl : Nat} (I : Inv r R ns nr ne t tl) : ∀ n, n ≤ ne → Inv (mEffN r n) R ns nr ne t tl ∧ ∀ j, (j = 7 ∨ (10 ≤ j ∧ j < 20) ∨ 113 ≤ j) → mEffN r n j = r j := by
  intro n
  induction n with
  | zero => intro _; exact ⟨I, fun _ _ => rfl⟩
  | succ n ih =>
    intro hn
    obtain ⟨I1, h1⟩ := ih (by omega)
    exact ⟨I1.evK (by omega), fun j hj => (mEvK_hi I1 (by omega) j hj).trans (h1 j hj)⟩
theorem comeN_inv {r : Rw} {R ns nr ne t tl : Nat} (I : Inv r R ns nr ne t tl) : ∀ n, n ≤ ne → Inv (mComeN r n) R ns nr (ne - n) t tl ∧ (∀ j, j < 145 → j ≠ 12 → j ≠ 15 → mComeN r n j = mEffN r n j) ∧ mComeN r n 15 = r 15 + nI n ∧ ∀ j, j < 4 * (ne - n) → mComeN r n (145 + j) = r (145 + 4 * n + j) := by
  intro n
  induction n with
  | zero => intro _; exact ⟨I, fun _ _ _ _ => rfl, by show r 15 = r 15 + nI 0; rw [nI_0, Int32.add_zero], fun j _ => rfl⟩
  | succ n ih =>
    intro hn
    obtain ⟨I1, h1, h2, h3⟩ := ih (by omega)
    obtain ⟨IE, hE⟩ := effN_inv I n (by omega)
    obtain ⟨m, hm⟩ : ∃ m, ne - n = m + 1 := ⟨ne - n - 1, by omega⟩
    have hm2 : ne - (n + 1) = m := by omega
    rw [hm] at I1 h3
    rw [hm2]
    have I2 := I1.evK (Nat.succ_pos m)
    have hr : ∀ w, w < 4 → mComeN r n (145 + 4 * 0 + w) = r (145 + 4 * n + w) := fun w hw => h3 w (by omega)
    have hr2 : ∀ w, w < 4 → mEffN r n (145 + 4 * n + w) = r (145 + 4 * n + w) := fun w hw => hE _ (by omega)
    have hR := I.1.1.2.2
    have hcg : ∀ j, j < 145 → j ≠ 12 → j ≠ 15 → mEvK (mComeN r n) 0 j = mEvK (mEffN r n) n j := by
      unfold mEvK
      rw [hr 1 (by decide), hr 2 (by decide), hr 3 (by decide), hr2 1 (by decide), hr2 2 (by decide), hr2 3 (by decide)]
      refine mEff_congr h1 (fun q => ?_)
      obtain ⟨a, b, ha, hb, hab, ea, eb⟩ := (I.2.2.2.1 n (by omega)).2.1 q
      rw [ea, eb, cN_nI (by omega), cN_nI (by omega)]
      omega
    have h15 : mEvK (mComeN r n) 0 15 = r 15 + nI n := by rw [mEvK_hi I1 (Nat.succ_pos m) 15 (by omega), h2]
    refine ⟨I2.shf, fun j hj h12 h15 => ?_, ?_, fun j hj => ?_⟩
    · show mShf (mEvK (mComeN r n) 0) j = mEvK (mEffN r n) n j
      rw [mShf_lo hj h12 h15]
      exact hcg j hj h12 h15
    · show mShf (mEvK (mComeN r n) 0) 15 = r 15 + nI (n + 1)
      unfold mShf
      rw [upd_eq, h15, nI_succ, ← Int32.add_assoc]
    · show mShf (mEvK (mComeN r n) 0) (145 + j) = r (145 + 4 * (n + 1) + j)
      rw [mShf_ev I2.1.2.2.2.1.1 (by have := I1.1.2.2.2.1.2; omega) hj, mEvK_hi I1 (Nat.succ_pos m) _ (by omega), show 145 + j + 4 = 145 + (j + 4) by omega, h3 _ (by omega)]
      congr 1
      omega
theorem mDueF_le (r : Rw) : ∀ f k, k ≤ mDueF r k f ∧ mDueF r k f ≤ k + f := by
  intro f
  induction f with
  | zero => intro k; exact ⟨Nat.le_refl _, Nat.le_refl _⟩
  | succ f ih =>
    intro k
    simp only [mDueF]
    split
    · have := ih (k + 1); omega
    · omega
theorem mDue_le {r : Rw} {R ns nr ne t tl : Nat} (I : Inv r R ns nr ne t tl) : mDue r ≤ ne := by
  have h := (mDueF_le r (cN (r 12)) 0).2
  rw [I.1.2.2.2.1.1, cN_nI (by have := I.1.2.2.2.1.2; omega)] at h
  unfold mDue
  rw [I.1.2.2.2.1.1, cN_nI (by have := I.1.2.2.2.1.2; omega)]
  omega
theorem Inv.comes {r : Rw} {R ns nr ne t tl : Nat} (I : Inv r R ns nr ne t tl) : Inv (mComes r) R ns nr (ne - mDue r) t tl := (comeN_inv I _ (mDue_le I)).1
/-- the class drops the first d events at once -/
def mDrI (r : Rw) (d i : Nat) : Rw := fun j => if 145 ≤ j ∧ j < 145 + 4 * i then r (j + 4 * d) else r j
def mMov (r : Rw) (f t : Nat) : Rw := upd (upd (upd (upd r (145 + 4 * t + 0) (r (145 + 4 * f + 0))) (145 + 4 * t + 1) (r (145 + 4 * f + 1))) (145 + 4 * t + 2) (r (145 + 4 * f + 2))) (145 + 4 * t + 3) (r (145 + 4 * f + 3))
theorem mDrI_step (r : Rw) (d i : Nat) : mMov (mDrI r d i) (d + i) i = mDrI r d (i + 1) := by
  have e : ∀ w, mDrI r d i (145 + 4 * (d + i) + w) = r (145 + 4 * (d + i) + w) := by
    intro w
    simp only [mDrI]
    by_cases q : 145 ≤ 145 + 4 * (d + i) + w ∧ 145 + 4 * (d + i) + w < 145 + 4 * i
    · omega
    · rw [if_neg q]
  funext j
  simp only [mMov, e]
  simp only [upd, mDrI]
  by_cases q3 : j = 145 + 4 * i + 3
  · rw [if_pos q3, if_pos (by omega), q3]; congr 1; omega
  · rw [if_neg q3]
    by_cases q2 : j = 145 + 4 * i + 2
    · rw [if_pos q2, if_pos (by omega), q2]; congr 1; omega
    · rw [if_neg q2]
      by_cases q1 : j = 145 + 4 * i + 1
      · rw [if_pos q1, if_pos (by omega), q1]; congr 1; omega
      · rw [if_neg q1]
        by_cases q0 : j = 145 + 4 * i + 0
        · rw [if_pos q0, if_pos (by omega), q0]; congr 1; omega
        · rw [if_neg q0]
          by_cases z : 145 ≤ j ∧ j < 145 + 4 * i
          · rw [if_pos z, if_pos (by omega)]
          · rw [if_neg z, if_neg (by omega)]
theorem Rel.congr {σ : xS} {B : Nat} {p q : Rw} (h : Rel σ B p) (hl : ∀ j, lvP q j → lvP p j ∧ q j = p j) (hd : ∀ j, 32 ≤ j → j < 57 → q j = p j) : Rel σ B q := by
  refine ⟨fun j hj => ?_, fun a b ha hb hab => ?_⟩
  · rw [(hl j hj).2]
    exact h.1 j (hl j hj).1
  · rw [hd _ (by omega) (by omega)]
    exact h.2 a b ha hb hab
theorem Rel.comes {σ : xS} {B : Nat} {r : Rw} {R ns nr ne t tl : Nat} (I : Inv r R ns nr ne t tl) {d : Nat} (hd : d ≤ ne) (h : Rel σ B (upd (upd (mDrI (mEffN r d) d (ne - d)) 12 (r 12 - nI d)) 15 (r 15 + nI d))) : Rel σ B (mComeN r d) := by
  obtain ⟨I1, h1, h2, h3⟩ := comeN_inv I d hd
  obtain ⟨IE, hE⟩ := effN_inv I d hd
  have e20 := I.1.2.2.2.1.2
  have e12 : r 12 - nI d = nI (ne - d) := by rw [I.1.2.2.2.1.1]; exact pk_sub hd
  have lo : ∀ j, j < 145 → j ≠ 12 → j ≠ 15 → upd (upd (mDrI (mEffN r d) d (ne - d)) 12 (r 12 - nI d)) 15 (r 15 + nI d) j = mEffN r d j := by
    intro j hj h12 h15
    rw [upd_ne h15, upd_ne h12]
    simp only [mDrI]
    rw [if_neg (by omega)]
  refine h.congr (fun j hj => ?_) (fun j hj1 hj2 => ?_)
  · have hlt := lv_lt5 hj
    have hv : upd (upd (mDrI (mEffN r d) d (ne - d)) 12 (r 12 - nI d)) 15 (r 15 + nI d) 12 = mComeN r d 12 := by
      rw [upd_ne (by decide), upd_eq, e12, I1.1.2.2.2.1.1]
    have hlv : lvP (upd (upd (mDrI (mEffN r d) d (ne - d)) 12 (r 12 - nI d)) 15 (r 15 + nI d)) j := by
      unfold lvP at hj ⊢
      rw [lo 10 (by decide) (by decide) (by decide), lo 11 (by decide) (by decide) (by decide), hv, ← h1 10 (by decide) (by decide) (by decide), ← h1 11 (by decide) (by decide) (by decide)]
      exact hj
    refine ⟨hlv, ?_⟩
    by_cases q15 : j = 15
    · subst q15; rw [upd_eq, h2]
    · by_cases q12 : j = 12
      · subst q12; exact hv.symm
      · by_cases q : j < 145
        · rw [lo j q q12 q15]; exact h1 j q q12 q15
        · rw [upd_ne q15, upd_ne q12]
          have hjn : j < 145 + 4 * (ne - d) := by
            rcases hj with z | z | z | z
            · omega
            · omega
            · omega
            · have h9 := z.2.2
              rw [I1.1.2.2.2.1.1] at h9
              have := (nI_ltI (a := (j - 145) / 4) (b := ne - d) (by omega) (by omega)).mp h9
              omega
          simp only [mDrI]
          rw [if_pos ⟨by omega, hjn⟩, hE _ (by omega)]
          have := h3 (j - 145) (by omega)
          rw [show 145 + (j - 145) = j by omega] at this
          exact this.trans (congrArg r (by omega))
  · rw [lo j (by omega) (by omega) (by omega)]
    exact h1 j (by omega) (by omega) (by omega)

set_option maxHeartbeats 4000000 in
set_option maxRecDepth 100000 in
theorem l_X1_dueIn {x : xC} (C : Cx x mX1_dueIn) {B : Nat} (hB : isW B) {r : Rw} (σ : xS) (τ : xT) (hR : Rel σ B r) {R ns nr ne t tl : Nat} (I : Inv r R ns nr ne t tl) {Z : State → Prop} (kx : ∀ k : Nat, k = mDue r → Y x 26 [some (.ref (B + 21)), some (.int (r 7)), some (.int (nI k))] [] σ τ 0 0 Z) : ∀ n k : Nat, k + n = ne → mDueF r k n = mDue r → Y x 2 [some (.ref (B + 21)), some (.int (r 7)), some (.int (nI k))] [] σ τ 0 0 Z := by
  intro n
  induction n with
  | zero =>
    intro k hk
    intro hf
    simp only [mDueF] at hf
    refine y_iload_n C dX1_dueIn_2 rfl ?_
    refine y_aload_n C dX1_dueIn_3 rfl ?_
    refine gR_X1_count C hB hR dX1_dueIn_4 (by decide +kernel) (by decide +kernel) ?_
    refine y_icmp_ge (t := 26) C dX1_dueIn_7 (by decide) (fun c7 => ?_) (fun c7 => absurd (by rw [I.1.2.2.2.1.1, show k = ne by omega]; exact Int32.le_refl _) c7)
    exact kx k hf
  | succ n ih =>
    intro k hk
    intro hf
    refine y_iload_n C dX1_dueIn_2 rfl ?_
    refine y_aload_n C dX1_dueIn_3 rfl ?_
    refine gR_X1_count C hB hR dX1_dueIn_4 (by decide +kernel) (by decide +kernel) ?_
    refine y_icmp_ge (t := 26) C dX1_dueIn_7 (by decide) (fun c7 => absurd c7 (by rw [I.1.2.2.2.1.1]; exact nI_ge (by omega) (by have := I.1.2.2.2.1.2; omega))) (fun c7 => ?_)
    refine y_aload_n C dX1_dueIn_10 rfl ?_
    refine g_X1_minute C hB dX1_dueIn_11 (by decide +kernel) (by decide +kernel) ?_
    refine y_iload_n C dX1_dueIn_14 rfl ?_
    refine aR C hB hR (145 + 4 * k + 0) 22 k 20 (pl_e _ (by have := I.1.2.2.2.1.2; omega) _ (by decide)) (lv_e (by have := I.1.2.2.2.1.2; omega) (by decide) (inv_e I (by omega))) (by decide) rfl (by decide) rfl (by have := I.1.2.2.2.1.2; omega) dX1_dueIn_15 ?_
    refine y_iload_n C dX1_dueIn_16 rfl ?_
    refine y_icmp_gt (t := 26) C dX1_dueIn_17 (by decide) (fun kc17 => ?_) (fun kc17 => ?_)
    · -- t
      exact kx k (by simp only [mDueF] at hf; rw [if_neg (Int32.not_le.mpr kc17)] at hf; exact hf)
    · -- f
      refine y_iinc C dX1_dueIn_20 (L' := [_, _, _]) rfl (nI_1 k) rfl ?_
      refine y_goto (t := 2) C dX1_dueIn_23 (by decide) ?_
      exact ih (k + 1) (by omega) (by simp only [mDueF] at hf; rw [if_pos (Int32.not_lt.mp kc17)] at hf; exact hf)
set_option maxHeartbeats 4000000 in
set_option maxRecDepth 100000 in
theorem e_X1_dueIn {B : Nat} (hB : isW B) {r : Rw} (σ : xS) (τ : xT) (hR : Rel σ B r) {R ns nr ne t tl : Nat} (I : Inv r R ns nr ne t tl) : Xi mX1_dueIn [.ref (B + 21), .int (r 7)] σ τ (fun o σ1 τ1 => o = (nI (mDue r)) ∧ σ = σ1 ∧ τ = τ1) := by
  refine Xi_mk (L := [some (.ref (B + 21)), some (.int (r 7)), none]) (by decide) rfl (Nat.le_of_ble_eq_true rfl) rfl (fun x C => ?_)
  refine y_iconst (v := 0) C dX1_dueIn_0 (by decide) ?_
  refine y_istore_n C dX1_dueIn_1 (L' := [_, _, _]) (Nat.lt_of_lt_of_le (by decide : (2 : Nat) < 3) (Nat.le_refl _)) rfl ?_
  refine l_X1_dueIn C hB σ τ hR I (fun k hk => ?_) _ 0 (Nat.zero_add _) (by simp only [mDue]; rw [I.1.2.2.2.1.1, cN_nI (by have := I.1.2.2.2.1.2; omega)])
  refine y_iload_n C dX1_dueIn_26 rfl ?_
  exact y_iret C rfl dX1_dueIn_27 ⟨by rw [hk], rfl, rfl⟩
set_option maxHeartbeats 4000000 in
set_option maxRecDepth 100000 in
theorem e_X1_moveEvent {B : Nat} (hB : isW B) {r : Rw} (σ : xS) (τ : xT) (hR : Rel σ B r) (f t : Nat) (hf : f < 20) (ht : t < 20) (hlf : nI f < r 12) : Xv mX1_moveEvent [.ref (B + 21), .int (nI f), .int (nI t)] σ τ (fun σ1 τ1 => Rel σ1 B (mMov r f t) ∧ Fr (wS B) σ σ1 ∧ τ = τ1) := by
  refine Xv_mk (L := [some (.ref (B + 21)), some (.int (nI f)), some (.int (nI t))]) (by decide) rfl (Nat.le_of_ble_eq_true rfl) rfl (fun x C => ?_)
  refine y_aload_n C dX1_moveEvent_0 rfl ?_
  refine g_X1_minute C hB dX1_moveEvent_1 (by decide +kernel) (by decide +kernel) ?_
  refine y_iload_n C dX1_moveEvent_4 rfl ?_
  refine y_aload_n C dX1_moveEvent_5 rfl ?_
  refine g_X1_minute C hB dX1_moveEvent_6 (by decide +kernel) (by decide +kernel) ?_
  refine y_iload_n C dX1_moveEvent_9 rfl ?_
  refine aR C hB hR (145 + 4 * f + 0) 22 f 20 (pl_e _ (by omega) _ (by decide)) (lv_e (by omega) (by decide) (by exact hlf)) (by decide) rfl (by decide) rfl (by omega) dX1_moveEvent_10 ?_
  refine wR C hB hR (145 + 4 * t + 0) 22 t 20 (pl_e _ (by omega) _ (by decide)) (by omega) (by omega) (lv_upd (by omega) (by omega) (by omega)) (by decide) rfl (by decide) rfl (by omega) dX1_moveEvent_11 (fun σ1 hR1 hF1 => ?_)
  refine y_aload_n C dX1_moveEvent_12 rfl ?_
  refine g_X1_kind C hB dX1_moveEvent_13 (by decide +kernel) (by decide +kernel) ?_
  refine y_iload_n C dX1_moveEvent_16 rfl ?_
  refine y_aload_n C dX1_moveEvent_17 rfl ?_
  refine g_X1_kind C hB dX1_moveEvent_18 (by decide +kernel) (by decide +kernel) ?_
  refine y_iload_n C dX1_moveEvent_21 rfl ?_
  refine aR C hB hR1 (145 + 4 * f + 1) 23 f 20 (pl_e _ (by omega) _ (by decide)) (lv_e (by omega) (by decide) (by rw [upd_ne (by omega)]; exact hlf)) (by decide) rfl (by decide) rfl (by omega) dX1_moveEvent_22 ?_
  refine y_topE (r (145 + 4 * f + 1)) (upd_ne (by omega)) ?_
  refine wR C hB hR1 (145 + 4 * t + 1) 23 t 20 (pl_e _ (by omega) _ (by decide)) (by omega) (by omega) (lv_upd (by omega) (by omega) (by omega)) (by decide) rfl (by decide) rfl (by omega) dX1_moveEvent_23 (fun σ2 hR2 hF2 => ?_)
  refine y_aload_n C dX1_moveEvent_24 rfl ?_
  refine g_X1_a C hB dX1_moveEvent_25 (by decide +kernel) (by decide +kernel) ?_
  refine y_iload_n C dX1_moveEvent_28 rfl ?_
  refine y_aload_n C dX1_moveEvent_29 rfl ?_
  refine g_X1_a C hB dX1_moveEvent_30 (by decide +kernel) (by decide +kernel) ?_
  refine y_iload_n C dX1_moveEvent_33 rfl ?_
  refine aR C hB hR2 (145 + 4 * f + 2) 24 f 20 (pl_e _ (by omega) _ (by decide)) (lv_e (by omega) (by decide) (by rw [upd_ne (by omega), upd_ne (by omega)]; exact hlf)) (by decide) rfl (by decide) rfl (by omega) dX1_moveEvent_34 ?_
  refine y_topE (r (145 + 4 * f + 2)) (by rw [upd_ne (by omega), upd_ne (by omega)]) ?_
  refine wR C hB hR2 (145 + 4 * t + 2) 24 t 20 (pl_e _ (by omega) _ (by decide)) (by omega) (by omega) (lv_upd (by omega) (by omega) (by omega)) (by decide) rfl (by decide) rfl (by omega) dX1_moveEvent_35 (fun σ3 hR3 hF3 => ?_)
  refine y_aload_n C dX1_moveEvent_36 rfl ?_
  refine g_X1_b C hB dX1_moveEvent_37 (by decide +kernel) (by decide +kernel) ?_
  refine y_iload_n C dX1_moveEvent_40 rfl ?_
  refine y_aload_n C dX1_moveEvent_41 rfl ?_
  refine g_X1_b C hB dX1_moveEvent_42 (by decide +kernel) (by decide +kernel) ?_
  refine y_iload_n C dX1_moveEvent_45 rfl ?_
  refine aR C hB hR3 (145 + 4 * f + 3) 25 f 20 (pl_e _ (by omega) _ (by decide)) (lv_e (by omega) (by decide) (by rw [upd_ne (by omega), upd_ne (by omega), upd_ne (by omega)]; exact hlf)) (by decide) rfl (by decide) rfl (by omega) dX1_moveEvent_46 ?_
  refine y_topE (r (145 + 4 * f + 3)) (by rw [upd_ne (by omega), upd_ne (by omega), upd_ne (by omega)]) ?_
  refine wR C hB hR3 (145 + 4 * t + 3) 25 t 20 (pl_e _ (by omega) _ (by decide)) (by omega) (by omega) (lv_upd (by omega) (by omega) (by omega)) (by decide) rfl (by decide) rfl (by omega) dX1_moveEvent_47 (fun σ4 hR4 hF4 => ?_)
  exact y_vret C rfl dX1_moveEvent_48 (⟨hR4, ((hF1.trans hF2).trans hF3).trans hF4, rfl⟩)
theorem mDrI_lo {r : Rw} {d i j : Nat} (h : j < 145) : mDrI r d i j = r j := by
  simp only [mDrI]
  rw [if_neg (by omega)]
theorem mDrI_0 (r : Rw) (d : Nat) : mDrI r d 0 = r := by
  funext j
  simp only [mDrI]
  rw [if_neg (by omega)]
set_option maxHeartbeats 4000000 in
set_option maxRecDepth 100000 in
theorem l_X1_dropFirst {x : xC} (C : Cx x mX1_dropFirst) {B : Nat} (hB : isW B) {r : Rw} (σ : xS) (τ : xT) (hR : Rel σ B r) {R ns nr ne t tl : Nat} (I : Inv r R ns nr ne t tl) (d : Nat) (hd : d ≤ ne) {Z : State → Prop} (kx : ∀ σ1 : xS, Rel σ1 B (mDrI r d (ne - d)) → Fr (wS B) σ σ1 → Y x 24 [some (.ref (B + 21)), some (.int (nI d)), some (.int (nI (d + (ne - d))))] [] σ1 τ 0 0 Z) : ∀ n k : Nat, k + n = (ne - d) → ∀ σ1 : xS, Rel σ1 B (mDrI r d k) → Fr (wS B) σ σ1 → Y x 2 [some (.ref (B + 21)), some (.int (nI d)), some (.int (nI (d + k)))] [] σ1 τ 0 0 Z := by
  intro n
  induction n with
  | zero =>
    intro k hk
    intro σ1 hR1 hF1
    have he20 := I.1.2.2.2.1.2
    refine y_iload_n C dX1_dropFirst_2 rfl ?_
    refine y_aload_n C dX1_dropFirst_3 rfl ?_
    refine gR_X1_count C hB hR1 dX1_dropFirst_4 (by decide +kernel) (by decide +kernel) ?_
    refine y_topE (nI ne) (by rw [mDrI_lo (by decide)]; exact I.1.2.2.2.1.1) ?_
    refine y_icmp_ge (t := 24) C dX1_dropFirst_7 (by decide) (fun c7 => ?_) (fun c7 => absurd (by rw [show d + k = ne by omega]; exact Int32.le_refl _) c7)
    obtain rfl : k = ne - d := by omega
    exact kx σ1 hR1 hF1
  | succ n ih =>
    intro k hk
    intro σ1 hR1 hF1
    have he20 := I.1.2.2.2.1.2
    refine y_iload_n C dX1_dropFirst_2 rfl ?_
    refine y_aload_n C dX1_dropFirst_3 rfl ?_
    refine gR_X1_count C hB hR1 dX1_dropFirst_4 (by decide +kernel) (by decide +kernel) ?_
    refine y_topE (nI ne) (by rw [mDrI_lo (by decide)]; exact I.1.2.2.2.1.1) ?_
    refine y_icmp_ge (t := 24) C dX1_dropFirst_7 (by decide) (fun c7 => absurd c7 (nI_ge (by omega) (by omega))) (fun c7 => ?_)
    refine y_aload_n C dX1_dropFirst_10 rfl ?_
    refine y_iload_n C dX1_dropFirst_11 rfl ?_
    refine y_iload_n C dX1_dropFirst_12 rfl ?_
    refine y_iload_n C dX1_dropFirst_13 rfl ?_
    refine y_isub C dX1_dropFirst_14 ?_
    refine y_topE (nI k) (by rw [pk_sub (by omega)]; congr 1; omega) ?_
    refine y_callVv C (e_X1_moveEvent hB _ _ hR1 (d + k) k (by omega) (by omega) (by rw [mDrI_lo (by decide)]; exact inv_e I (by omega))) dX1_dropFirst_15 rfl gX1_dropFirst_X1_moveEvent rfl (is_X1 hB) ⟨rfl, qX1_moveEvent⟩ ⟨rfl, rfl⟩ ⟨Nat.le_of_ble_eq_true rfl, Nat.le_of_ble_eq_true rfl⟩ rfl (Nat.le_of_ble_eq_true rfl) ⟨Nat.zero_le _, Nat.zero_le _⟩ (fun σ2 τ2 hq => ?_)
    obtain ⟨hR2, hF2, rfl⟩ := hq
    rw [mDrI_step] at hR2
    refine y_iinc C dX1_dropFirst_18 (L' := [_, _, _]) rfl (nI_1 (d + k)) rfl ?_
    refine y_goto (t := 2) C dX1_dropFirst_21 (by decide) ?_
    exact ih (k + 1) (by omega) σ2 hR2 (hF1.trans hF2)
set_option maxHeartbeats 4000000 in
set_option maxRecDepth 100000 in
theorem e_X1_dropFirst {B : Nat} (hB : isW B) {r : Rw} (σ : xS) (τ : xT) (hR : Rel σ B r) {R ns nr ne t tl : Nat} (I : Inv r R ns nr ne t tl) (d : Nat) (hd : d ≤ ne) : Xv mX1_dropFirst [.ref (B + 21), .int (nI d)] σ τ (fun σ1 τ1 => Rel σ1 B (upd (mDrI r d (ne - d)) 12 (r 12 - nI d)) ∧ Fr (wS B) σ σ1 ∧ τ = τ1) := by
  have he20 := I.1.2.2.2.1.2
  refine Xv_mk (L := [some (.ref (B + 21)), some (.int (nI d)), none]) (by decide) rfl (Nat.le_of_ble_eq_true rfl) rfl (fun x C => ?_)
  refine y_iload_n C dX1_dropFirst_0 rfl ?_
  refine y_istore_n C dX1_dropFirst_1 (L' := [_, _, _]) (Nat.lt_of_lt_of_le (by decide : (2 : Nat) < 3) (Nat.le_refl _)) rfl ?_
  refine l_X1_dropFirst C hB σ τ hR I d hd (fun σ1 hR1 hF1 => ?_) _ 0 (Nat.zero_add _) σ (by rw [mDrI_0]; exact hR) Fr.rf
  refine y_aload_n C dX1_dropFirst_24 rfl ?_
  refine y_dup C dX1_dropFirst_25 rfl ?_
  refine gR_X1_count C hB hR1 dX1_dropFirst_26 (by decide +kernel) (by decide +kernel) ?_
  refine y_topE (r 12) (mDrI_lo (by decide)) ?_
  refine y_iload_n C dX1_dropFirst_29 rfl ?_
  refine y_isub C dX1_dropFirst_30 ?_
  refine pR_X1_count C hB hR1 (fun i hi => by
      refine Or.inr ?_
      unfold lvP at hi ⊢
      rw [upd_ne (by decide), upd_ne (by decide), upd_eq] at hi
      rw [show mDrI r d (ne - d) 12 = r 12 from mDrI_lo (by decide)]
      rcases hi with z | z | z | z
      · exact Or.inl z
      · exact Or.inr (Or.inl z)
      · exact Or.inr (Or.inr (Or.inl z))
      · refine Or.inr (Or.inr (Or.inr ⟨z.1, z.2.1, ?_⟩))
        have z2 := z.2.2
        rw [I.1.2.2.2.1.1, pk_sub hd] at z2
        rw [I.1.2.2.2.1.1]
        exact nI_lt (Nat.lt_of_lt_of_le ((nI_ltI (by omega) (by omega)).mp z2) (Nat.sub_le _ _)) (by omega)) dX1_dropFirst_31 (by decide +kernel) (by decide +kernel) (fun σ2 hR2 hF2 => ?_)
  exact y_vret C rfl dX1_dropFirst_34 (⟨hR2, hF1.trans hF2, rfl⟩)
set_option maxHeartbeats 4000000 in
set_option maxRecDepth 100000 in
theorem e_X7_takeEvent {B : Nat} (hB : isW B) {r : Rw} (σ : xS) (τ : xT) (hR : Rel σ B r) {R ns nr ne t tl : Nat} (I : Inv r R ns nr ne t tl) (i : Nat) (hi : i < ne) : Xv mX7_takeEvent [.ref B, .int (nI i)] σ τ (fun σ1 τ1 => Rel σ1 B (mEvK r i) ∧ Fr (wS B) σ σ1 ∧ τ = τ1) := by
  have hR4 := I.1.1.2.2
  have hs8 := I.1.2.1.2
  have he20 := I.1.2.2.2.1.2
  obtain ⟨-, e0, e1, e2, e3⟩ := I.2.2.2.1 i hi
  refine Xv_mk (L := [some (.ref B), some (.int (nI i)), none, none]) (by decide) rfl (Nat.le_of_ble_eq_true rfl) rfl (fun x C => ?_)
  refine y_aload_n C dX7_takeEvent_0 rfl ?_
  refine g_X7_events C hB dX7_takeEvent_1 (by decide +kernel) (by decide +kernel) ?_
  refine g_X1_a C hB dX7_takeEvent_4 (by decide +kernel) (by decide +kernel) ?_
  refine y_iload_n C dX7_takeEvent_7 rfl ?_
  refine aR C hB hR (145 + 4 * i + 2) 24 i 20 (pl_e _ (by have := I.1.2.2.2.1.2; omega) _ (by decide)) (lv_e (by have := I.1.2.2.2.1.2; omega) (by decide) (inv_e I hi)) (by decide) rfl (by decide) rfl (by have := I.1.2.2.2.1.2; omega) dX7_takeEvent_8 ?_
  refine y_istore_n C dX7_takeEvent_9 (L' := [_, _, _, _]) (Nat.lt_of_lt_of_le (by decide : (2 : Nat) < 4) (Nat.le_refl _)) rfl ?_
  refine y_aload_n C dX7_takeEvent_10 rfl ?_
  refine g_X7_events C hB dX7_takeEvent_11 (by decide +kernel) (by decide +kernel) ?_
  refine g_X1_b C hB dX7_takeEvent_14 (by decide +kernel) (by decide +kernel) ?_
  refine y_iload_n C dX7_takeEvent_17 rfl ?_
  refine aR C hB hR (145 + 4 * i + 3) 25 i 20 (pl_e _ (by have := I.1.2.2.2.1.2; omega) _ (by decide)) (lv_e (by have := I.1.2.2.2.1.2; omega) (by decide) (inv_e I hi)) (by decide) rfl (by decide) rfl (by have := I.1.2.2.2.1.2; omega) dX7_takeEvent_18 ?_
  refine y_istore_n C dX7_takeEvent_19 (L' := [_, _, _, _]) (Nat.lt_of_lt_of_le (by decide : (3 : Nat) < 4) (Nat.le_refl _)) rfl ?_
  refine y_aload_n C dX7_takeEvent_20 rfl ?_
  refine g_X7_events C hB dX7_takeEvent_21 (by decide +kernel) (by decide +kernel) ?_
  refine g_X1_kind C hB dX7_takeEvent_24 (by decide +kernel) (by decide +kernel) ?_
  refine y_iload_n C dX7_takeEvent_27 rfl ?_
  refine aR C hB hR (145 + 4 * i + 1) 23 i 20 (pl_e _ (by have := I.1.2.2.2.1.2; omega) _ (by decide)) (lv_e (by have := I.1.2.2.2.1.2; omega) (by decide) (inv_e I hi)) (by decide) rfl (by decide) rfl (by have := I.1.2.2.2.1.2; omega) dX7_takeEvent_28 ?_
  by_cases w29_0 : r (145 + 4 * i + 1) = 0
  ·
    refine y_tableIn (t := 60) C dX7_takeEvent_29 (by rw [w29_0]; decide) (by rw [w29_0]; decide) (by first | (rw [w29_0]; done) | (rw [w29_0]; rfl)) (by decide) ?_
    obtain ⟨a, b, ha, hb, hab, ea, eb⟩ := e0 w29_0
    have he : mEvK r i = mSets r a b (if mDoorI r a b = 0 then 1 else 0) := by
      simp only [mEvK, mEff]
      rw [if_pos w29_0, ea, eb, cN_nI (by omega), cN_nI (by omega)]
    rw [ea, eb]
    refine y_aload_n C dX7_takeEvent_60 rfl ?_
    refine g_X7_house C hB dX7_takeEvent_61 (by decide +kernel) (by decide +kernel) ?_
    refine y_iload_n C dX7_takeEvent_64 rfl ?_
    refine y_iload_n C dX7_takeEvent_65 rfl ?_
    refine y_callVv C (e_X3_turnDoor hB _ _ hR a b (by omega) (by omega) hab) dX7_takeEvent_66 rfl gX7_takeEvent_X3_turnDoor rfl (is_X3 hB) ⟨rfl, qX3_turnDoor⟩ ⟨rfl, rfl⟩ ⟨Nat.le_of_ble_eq_true rfl, Nat.le_of_ble_eq_true rfl⟩ rfl (Nat.le_of_ble_eq_true rfl) ⟨Nat.zero_le _, Nat.zero_le _⟩ (fun σ9 τ9 hq => ?_)
    obtain ⟨hR9, hF9, rfl⟩ := hq
    refine y_goto (t := 140) C dX7_takeEvent_69 (by decide) ?_
    exact y_vret C rfl dX7_takeEvent_140 (⟨by first | (rw [he]; exact hR9; done) | (rw [he, hfl.2, if_pos kc129]; exact hR9; done) | (rw [he, hfl.2, if_neg (fun z => z kc129)]; exact hR9), hF9, rfl⟩)
  by_cases w29_1 : r (145 + 4 * i + 1) = 1
  ·
    refine y_tableIn (t := 72) C dX7_takeEvent_29 (by rw [w29_1]; decide) (by rw [w29_1]; decide) (by first | (rw [w29_1]; done) | (rw [w29_1]; rfl)) (by decide) ?_
    have he : mEvK r i = upd r 8 (if 200 < r 8 + r (145 + 4 * i + 2) then 200 else r 8 + r (145 + 4 * i + 2)) := by
      simp only [mEvK, mEff]
      rw [if_neg w29_0, if_pos w29_1]
    refine y_aload_n C dX7_takeEvent_72 rfl ?_
    refine g_X7_hearth C hB dX7_takeEvent_73 (by decide +kernel) (by decide +kernel) ?_
    refine y_iload_n C dX7_takeEvent_76 rfl ?_
    refine y_callVv C (e_X2_feed hB _ _ hR _) dX7_takeEvent_77 rfl gX7_takeEvent_X2_feed rfl (is_X2 hB) ⟨rfl, qX2_feed⟩ ⟨rfl, rfl⟩ ⟨Nat.le_of_ble_eq_true rfl, Nat.le_of_ble_eq_true rfl⟩ rfl (Nat.le_of_ble_eq_true rfl) ⟨Nat.zero_le _, Nat.zero_le _⟩ (fun σ9 τ9 hq => ?_)
    obtain ⟨hR9, hF9, rfl⟩ := hq
    refine y_goto (t := 140) C dX7_takeEvent_80 (by decide) ?_
    exact y_vret C rfl dX7_takeEvent_140 (⟨by first | (rw [he]; exact hR9; done) | (rw [he, hfl.2, if_pos kc129]; exact hR9; done) | (rw [he, hfl.2, if_neg (fun z => z kc129)]; exact hR9), hF9, rfl⟩)
  by_cases w29_2 : r (145 + 4 * i + 1) = 2
  ·
    refine y_tableIn (t := 83) C dX7_takeEvent_29 (by rw [w29_2]; decide) (by rw [w29_2]; decide) (by first | (rw [w29_2]; done) | (rw [w29_2]; rfl)) (by decide) ?_
    have he : mEvK r i = upd r 0 (r (145 + 4 * i + 2)) := by
      simp only [mEvK, mEff]
      rw [if_neg w29_0, if_neg w29_1, if_pos w29_2]
    refine y_aload_n C dX7_takeEvent_83 rfl ?_
    refine g_X7_hearth C hB dX7_takeEvent_84 (by decide +kernel) (by decide +kernel) ?_
    refine y_iload_n C dX7_takeEvent_87 rfl ?_
    refine pR_X2_wind C hB hR dX7_takeEvent_88 (by decide +kernel) (by decide +kernel) (fun σ9 hR9 hF9 => ?_)
    refine y_goto (t := 140) C dX7_takeEvent_91 (by decide) ?_
    exact y_vret C rfl dX7_takeEvent_140 (⟨by first | (rw [he]; exact hR9; done) | (rw [he, hfl.2, if_pos kc129]; exact hR9; done) | (rw [he, hfl.2, if_neg (fun z => z kc129)]; exact hR9), hF9, rfl⟩)
  by_cases w29_3 : r (145 + 4 * i + 1) = 3
  ·
    refine y_tableIn (t := 94) C dX7_takeEvent_29 (by rw [w29_3]; decide) (by rw [w29_3]; decide) (by first | (rw [w29_3]; done) | (rw [w29_3]; rfl)) (by decide) ?_
    obtain ⟨a, ha, ea⟩ := e3 w29_3
    have he : mEvK r i = upd r (57 + 7 * a + 5) (r (145 + 4 * i + 3)) := by
      simp only [mEvK, mEff]
      rw [if_neg w29_0, if_neg w29_1, if_neg w29_2, if_pos w29_3, ea, cN_nI (by omega)]
    rw [ea]
    refine y_aload_n C dX7_takeEvent_94 rfl ?_
    refine g_X7_sensors C hB dX7_takeEvent_95 (by decide +kernel) (by decide +kernel) ?_
    refine y_iload_n C dX7_takeEvent_98 rfl ?_
    refine y_callVi C (e_X6_has hB _ _ hR _) dX7_takeEvent_99 rfl gX7_takeEvent_X6_has rfl (is_X6 hB) ⟨rfl, qX6_has⟩ ⟨rfl, rfl⟩ ⟨Nat.le_of_ble_eq_true rfl, Nat.le_of_ble_eq_true rfl⟩ rfl (Nat.le_of_ble_eq_true rfl) ⟨Nat.zero_le _, Nat.zero_le _⟩ (fun v1 σ1 τ1 hq => ?_)
    obtain ⟨rfl, rfl, rfl⟩ := hq
    refine y_topE 1 (by unfold mSensI; rw [if_pos ⟨nI_pos' (by omega), inv_s I ha⟩]) ?_
    refine y_if_eq (t := 140) C dX7_takeEvent_102 (by decide) (fun c102 => absurd c102 ((by decide))) (fun c102 => ?_)
    refine y_aload_n C dX7_takeEvent_105 rfl ?_
    refine g_X7_sensors C hB dX7_takeEvent_106 (by decide +kernel) (by decide +kernel) ?_
    refine g_X6_fault C hB dX7_takeEvent_109 (by decide +kernel) (by decide +kernel) ?_
    refine y_iload_n C dX7_takeEvent_112 rfl ?_
    refine y_iload_n C dX7_takeEvent_113 rfl ?_
    refine wR C hB hR (57 + 7 * a + 5) 11 a 8 (pl_s a (by omega) 5 (by decide)) (by omega) (by omega) (lv_upd (by omega) (by omega) (by omega)) (by decide) rfl (by decide) rfl (by omega) dX7_takeEvent_114 (fun σ9 hR9 hF9 => ?_)
    refine y_goto (t := 140) C dX7_takeEvent_115 (by decide) ?_
    exact y_vret C rfl dX7_takeEvent_140 (⟨by first | (rw [he]; exact hR9; done) | (rw [he, hfl.2, if_pos kc129]; exact hR9; done) | (rw [he, hfl.2, if_neg (fun z => z kc129)]; exact hR9), hF9, rfl⟩)
  refine y_tableOut (t := 118) C dX7_takeEvent_29 (by have q0 : ¬ (r (145 + 4 * i + 1)).toInt = 0 := lv_neT w29_0 (by decide); have q1 : ¬ (r (145 + 4 * i + 1)).toInt = 1 := lv_neT w29_1 (by decide); have q2 : ¬ (r (145 + 4 * i + 1)).toInt = 2 := lv_neT w29_2 (by decide); have q3 : ¬ (r (145 + 4 * i + 1)).toInt = 3 := lv_neT w29_3 (by decide); omega) (by decide) ?_
  have he : mEvK r i = upd r 3 (1 - r 3) := by
    simp only [mEvK, mEff]
    rw [if_neg w29_0, if_neg w29_1, if_neg w29_2, if_neg w29_3]
  have hfl := bool_flip I.2.2.2.2.2.1.2.2.1
  refine y_aload_n C dX7_takeEvent_118 rfl ?_
  refine g_X7_hearth C hB dX7_takeEvent_119 (by decide +kernel) (by decide +kernel) ?_
  refine y_aload_n C dX7_takeEvent_122 rfl ?_
  refine g_X7_hearth C hB dX7_takeEvent_123 (by decide +kernel) (by decide +kernel) ?_
  refine gR_X2_jammed C hB hR dX7_takeEvent_126 (by decide +kernel) (by decide +kernel) ?_
  refine y_if_ne (t := 136) C dX7_takeEvent_129 (by decide) (fun kc129 => ?_) (fun kc129 => ?_)
  · -- t
    refine y_iconst (v := 0) C dX7_takeEvent_136 (by decide) ?_
    refine pR_X2_jammed C hB hR (by first | exact Or.inl rfl | exact Or.inr rfl) dX7_takeEvent_137 (by decide +kernel) (by decide +kernel) (fun σ9 hR9 hF9 => ?_)
    exact y_vret C rfl dX7_takeEvent_140 (⟨by first | (rw [he]; exact hR9; done) | (rw [he, hfl.2, if_pos kc129]; exact hR9; done) | (rw [he, hfl.2, if_neg (fun z => z kc129)]; exact hR9), hF9, rfl⟩)
  · -- f
    refine y_iconst (v := 1) C dX7_takeEvent_132 (by decide) ?_
    refine y_goto (t := 137) C dX7_takeEvent_133 (by decide) ?_
    refine pR_X2_jammed C hB hR (by first | exact Or.inl rfl | exact Or.inr rfl) dX7_takeEvent_137 (by decide +kernel) (by decide +kernel) (fun σ9 hR9 hF9 => ?_)
    exact y_vret C rfl dX7_takeEvent_140 (⟨by first | (rw [he]; exact hR9; done) | (rw [he, hfl.2, if_pos kc129]; exact hR9; done) | (rw [he, hfl.2, if_neg (fun z => z kc129)]; exact hR9), hF9, rfl⟩)
set_option maxHeartbeats 4000000 in
set_option maxRecDepth 100000 in
theorem l_X7_takeEvents {x : xC} (C : Cx x mX7_takeEvents) {B : Nat} (hB : isW B) {r : Rw} (σ : xS) (τ : xT) (hR : Rel σ B r) {R ns nr ne t tl : Nat} (I : Inv r R ns nr ne t tl) (d : Nat) (hd : d ≤ ne) {Z : State → Prop} (kx : ∀ σ1 : xS, Rel σ1 B (mEffN r d) → Fr (wS B) σ σ1 → Y x 30 [some (.ref B), some (.int (nI d)), some (.int (nI d))] [] σ1 τ 0 0 Z) : ∀ n k : Nat, k + n = d → ∀ σ1 : xS, Rel σ1 B (mEffN r k) → Fr (wS B) σ σ1 → Y x 14 [some (.ref B), some (.int (nI d)), some (.int (nI k))] [] σ1 τ 0 0 Z := by
  intro n
  induction n with
  | zero =>
    intro k hk
    intro σ1 hR1 hF1
    have he20 := I.1.2.2.2.1.2
    refine y_iload_n C dX7_takeEvents_14 rfl ?_
    refine y_iload_n C dX7_takeEvents_15 rfl ?_
    refine y_icmp_ge (t := 30) C dX7_takeEvents_16 (by decide) (fun c16 => ?_) (fun c16 => absurd (by rw [show k = d by omega]; exact Int32.le_refl _) c16)
    obtain rfl : k = d := by omega
    exact kx σ1 hR1 hF1
  | succ n ih =>
    intro k hk
    intro σ1 hR1 hF1
    have he20 := I.1.2.2.2.1.2
    refine y_iload_n C dX7_takeEvents_14 rfl ?_
    refine y_iload_n C dX7_takeEvents_15 rfl ?_
    refine y_icmp_ge (t := 30) C dX7_takeEvents_16 (by decide) (fun c16 => absurd c16 (nI_ge (by omega) (by omega))) (fun c16 => ?_)
    refine y_aload_n C dX7_takeEvents_19 rfl ?_
    refine y_iload_n C dX7_takeEvents_20 rfl ?_
    refine y_callVv C (e_X7_takeEvent hB _ _ hR1 (effN_inv I k (by omega)).1 k (by omega)) dX7_takeEvents_21 rfl gX7_takeEvents_X7_takeEvent rfl (is_X7 hB) ⟨rfl, qX7_takeEvent⟩ ⟨rfl, rfl⟩ ⟨Nat.le_of_ble_eq_true rfl, Nat.le_of_ble_eq_true rfl⟩ rfl (Nat.le_of_ble_eq_true rfl) ⟨Nat.zero_le _, Nat.zero_le _⟩ (fun σ2 τ2 hq => ?_)
    obtain ⟨hR2, hF2, rfl⟩ := hq
    refine y_iinc C dX7_takeEvents_24 (L' := [_, _, _]) rfl (nI_1 k) rfl ?_
    refine y_goto (t := 14) C dX7_takeEvents_27 (by decide) ?_
    exact ih (k + 1) (by omega) σ2 hR2 (hF1.trans hF2)
set_option maxHeartbeats 4000000 in
set_option maxRecDepth 100000 in
theorem e_X7_takeEvents {B : Nat} (hB : isW B) {r : Rw} (σ : xS) (τ : xT) (hR : Rel σ B r) {R ns nr ne t tl : Nat} (I : Inv r R ns nr ne t tl) : Xv mX7_takeEvents [.ref B] σ τ (fun σ1 τ1 => Rel σ1 B (mComes r) ∧ Fr (wS B) σ σ1 ∧ τ = τ1) := by
  have he20 := I.1.2.2.2.1.2
  have hdue := mDue_le I
  have hEff := effN_inv I (mDue r) hdue
  refine Xv_mk (L := [some (.ref B), none, none]) (by decide) rfl (Nat.le_of_ble_eq_true rfl) rfl (fun x C => ?_)
  refine y_aload_n C dX7_takeEvents_0 rfl ?_
  refine g_X7_events C hB dX7_takeEvents_1 (by decide +kernel) (by decide +kernel) ?_
  refine y_aload_n C dX7_takeEvents_4 rfl ?_
  refine gR_X7_minute C hB hR dX7_takeEvents_5 (by decide +kernel) (by decide +kernel) ?_
  refine y_callVi C (e_X1_dueIn hB _ _ hR I) dX7_takeEvents_8 rfl gX7_takeEvents_X1_dueIn rfl (is_X1 hB) ⟨rfl, qX1_dueIn⟩ ⟨rfl, rfl⟩ ⟨Nat.le_of_ble_eq_true rfl, Nat.le_of_ble_eq_true rfl⟩ rfl (Nat.le_of_ble_eq_true rfl) ⟨Nat.zero_le _, Nat.zero_le _⟩ (fun v1 σ1 τ1 hq => ?_)
  obtain ⟨rfl, rfl, rfl⟩ := hq
  refine y_istore_n C dX7_takeEvents_11 (L' := [_, _, _]) (Nat.lt_of_lt_of_le (by decide : (1 : Nat) < 3) (Nat.le_refl _)) rfl ?_
  refine y_iconst (v := 0) C dX7_takeEvents_12 (by decide) ?_
  refine y_istore_n C dX7_takeEvents_13 (L' := [_, _, _]) (Nat.lt_of_lt_of_le (by decide : (2 : Nat) < 3) (Nat.le_refl _)) rfl ?_
  refine l_X7_takeEvents C hB σ τ hR I (mDue r) hdue (fun σ1 hR1 hF1 => ?_) _ 0 (Nat.zero_add _) σ hR Fr.rf
  refine y_aload_n C dX7_takeEvents_30 rfl ?_
  refine g_X7_events C hB dX7_takeEvents_31 (by decide +kernel) (by decide +kernel) ?_
  refine y_iload_n C dX7_takeEvents_34 rfl ?_
  refine y_callVv C (e_X1_dropFirst hB _ _ hR1 hEff.1 (mDue r) hdue) dX7_takeEvents_35 rfl gX7_takeEvents_X1_dropFirst rfl (is_X1 hB) ⟨rfl, qX1_dropFirst⟩ ⟨rfl, rfl⟩ ⟨Nat.le_of_ble_eq_true rfl, Nat.le_of_ble_eq_true rfl⟩ rfl (Nat.le_of_ble_eq_true rfl) ⟨Nat.zero_le _, Nat.zero_le _⟩ (fun σ2 τ2 hq => ?_)
  obtain ⟨hR2, hF2, rfl⟩ := hq
  refine y_aload_n C dX7_takeEvents_38 rfl ?_
  refine g_X7_counts C hB dX7_takeEvents_39 (by decide +kernel) (by decide +kernel) ?_
  refine y_iconst (v := 2) C dX7_takeEvents_42 (by decide) ?_
  refine y_dup2 C dX7_takeEvents_43 rfl rfl ?_
  refine aR C hB hR2 15 26 2 6 rfl (lv_l (by decide) (by decide)) (by decide) rfl (by decide) rfl (by decide) dX7_takeEvents_44 ?_
  refine y_topE (r 15) (by rw [upd_ne (by decide), mDrI_lo (by decide)]; exact hEff.2 15 (by omega)) ?_
  refine y_iload_n C dX7_takeEvents_45 rfl ?_
  refine y_iadd C dX7_takeEvents_46 ?_
  refine wR C hB hR2 (15) 26 2 6 rfl (by omega) (by omega) (lv_upd (by omega) (by omega) (by omega)) (by decide) rfl (by decide) rfl (by omega) dX7_takeEvents_47 (fun σ3 hR3 hF3 => ?_)
  exact y_vret C rfl dX7_takeEvents_48 (⟨by rw [hEff.2 12 (by omega)] at hR3; exact hR3.comes I hdue, (hF1.trans hF2).trans hF3, rfl⟩)
