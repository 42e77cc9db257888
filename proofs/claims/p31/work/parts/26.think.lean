/-! THOUGHTS -/
def mMinN (r : Rw) : Nat → Rw
  | 0 => r
  | n + 1 => mMinN (mMin r) n
def mNewN (r : Rw) : Nat → Int32 → Int32
  | 0, b => b
  | n + 1, b => mNewN (mMin r) n (b + mNew r)
def mFaF (i : Nat) : Rw → Nat → Nat → Int32
  | _, _, 0 => -1
  | r, k, n + 1 => if ¬ mAlaI (mMin r) i = 0 then nI (k + 1) else mFaF i (mMin r) (k + 1) n
def mBuF : Rw → Nat → Nat → Int32
  | _, _, 0 => -1
  | r, k, n + 1 => if mMin r 8 = 0 then nI (k + 1) else mBuF (mMin r) (k + 1) n
def mPkF (i : Nat) : Rw → Nat → Int32 → Int32
  | _, 0, m => m
  | r, n + 1, m => mPkF i (mMin r) n (if m < mMin r (20 + i) then mMin r (20 + i) else m)
def mPk0 (r : Rw) (o : Int32) : Rw := upd (upd (upd r 11 0) 4 o) 9 o
def mPk (r : Rw) (i : Nat) (o : Int32) (n : Nat) : Int32 := mPkF i (mPk0 r o) n 0
theorem lv_clr {r : Rw} (i : Nat) (h : lvP (upd r 11 0) i) : i = 11 ∨ lvP r i := by
  refine Or.inr ?_
  unfold lvP at h ⊢
  rw [upd_ne (by decide), upd_eq, upd_ne (by decide)] at h
  rcases h with z | z | z | z
  · exact Or.inl z
  · exact Or.inr (Or.inl z)
  · exact absurd z.2.2 (nI_pos (by omega))
  · exact Or.inr (Or.inr (Or.inr z))
theorem Inv.cnt {r : Rw} {R ns nr ne t tl nr' : Nat} (I : Inv r R ns nr ne t tl) (h : nr' ≤ nr) : Inv (upd r 11 (nI nr')) R ns nr' ne t tl := by
  obtain ⟨⟨⟨a1, a2, a3⟩, ⟨a4, a5⟩, ⟨a6, a7⟩, ⟨a8, a9⟩, ⟨a10, a11⟩⟩, b1, b2, b3, b4, ⟨c0, c2, c3, c4, c5, c8, c9⟩, d1, d2⟩ := I
  have u : ∀ i, ¬ i = 11 → upd r 11 (nI nr') i = r i := fun i h => upd_ne h
  refine ⟨⟨⟨by rw [u 6 (by decide)]; exact a1, a2, a3⟩, ⟨by rw [u 10 (by decide)]; exact a4, a5⟩, ⟨upd_eq, by omega⟩, ⟨by rw [u 12 (by decide)]; exact a8, a9⟩, ⟨by rw [u 7 (by decide)]; exact a10, a11⟩⟩, fun k hk => ?_, fun k hk => ?_, fun k hk => ?_, fun k hk => ?_, ⟨?_, ?_, ?_, ?_, ?_, ?_, ?_⟩, fun i hi => ⟨?_, ?_, ?_⟩, fun k hk => ?_⟩
  · rw [u _ (by omega)]; exact b1 k hk
  · rw [u _ (by omega)]; exact b2 k (by omega)
  · unfold EvOk
    rw [u (145 + 4 * k + 0) (by omega), u (145 + 4 * k + 1) (by omega), u (145 + 4 * k + 2) (by omega), u (145 + 4 * k + 3) (by omega)]
    exact b3 k hk
  · rw [u _ (by omega), u _ (by omega)]; exact b4 k hk
  · rw [u 0 (by decide)]; exact c0
  · rw [u 2 (by decide)]; exact c2
  · rw [u 3 (by decide)]; exact c3
  · rw [u 4 (by decide)]; exact c4
  · rw [u 5 (by decide)]; exact c5
  · rw [u 8 (by decide)]; exact c8
  · rw [u 9 (by decide)]; exact c9
  · rw [u _ (by omega)]; exact (d1 i hi).1
  · rw [u _ (by omega)]; exact (d1 i hi).2.1
  · rw [u _ (by omega)]; exact (d1 i hi).2.2
  · rw [u _ (by omega)]; exact d2 k (by omega)
theorem Inv.pk0 {r : Rw} {R ns nr ne t tl : Nat} (I : Inv r R ns nr ne t tl) {o : Int32} (ho : 0 ≤ o ∧ o ≤ 8) : Inv (mPk0 r o) R ns 0 ne t tl := by
  have I0 : Inv (upd r 11 0) R ns 0 ne t tl := I.cnt (Nat.zero_le nr)
  have I1 := I0.set1 4 o (by omega) (by omega) (by omega) (by omega) (fun _ => ho) (by omega) (by omega) (by omega) (by omega) (by omega) (by omega)
  exact I1.set1 9 o (by omega) (by omega) (by omega) (by omega) (by omega) (by omega) (by omega) (fun _ => ho) (by omega) (by omega) (by omega)
theorem Sk.pk0 {r : Rw} (h : Sk r) (o : Int32) : Sk (mPk0 r o) := by
  intro i hi
  unfold mPk0
  rw [upd_ne (by omega), upd_ne (by omega), upd_ne (by omega)]
  exact h i hi
