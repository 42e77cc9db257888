/-! THE MATHEMATICS: the model's row r (225 ints), what its methods answer and make of it; Rel: a world of the class holds the row; Inv: what stays true of a row -/
abbrev Rw : Type := Nat → Int32
def bI (p : Prop) [Decidable p] : Int32 := if p then 1 else 0
theorem bI_01 (p : Prop) [Decidable p] : bI p = 0 ∨ bI p = 1 := by
  unfold bI
  by_cases h : p
  · exact Or.inr (if_pos h)
  · exact Or.inl (if_neg h)
theorem bI_t {p : Prop} [Decidable p] (h : p) : (1 : Int32) = bI p := (if_pos h).symm
theorem bI_f {p : Prop} [Decidable p] (h : ¬ p) : (0 : Int32) = bI p := (if_neg h).symm
theorem bI_eq0 {p : Prop} [Decidable p] : bI p = 0 ↔ ¬ p := by
  unfold bI
  by_cases h : p <;> simp [h]
theorem bI_ne0 {p : Prop} [Decidable p] : ¬ bI p = 0 ↔ p := by
  rw [bI_eq0, Decidable.not_not]
def plL : List (Nat × Nat) := [(4, 2), (13, 0), (13, 1), (4, 5), (4, 3), (4, 1), (1, 0), (0, 0), (4, 0), (4, 4), (5, 0), (16, 0), (21, 0), (26, 0), (26, 1), (26, 2), (26, 3), (26, 4), (26, 5), (3, 9), (2, 0), (2, 1), (2, 2), (2, 3), (14, 0), (14, 1), (14, 2), (14, 3), (15, 0), (15, 1), (15, 2), (15, 3)]
/-- where the class keeps the row's number j -/
def pl (j : Nat) : Nat × Nat := if j < 32 then plL.getD j (0, 0) else if j < 57 then (3, 10 + j) else if j < 113 then (6 + (j - 57) % 7, (j - 57) / 7) else if j < 145 then (17 + (j - 113) % 4, (j - 113) / 4) else (22 + (j - 145) % 4, (j - 145) / 4)
theorem pl_inj : ∀ i, i < 225 → ∀ j, j < 225 → pl i = pl j → i = j := by decide +kernel
theorem pl_27 : ∀ i, i < 225 → (pl i).1 < 27 := by decide +kernel
theorem pl_door : ∀ i, i < 225 → ¬ pl i = (1, 2) := by decide +kernel
/-- the row's numbers that mean something: not those behind the last sensor, rule, event; not the doors, which the class keeps as bits -/
def lvP (r : Rw) (j : Nat) : Prop := (j < 32 ∧ j ≠ 19) ∨ (57 ≤ j ∧ j < 113 ∧ nI ((j - 57) / 7) < r 10) ∨ (113 ≤ j ∧ j < 145 ∧ nI ((j - 113) / 4) < r 11) ∨ (145 ≤ j ∧ j < 225 ∧ nI ((j - 145) / 4) < r 12)
theorem lv_lt5 {r : Rw} {j : Nat} (h : lvP r j) : j < 225 := by
  rcases h with h | h | h | h <;> omega
/-- the bit of the door between a and b, as the class makes it -/
def xbit (a b : Nat) : Int32 := (1 : Int32) <<< ((if a < b then nI (a * 5 + b) else nI (b * 5 + a)) &&& 31)
def Rel (σ : xS) (B : Nat) (r : Rw) : Prop := (∀ j, lvP r j → σ (B + (pl j).1) (pl j).2 = r j) ∧ ∀ a b, a < 5 → b < 5 → a ≠ b → (¬ (σ (B + 1) 2 &&& xbit a b) = 0 ↔ r (32 + 5 * a + b) = 1)
/-- nothing but the cells S has changed -/
def Fr (S : Nat → Prop) (σ σ1 : xS) : Prop := ∀ a, ¬ S a → σ1 a = σ a
theorem Fr.rf {S : Nat → Prop} {σ : xS} : Fr S σ σ := fun _ _ => rfl
theorem Fr.trans {S : Nat → Prop} {σ σ1 σ2 : xS} (h1 : Fr S σ σ1) (h2 : Fr S σ1 σ2) : Fr S σ σ2 := fun a h => (h2 a h).trans (h1 a h)
theorem Fr.mono {S T : Nat → Prop} {σ σ1 : xS} (h : Fr S σ σ1) (hs : ∀ a, S a → T a) : Fr T σ σ1 := fun a ha => h a (fun q => ha (hs a q))
theorem Fr.ups {S : Nat → Prop} {σ : xS} {k : Nat} {f : Nat → Int32} (h : S k) : Fr S σ (ups σ k f) := fun a ha => ups_ne (fun e => ha (e ▸ h))
/-- the cells of the world at B -/
def wS (B : Nat) : Nat → Prop := fun a => B ≤ a ∧ a < B + 27
theorem wS_in {B d : Nat} (h : d < 27) : wS B (B + d) := ⟨by omega, by omega⟩
theorem Rel.at {σ : xS} {B : Nat} {r : Rw} (h : Rel σ B r) (j : Nat) (hj : lvP r j) : σ (B + (pl j).1) (pl j).2 = r j := h.1 j hj
theorem Rel.lo {σ : xS} {B : Nat} {r : Rw} (h : Rel σ B r) (j : Nat) (hj : j < 32) (h19 : j ≠ 19) : σ (B + (pl j).1) (pl j).2 = r j := h.1 j (Or.inl ⟨hj, h19⟩)
theorem Rel.put {σ : xS} {B : Nat} {r : Rw} (h : Rel σ B r) (j : Nat) (v : Int32) (hj : j < 225) (hd : ¬ (32 ≤ j ∧ j < 57)) (hl : ∀ i, lvP (upd r j v) i → i = j ∨ lvP r i) : Rel (ups σ (B + (pl j).1) (upd (σ (B + (pl j).1)) (pl j).2 v)) B (upd r j v) := by
  refine ⟨fun i hi => ?_, fun a b ha hb hab => ?_⟩
  · by_cases e : i = j
    · subst e
      rw [ups_eq]
      simp [upd]
    · have hi2 : lvP r i := (hl i hi).resolve_left e
      have h225 := lv_lt5 hi2
      have e2 : upd r j v i = r i := by simp [upd, e]
      rw [e2, ← h.1 i hi2]
      by_cases e3 : (pl i).1 = (pl j).1
      · rw [e3, ups_eq]
        have e4 : ¬ (pl i).2 = (pl j).2 := fun q => e (pl_inj i h225 j hj (Prod.ext e3 q))
        simp [upd, e4]
      · rw [ups_ne (by omega)]
  · have e2 : upd r j v (32 + 5 * a + b) = r (32 + 5 * a + b) := by
      have : ¬ 32 + 5 * a + b = j := by omega
      simp [upd, this]
    rw [e2, ← h.2 a b ha hb hab]
    have e3 : (ups σ (B + (pl j).1) (upd (σ (B + (pl j).1)) (pl j).2 v)) (B + 1) 2 = σ (B + 1) 2 := by
      by_cases e : 1 = (pl j).1
      · rw [e, ups_eq]
        have : ¬ 2 = (pl j).2 := fun q => pl_door j hj (Prod.ext e.symm q.symm)
        simp [upd, this]
      · rw [ups_ne (by omega)]
    rw [e3]
theorem lv_upd {r : Rw} {j : Nat} {v : Int32} (h0 : j ≠ 10) (h1 : j ≠ 11) (h2 : j ≠ 12) (i : Nat) (h : lvP (upd r j v) i) : i = j ∨ lvP r i := by
  refine Or.inr ?_
  have e0 : upd r j v 10 = r 10 := by simp [upd, Ne.symm h0]
  have e1 : upd r j v 11 = r 11 := by simp [upd, Ne.symm h1]
  have e2 : upd r j v 12 = r 12 := by simp [upd, Ne.symm h2]
  unfold lvP at h ⊢
  rw [e0, e1, e2] at h
  exact h
/-- the world at B elsewhere untouched -/
theorem Rel.kept {σ σ1 : xS} {B : Nat} {r : Rw} {S : Nat → Prop} (h : Rel σ B r) (hF : Fr S σ σ1) (hS : ∀ a, B ≤ a → a < B + 27 → ¬ S a) : Rel σ1 B r := by
  refine ⟨fun j hj => ?_, fun a b ha hb hab => ?_⟩
  · have := pl_27 j (lv_lt5 hj)
    rw [hF _ (hS _ (by omega) (by omega))]
    exact h.1 j hj
  · rw [hF _ (hS (B + 1) (by omega) (by omega))]
    exact h.2 a b ha hb hab
def mLes (a b : Int32) : Int32 := if a < b then a else b
def mStr (r : Rw) : Int32 := if r 8 = 0 then 0 else 1 + r 8 / 25
def mDra (r : Rw) : Int32 := if r 5 * r 4 / 8 - r 0 < 0 then 0 else r 5 * r 4 / 8 - r 0
/-! THE MODEL'S ANSWERS, as functions of its row; booleans are 0 and 1 -/
def cN (x : Int32) : Nat := x.toNatClampNeg
theorem cN_nI {n : Nat} (h : n < 2 ^ 31) : cN (nI n) = n := nI_clamp h
def mWithI (v lo hi : Int32) : Int32 := if lo ≤ v ∧ v ≤ hi then 1 else 0
def mDoorI (r : Rw) (a b : Nat) : Int32 := if r (32 + 5 * a + b) = 1 then 1 else 0
def mVotI (r : Rw) (k : Nat) : Int32 := if r (57 + 7 * k + 5) = 2 ∨ (r (57 + 7 * k + 5) = 0 ∧ r (57 + 7 * k + 3) < r (57 + 7 * k + 6)) then 1 else 0
def mExcI (r : Rw) (k : Nat) : Int32 := if r (57 + 7 * k + 1) = 0 then (if r (57 + 7 * k + 2) ≤ r (20 + cN (r (57 + 7 * k + 0))) then 1 else 0) else if r (57 + 7 * k + 1) = 1 then (if mDra r < r (57 + 7 * k + 2) ∧ 0 < mStr r then 1 else 0) else (if r (57 + 7 * k + 2) ≤ r 5 then 1 else 0)
def mVts (r : Rw) (room : Int32) : Nat → Int32
  | 0 => 0
  | k + 1 => if r (57 + 7 * k + 0) = room ∧ ¬ mVotI r k = 0 then mVts r room k ||| ((1 : Int32) <<< (nI k &&& 31)) else mVts r room k
def mWei (r : Rw) (set : Int32) : Nat → Int32
  | 0 => 0
  | k + 1 => mWei r set k + (if (set >>> (nI k &&& 31)) &&& 1 = 1 then r (57 + 7 * k + 4) else 0)
def mMny (set : Int32) : Nat → Int32
  | 0 => 0
  | k + 1 => mMny set k + ((set >>> (nI k &&& 31)) &&& 1)
def mAgrI (r : Rw) (room : Int32) : Int32 := if 2 ≤ mMny (mVts r room (cN (r 10))) 8 ∧ r 1 ≤ mWei r (mVts r room (cN (r 10))) (cN (r 10)) then 1 else 0
def mAlaI (r : Rw) (i : Nat) : Int32 := if 0 < r (24 + i) ∧ r (28 + i) = 0 then 1 else 0
def mAppI (r : Rw) (k : Nat) : Int32 := if r (113 + 4 * k + 0) = 0 then (if r (113 + 4 * k + 2) ≤ r (20 + cN (r (113 + 4 * k + 1))) then 1 else 0) else if r (113 + 4 * k + 0) = 1 then (if mDra r < r (113 + 4 * k + 2) then 1 else 0) else if r (113 + 4 * k + 0) = 2 then mAlaI r (cN (r (113 + 4 * k + 1))) else (if mStr r ≤ r (113 + 4 * k + 2) then 1 else 0)
def mFs (r : Rw) : Nat → Nat → Int32
  | _, 0 => -1
  | k, f + 1 => if ¬ mAppI r k = 0 then nI k else mFs r (k + 1) f
def mFst (r : Rw) : Int32 := mFs r 0 (cN (r 11))
theorem mDoorI_01 (r : Rw) (a b : Nat) : mDoorI r a b = 0 ∨ mDoorI r a b = 1 := by unfold mDoorI; split <;> simp
theorem mWithI_01 (v lo hi : Int32) : mWithI v lo hi = 0 ∨ mWithI v lo hi = 1 := by unfold mWithI; split <;> simp
theorem mVotI_01 (r : Rw) (k : Nat) : mVotI r k = 0 ∨ mVotI r k = 1 := by unfold mVotI; split <;> simp
theorem mExcI_01 (r : Rw) (k : Nat) : mExcI r k = 0 ∨ mExcI r k = 1 := by unfold mExcI; split <;> (try split) <;> (try split) <;> simp
theorem mAgrI_01 (r : Rw) (a : Int32) : mAgrI r a = 0 ∨ mAgrI r a = 1 := by unfold mAgrI; split <;> simp
theorem mAlaI_01 (r : Rw) (i : Nat) : mAlaI r i = 0 ∨ mAlaI r i = 1 := by unfold mAlaI; split <;> simp
theorem mAppI_01 (r : Rw) (k : Nat) : mAppI r k = 0 ∨ mAppI r k = 1 := by
  unfold mAppI
  split
  · split <;> simp
  · split
    · split <;> simp
    · split
      · exact mAlaI_01 _ _
      · split <;> simp
/-- what is true of an event k of the row r: its minute is tl or later, and what it names is there -/
def EvOk (r : Rw) (R ns tl k : Nat) : Prop := (∃ m, r (145 + 4 * k + 0) = nI m ∧ tl ≤ m ∧ m ≤ 2000000) ∧ (r (145 + 4 * k + 1) = 0 → ∃ a b, a < R ∧ b ≤ R ∧ a ≠ b ∧ r (145 + 4 * k + 2) = nI a ∧ r (145 + 4 * k + 3) = nI b) ∧ (r (145 + 4 * k + 1) = 1 → 1 ≤ r (145 + 4 * k + 2) ∧ r (145 + 4 * k + 2) ≤ 200) ∧ (r (145 + 4 * k + 1) = 2 → 0 ≤ r (145 + 4 * k + 2) ∧ r (145 + 4 * k + 2) ≤ 60) ∧ (r (145 + 4 * k + 1) = 3 → ∃ a, a < ns ∧ r (145 + 4 * k + 2) = nI a)
/-- what stays true of the row: R rooms, ns sensors, nr rules, ne events, the minute t, events from tl on -/
def Inv (r : Rw) (R ns nr ne t tl : Nat) : Prop := ((r 6 = nI R ∧ 1 ≤ R ∧ R ≤ 4) ∧ (r 10 = nI ns ∧ ns ≤ 8) ∧ (r 11 = nI nr ∧ nr ≤ 8) ∧ (r 12 = nI ne ∧ ne ≤ 20) ∧ (r 7 = nI t ∧ t ≤ 1000000)) ∧
  (∀ k, k < ns → ∃ p, p < R ∧ r (57 + 7 * k + 0) = nI p) ∧ (∀ k, k < nr → ∃ p, p < R ∧ r (113 + 4 * k + 1) = nI p) ∧ (∀ k, k < ne → EvOk r R ns tl k) ∧ (∀ k, k + 1 < ne → r (145 + 4 * k + 0) ≤ r (145 + 4 * (k + 1) + 0)) ∧
  ((0 ≤ r 0 ∧ r 0 ≤ 60) ∧ (0 ≤ r 2 ∧ r 2 ≤ 30) ∧ (r 3 = 0 ∨ r 3 = 1) ∧ (0 ≤ r 4 ∧ r 4 ≤ 8) ∧ (0 ≤ r 5 ∧ r 5 ≤ 999) ∧ (0 ≤ r 8 ∧ r 8 ≤ 200) ∧ (0 ≤ r 9 ∧ r 9 ≤ 8)) ∧
  (∀ i, i < 4 → (0 ≤ r (20 + i) ∧ r (20 + i) ≤ 110000) ∧ (0 ≤ r (24 + i) ∧ r (24 + i) ≤ 31) ∧ (0 ≤ r (28 + i) ∧ r (28 + i) ≤ 60)) ∧ (∀ k, k < nr → 0 ≤ r (113 + 4 * k + 3) ∧ r (113 + 4 * k + 3) ≤ 8)
theorem nI_lt' {a b : Nat} (h : a < b) (hb : b < 2 ^ 31) : nI a < nI b := nI_lt h hb
theorem inv_s {r : Rw} {R ns nr ne t tl : Nat} (I : Inv r R ns nr ne t tl) {k : Nat} (h : k < ns) : nI k < r 10 := by
  rw [I.1.2.1.1]
  exact nI_lt h (by have := I.1.2.1.2; omega)
theorem inv_r {r : Rw} {R ns nr ne t tl : Nat} (I : Inv r R ns nr ne t tl) {k : Nat} (h : k < nr) : nI k < r 11 := by
  rw [I.1.2.2.1.1]
  exact nI_lt h (by have := I.1.2.2.1.2; omega)
theorem inv_e {r : Rw} {R ns nr ne t tl : Nat} (I : Inv r R ns nr ne t tl) {k : Nat} (h : k < ne) : nI k < r 12 := by
  rw [I.1.2.2.2.1.1]
  exact nI_lt h (by have := I.1.2.2.2.1.2; omega)
theorem inv_cs {r : Rw} {R ns nr ne t tl : Nat} (I : Inv r R ns nr ne t tl) : cN (r 10) = ns := by
  rw [I.1.2.1.1]
  exact cN_nI (by have := I.1.2.1.2; omega)
theorem inv_cr {r : Rw} {R ns nr ne t tl : Nat} (I : Inv r R ns nr ne t tl) : cN (r 11) = nr := by
  rw [I.1.2.2.1.1]
  exact cN_nI (by have := I.1.2.2.1.2; omega)
def mRoomI (r : Rw) (u : Int32) : Int32 := if 0 ≤ u ∧ u < r 6 then 1 else 0
def mPlacI (r : Rw) (u : Int32) : Int32 := if 0 ≤ u ∧ u ≤ r 6 then 1 else 0
def mSensI (r : Rw) (u : Int32) : Int32 := if 0 ≤ u ∧ u < r 10 then 1 else 0
def mNum (r : Rw) (w : Int32) : Int32 := if w = 9 then mStr r else if w = 10 then r 9 else if w = 11 then mDra r else if w = 12 then r 10 else if w = 13 then r 11 else if w = 14 then r 12 else r (cN w)
def mRooT (r : Rw) (i : Nat) (w : Int32) : Int32 := if w = 0 then r (20 + i) else if w = 1 then r (24 + i) else if w = 2 then r (28 + i) else if w = 3 then mAlaI r i else if w = 4 then mAgrI r (nI i) else if w = 5 then mVts r (nI i) (cN (r 10)) else mWei r (mVts r (nI i) (cN (r 10))) (cN (r 10))
def mSenT (r : Rw) (k : Nat) (w : Int32) : Int32 := if w = 7 then mExcI r k else if w = 8 then mVotI r k else r (57 + 7 * k + cN w)
def mEvtI (r : Rw) (kd a b : Int32) : Int32 := if kd = 0 then (if (0 ≤ a ∧ a < r 6) ∧ (0 ≤ b ∧ b ≤ r 6) ∧ ¬ a = b then 1 else 0) else if kd = 1 then (if (1 ≤ a ∧ a ≤ 200) ∧ b = 0 then 1 else 0) else if kd = 2 then (if (0 ≤ a ∧ a ≤ 60) ∧ b = 0 then 1 else 0) else if kd = 3 then (if (0 ≤ a ∧ a < r 10) ∧ (0 ≤ b ∧ b ≤ 2) then 1 else 0) else if kd = 4 then (if a = 0 ∧ b = 0 then 1 else 0) else 0
theorem mRoomI_01 (r : Rw) (u : Int32) : mRoomI r u = 0 ∨ mRoomI r u = 1 := by unfold mRoomI; split <;> simp
theorem mPlacI_01 (r : Rw) (u : Int32) : mPlacI r u = 0 ∨ mPlacI r u = 1 := by unfold mPlacI; split <;> simp
theorem mSensI_01 (r : Rw) (u : Int32) : mSensI r u = 0 ∨ mSensI r u = 1 := by unfold mSensI; split <;> simp
theorem mEvtI_01 (r : Rw) (k a b : Int32) : mEvtI r k a b = 0 ∨ mEvtI r k a b = 1 := by unfold mEvtI; (repeat' split) <;> simp
theorem with_pred {n : Nat} (h : n < 2 ^ 30) (u : Int32) : mWithI u 0 (nI n - 1) = if 0 ≤ u ∧ u < nI n then 1 else 0 := by
  have e1 : (nI n - nI 1).toInt = (n : Int) - (1 : Nat) := pk_sub_toInt h (by decide)
  have e1' : (nI n - 1).toInt = (n : Int) - 1 := e1
  have e2 : (nI n).toInt = (n : Int) := nI_toInt (by omega)
  simp only [mWithI, Int32.lt_iff_toInt_lt, Int32.le_iff_toInt_le, e1', e2]
  have e3 : u.toInt ≤ (n : Int) - 1 ↔ u.toInt < (n : Int) := by omega
  simp only [e3]
theorem num_14o : ∀ w, w < 15 → (nI w = 0 ∨ nI w = 1 ∨ nI w = 2 ∨ nI w = 3 ∨ nI w = 4 ∨ nI w = 5 ∨ nI w = 6 ∨ nI w = 7 ∨ nI w = 8 ∨ nI w = 9 ∨ nI w = 10 ∨ nI w = 11 ∨ nI w = 12 ∨ nI w = 13 ∨ nI w = 14) := by decide +kernel
theorem num_14 (w : Nat) (h : w < 15) (h0 : ¬ nI w = 0) (h1 : ¬ nI w = 1) (h2 : ¬ nI w = 2) (h3 : ¬ nI w = 3) (h4 : ¬ nI w = 4) (h5 : ¬ nI w = 5) (h6 : ¬ nI w = 6) (h7 : ¬ nI w = 7) (h8 : ¬ nI w = 8) (h9 : ¬ nI w = 9) (h10 : ¬ nI w = 10) (h11 : ¬ nI w = 11) (h12 : ¬ nI w = 12) (h13 : ¬ nI w = 13) : nI w = 14 := by
  rcases num_14o w h with e | e | e | e | e | e | e | e | e | e | e | e | e | e | e
  · exact absurd e h0
  · exact absurd e h1
  · exact absurd e h2
  · exact absurd e h3
  · exact absurd e h4
  · exact absurd e h5
  · exact absurd e h6
  · exact absurd e h7
  · exact absurd e h8
  · exact absurd e h9
  · exact absurd e h10
  · exact absurd e h11
  · exact absurd e h12
  · exact absurd e h13
  · exact e
theorem num_6o : ∀ w, w < 7 → (nI w = 0 ∨ nI w = 1 ∨ nI w = 2 ∨ nI w = 3 ∨ nI w = 4 ∨ nI w = 5 ∨ nI w = 6) := by decide +kernel
theorem num_6 (w : Nat) (h : w < 7) (h0 : ¬ nI w = 0) (h1 : ¬ nI w = 1) (h2 : ¬ nI w = 2) (h3 : ¬ nI w = 3) (h4 : ¬ nI w = 4) (h5 : ¬ nI w = 5) : nI w = 6 := by
  rcases num_6o w h with e | e | e | e | e | e | e
  · exact absurd e h0
  · exact absurd e h1
  · exact absurd e h2
  · exact absurd e h3
  · exact absurd e h4
  · exact absurd e h5
  · exact e
theorem num_8o : ∀ w, w < 9 → (nI w = 0 ∨ nI w = 1 ∨ nI w = 2 ∨ nI w = 3 ∨ nI w = 4 ∨ nI w = 5 ∨ nI w = 6 ∨ nI w = 7 ∨ nI w = 8) := by decide +kernel
theorem num_8 (w : Nat) (h : w < 9) (h0 : ¬ nI w = 0) (h1 : ¬ nI w = 1) (h2 : ¬ nI w = 2) (h3 : ¬ nI w = 3) (h4 : ¬ nI w = 4) (h5 : ¬ nI w = 5) (h6 : ¬ nI w = 6) (h7 : ¬ nI w = 7) : nI w = 8 := by
  rcases num_8o w h with e | e | e | e | e | e | e | e | e
  · exact absurd e h0
  · exact absurd e h1
  · exact absurd e h2
  · exact absurd e h3
  · exact absurd e h4
  · exact absurd e h5
  · exact absurd e h6
  · exact absurd e h7
  · exact e
theorem num_3o : ∀ w, w < 4 → (nI w = 0 ∨ nI w = 1 ∨ nI w = 2 ∨ nI w = 3) := by decide +kernel
theorem num_3 (w : Nat) (h : w < 4) (h0 : ¬ nI w = 0) (h1 : ¬ nI w = 1) (h2 : ¬ nI w = 2) : nI w = 3 := by
  rcases num_3o w h with e | e | e | e
  · exact absurd e h0
  · exact absurd e h1
  · exact absurd e h2
  · exact e
def mCanI (u v : Int32) : Int32 := if u = 0 then mWithI v 0 60 else if u = 1 then mWithI v 2 9 else if u = 2 then mWithI v 0 30 else if u = 3 then mWithI v 0 1 else if u = 4 then mWithI v 0 8 else if u = 5 then mWithI v 0 999 else 0
theorem mWithI_ne {v a b : Int32} : ¬ mWithI v a b = 0 ↔ (a ≤ v ∧ v ≤ b) := by unfold mWithI; split <;> simp_all
theorem mWithI_eq0 {v a b : Int32} : mWithI v a b = 0 ↔ ¬ (a ≤ v ∧ v ≤ b) := by unfold mWithI; split <;> simp_all
theorem mRoomI_ne {r : Rw} {u : Int32} : ¬ mRoomI r u = 0 ↔ (0 ≤ u ∧ u < r 6) := by unfold mRoomI; split <;> simp_all
theorem mRoomI_eq0 {r : Rw} {u : Int32} : mRoomI r u = 0 ↔ ¬ (0 ≤ u ∧ u < r 6) := by unfold mRoomI; split <;> simp_all
theorem mPlacI_ne {r : Rw} {u : Int32} : ¬ mPlacI r u = 0 ↔ (0 ≤ u ∧ u ≤ r 6) := by unfold mPlacI; split <;> simp_all
theorem mPlacI_eq0 {r : Rw} {u : Int32} : mPlacI r u = 0 ↔ ¬ (0 ≤ u ∧ u ≤ r 6) := by unfold mPlacI; split <;> simp_all
theorem mSensI_ne {r : Rw} {u : Int32} : ¬ mSensI r u = 0 ↔ (0 ≤ u ∧ u < r 10) := by unfold mSensI; split <;> simp_all
theorem mSensI_eq0 {r : Rw} {u : Int32} : mSensI r u = 0 ↔ ¬ (0 ≤ u ∧ u < r 10) := by unfold mSensI; split <;> simp_all
