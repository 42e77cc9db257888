/-! THE MATHEMATICS: the model's row r (225 ints), what its methods answer and make of it; Rel: a world of the class holds the row; Inv: what stays true of a row -/
abbrev Rw : Type := Nat → Int32
def bI (p : Prop) [Decidable p] : Int32 := if p then 1 else 0
theorem bI_01 (p : Prop) [Decidable p] : bI p = 0 ∨ bI p = 1 := by
  unfold bI
  by_cases h : p
  · exact Or.inr (if_pos h)
  · exact Or.inl (if_neg h)
theorem bI_t {p : Prop} [Decidable p] (h : p) : (1 : Int32) = bI p := (if_pos h).symm
theorem bI_f {p : Prop} [Decidable p] (h : ¬ p) : (0 : Int32) = bI p := (if_neg h).symm
theorem bI_eq0 {p : Prop} [Decidable p] : bI p = 0 ↔ ¬ p := by
  unfold bI
  by_cases h : p <;> simp [h]
theorem bI_ne0 {p : Prop} [Decidable p] : ¬ bI p = 0 ↔ p := by
  rw [bI_eq0, Decidable.not_not]
def plL : List (Nat × Nat) := [(4, 2), (13, 0), (13, 1), (4, 5), (4, 3), (4, 1), (1, 0), (0, 0), (4, 0), (4, 4), (5, 0), (16, 0), (21, 0), (26, 0), (26, 1), (26, 2), (26, 3), (26, 4), (26, 5), (3, 9), (2, 0), (2, 1), (2, 2), (2, 3), (14, 0), (14, 1), (14, 2), (14, 3), (15, 0), (15, 1), (15, 2), (15, 3)]
/-- where the class keeps the row's number j -/
def pl (j : Nat) : Nat × Nat := if j < 32 then plL.getD j (0, 0) else if j < 57 then (3, 10 + j) else if j < 113 then (6 + (j - 57) % 7, (j - 57) / 7) else if j < 145 then (17 + (j - 113) % 4, (j - 113) / 4) else (22 + (j - 145) % 4, (j - 145) / 4)
theorem pl_inj : ∀ i, i < 225 → ∀ j, j < 225 → pl i = pl j → i = j := by decide +kernel
theorem pl_27 : ∀ i, i < 225 → (pl i).1 < 27 := by decide +kernel
theorem pl_door : ∀ i, i < 225 → ¬ pl i = (1, 2) := by decide +kernel
/-- the row's numbers that mean something: not those behind the last sensor, rule, event; not the doors, which the class keeps as bits -/
def lvP (r : Rw) (j : Nat) : Prop := (j < 32 ∧ j ≠ 19) ∨ (57 ≤ j ∧ j < 113 ∧ nI ((j - 57) / 7) < r 10) ∨ (113 ≤ j ∧ j < 145 ∧ nI ((j - 113) / 4) < r 11) ∨ (145 ≤ j ∧ j < 225 ∧ nI ((j - 145) / 4) < r 12)
theorem lv_lt5 {r : Rw} {j : Nat} (h : lvP r j) : j < 225 := by
  rcases h with h | h | h | h <;> omega
/-- the bit of the door between a and b, as the class makes it -/
def xbit (a b : Nat) : Int32 := (1 : Int32) <<< ((if a < b then nI (a * 5 + b) else nI (b * 5 + a)) &&& 31)
def Rel (σ : xS) (B : Nat) (r : Rw) : Prop := (∀ j, lvP r j → σ (B + (pl j).1) (pl j).2 = r j) ∧ ∀ a b, a < 5 → b < 5 → a ≠ b → (¬ (σ (B + 1) 2 &&& xbit a b) = 0 ↔ r (32 + 5 * a + b) = 1)
/-- nothing but the cells S has changed -/
def Fr (S : Nat → Prop) (σ σ1 : xS) : Prop := ∀ a, ¬ S a → σ1 a = σ a
theorem Fr.rf {S : Nat → Prop} {σ : xS} : Fr S σ σ := fun _ _ => rfl
theorem Fr.trans {S : Nat → Prop} {σ σ1 σ2 : xS} (h1 : Fr S σ σ1) (h2 : Fr S σ1 σ2) : Fr S σ σ2 := fun a h => (h2 a h).trans (h1 a h)
theorem Fr.mono {S T : Nat → Prop} {σ σ1 : xS} (h : Fr S σ σ1) (hs : ∀ a, S a → T a) : Fr T σ σ1 := fun a ha => h a (fun q => ha (hs a q))
theorem Fr.ups {S : Nat → Prop} {σ : xS} {k : Nat} {f : Nat → Int32} (h : S k) : Fr S σ (ups σ k f) := fun a ha => ups_ne (fun e => ha (e ▸ h))
/-- the cells of the world at B -/
def wS (B : Nat) : Nat → Prop := fun a => B ≤ a ∧ a < B + 27
theorem wS_in {B d : Nat} (h : d < 27) : wS B (B + d) := ⟨by omega, by omega⟩
theorem Rel.at {σ : xS} {B : Nat} {r : Rw} (h : Rel σ B r) (j : Nat) (hj : lvP r j) : σ (B + (pl j).1) (pl j).2 = r j := h.1 j hj
theorem Rel.lo {σ : xS} {B : Nat} {r : Rw} (h : Rel σ B r) (j : Nat) (hj : j < 32) (h19 : j ≠ 19) : σ (B + (pl j).1) (pl j).2 = r j := h.1 j (Or.inl ⟨hj, h19⟩)
theorem Rel.put {σ : xS} {B : Nat} {r : Rw} (h : Rel σ B r) (j : Nat) (v : Int32) (hj : j < 225) (hd : ¬ (32 ≤ j ∧ j < 57)) (hl : ∀ i, lvP (upd r j v) i → i = j ∨ lvP r i) : Rel (ups σ (B + (pl j).1) (upd (σ (B + (pl j).1)) (pl j).2 v)) B (upd r j v) := by
  refine ⟨fun i hi => ?_, fun a b ha hb hab => ?_⟩
  · by_cases e : i = j
    · subst e
      rw [ups_eq]
      simp [upd]
    · have hi2 : lvP r i := (hl i hi).resolve_left e
      have h225 := lv_lt5 hi2
      have e2 : upd r j v i = r i := by simp [upd, e]
      rw [e2, ← h.1 i hi2]
      by_cases e3 : (pl i).1 = (pl j).1
      · rw [e3, ups_eq]
        have e4 : ¬ (pl i).2 = (pl j).2 := fun q => e (pl_inj i h225 j hj (Prod.ext e3 q))
        simp [upd, e4]
      · rw [ups_ne (by omega)]
  · have e2 : upd r j v (32 + 5 * a + b) = r (32 + 5 * a + b) := by
      have : ¬ 32 + 5 * a + b = j := by omega
      simp [upd, this]
    rw [e2, ← h.2 a b ha hb hab]
    have e3 : (ups σ (B + (pl j).1) (upd (σ (B + (pl j).1)) (pl j).2 v)) (B + 1) 2 = σ (B + 1) 2 := by
      by_cases e : 1 = (pl j).1
      · rw [e, ups_eq]
        have : ¬ 2 = (pl j).2 := fun q => pl_door j hj (Prod.ext e.symm q.symm)
        simp [upd, this]
      · rw [ups_ne (by omega)]
    rw [e3]
theorem lv_upd {r : Rw} {j : Nat} {v : Int32} (h0 : j ≠ 10) (h1 : j ≠ 11) (h2 : j ≠ 12) (i : Nat) (h : lvP (upd r j v) i) : i = j ∨ lvP r i := by
  refine Or.inr ?_
  have e0 : upd r j v 10 = r 10 := by simp [upd, Ne.symm h0]
  have e1 : upd r j v 11 = r 11 := by simp [upd, Ne.symm h1]
  have e2 : upd r j v 12 = r 12 := by simp [upd, Ne.symm h2]
  unfold lvP at h ⊢
  rw [e0, e1, e2] at h
  exact h
/-- the world at B elsewhere untouched -/
theorem Rel.kept {σ σ1 : xS} {B : Nat} {r : Rw} {S : Nat → Prop} (h : Rel σ B r) (hF : Fr S σ σ1) (hS : ∀ a, B ≤ a → a < B + 27 → ¬ S a) : Rel σ1 B r := by
  refine ⟨fun j hj => ?_, fun a b ha hb hab => ?_⟩
  · have := pl_27 j (lv_lt5 hj)
    rw [hF _ (hS _ (by omega) (by omega))]
    exact h.1 j hj
  · rw [hF _ (hS (B + 1) (by omega) (by omega))]
    exact h.2 a b ha hb hab
def mLes (a b : Int32) : Int32 := if a < b then a else b
def mStr (r : Rw) : Int32 := if r 8 = 0 then 0 else 1 + r 8 / 25
def mDra (r : Rw) : Int32 := if r 5 * r 4 / 8 - r 0 < 0 then 0 else r 5 * r 4 / 8 - r 0
