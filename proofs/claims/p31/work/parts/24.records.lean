/-! AN ARRAY'S ROW BEYOND ITS END IS NOTHING -/
theorem arrV_ext {cI : ClassId} {N : Nat} {f g : Nat → Value} (h : ∀ i, i < N → f i = g i) : arrV cI N f = arrV cI N g := by
  have e : (fun j : Fin N => f j.val) = fun j : Fin N => g j.val := funext fun j => h j.val j.isLt
  unfold arrV
  rw [e]
theorem xws_trim {σ : xS} {τ : xT} {bs kc N : Nat} {cA : Nat → ClassId} {D : va_G} {cl : List vw_C} {H : Heap} {f : Nat → Int32} (hk : kc < 165) (hsh : xSH kc = .inr (0, N)) (hf : ∀ i, i < N → f i = σ kc i) (hP : va_P D cl (xws σ τ bs cA) H) : va_P D cl (xws (ups σ kc f) τ bs cA) H := by
  intro k q hq
  obtain ⟨hk1, -⟩ := xws_at hq
  rw [xws_get hk1] at hq
  cases hq
  by_cases e : k = kc
  · subst e
    have h1 := hP k _ (xws_get hk1)
    rw [hsh] at h1 ⊢
    show H[bs + k]? = some (vp_cell (cA k) (N, .inl (ups σ k f k)))
    have h2 : H[bs + k]? = some (vp_cell (cA k) (N, .inl (σ k))) := h1
    rw [h2, ups_eq, vp_cell_i, vp_cell_i]
    congr 1
    exact arrV_ext (fun i hi => by rw [hf i hi])
  · rw [xCell_congr (σ := σ) (τ := τ) (ups_ne e) rfl]
    exact hP k _ (xws_get hk1)
theorem y_trim {x : xC} {pc k n kc N : Nat} {L : List (Option Value)} {st : List Value} {σ : xS} {τ : xT} {Z : State → Prop} (f : Nat → Int32) (hk : kc < 165) (hsh : xSH kc = .inr (0, N)) (hf : ∀ i, i < N → f i = σ kc i) (K : Y x pc L st (ups σ kc f) τ k n Z) : Y x pc L st σ τ k n Z := by
  obtain ⟨p, l, e, R, s, m, args, below, meth, c, bs, D, cA⟩ := x
  intro H locs ls hP hS hL
  exact K H locs ls (xws_trim hk hsh hf hP) hS hL
theorem Xv_trim {M : xM} {as : List Value} {σ : xS} {τ : xT} {Q Q' : xS → xT → Prop} {kc N : Nat} (hk : kc < 165) (hsh : xSH kc = .inr (0, N)) (h : Xv M as σ τ Q) (hQ : ∀ σ1 τ1, Q σ1 τ1 → ∃ f : Nat → Int32, (∀ i, i < N → f i = σ1 kc i) ∧ Q' (ups σ1 kc f) τ1) : Xv M as σ τ Q' := by
  intro l bs D cA p e ha hc hkp s m args below hf happ hP hK
  obtain ⟨k, o, h1, h2, h3, ⟨⟨⟨u, q1, q2, q3⟩, q4⟩, q5⟩⟩ := h l bs D cA p e ha hc hkp s m args below hf happ hP hK
  obtain ⟨f, hf1, hf2⟩ := hQ _ _ q2
  exact ⟨k, o, h1, h2, h3, ⟨⟨(ups u.1 kc f, u.2), q1, hf2, xws_trim hk hsh hf1 q3⟩, q4⟩, q5⟩
theorem fr_trim {S : Nat → Prop} {σ σ1 : xS} {kc : Nat} {f : Nat → Int32} (h : Fr S σ σ1) (hk : S kc) : Fr S σ (ups σ1 kc f) := Fr.trans h (Fr.ups hk)
/-! THE RECORDS: kp of them, the j-th oldest holds the row qs j; in the class a ring that begins at o -/
def kK (kp : Nat) : Nat := if kp = 4 then 4 else kp + 1
def kQ (kp : Nat) (qs : Nat → Rw) (r : Rw) : Nat → Rw := fun j => if j = (if kp = 4 then 3 else kp) then r else if kp = 4 then qs (j + 1) else qs j
def kO (o kp : Nat) : Nat := if kp = 4 then (o + 1) % 4 else o
theorem kK_le {kp : Nat} (h : kp ≤ 4) : kK kp ≤ 4 := by
  unfold kK
  split <;> omega
theorem kO_lt {o kp : Nat} (h : o < 4) : kO o kp < 4 := by
  unfold kO
  split <;> omega
def RecC (σ : xS) (o kp : Nat) (qs : Nat → Rw) : Prop := σ 55 1 = nI o ∧ σ 55 2 = nI kp ∧ ∀ j, j < kp → Rel σ (57 + 27 * ((o + j) % 4)) (qs j)
theorem RecC.kept {σ σ1 : xS} {o kp : Nat} {qs : Nat → Rw} {S : Nat → Prop} (h : RecC σ o kp qs) (hF : Fr S σ σ1) (hS : ∀ a, 55 ≤ a → a < 165 → ¬ S a) : RecC σ1 o kp qs := by
  refine ⟨by rw [hF _ (hS 55 (by decide) (by decide))]; exact h.1, by rw [hF _ (hS 55 (by decide) (by decide))]; exact h.2.1, fun j hj => ?_⟩
  exact (h.2.2 j hj).kept hF (fun a h1 h2 => hS a (by omega) (by omega))
/-- the cells of the records of the class -/
def rS : Nat → Prop := fun a => 55 ≤ a ∧ a < 165
theorem e_keepR (σ : xS) (τ : xT) {o kp : Nat} {qs : Nat → Rw} (ho : o < 4) (hk : kp ≤ 4) (hC : RecC σ o kp qs) {r : Rw} (hR : Rel σ 1 r) (h3 : r 3 = 0 ∨ r 3 = 1) : Xv mX4_keep [.ref 55, .ref 1] σ τ (fun σ1 τ1 => RecC σ1 (kO o kp) (kK kp) (kQ kp qs r) ∧ Rel σ1 1 r ∧ Fr rS σ σ1 ∧ τ = τ1) := by
  refine Xv_mono (e_X4_keep σ τ o ho hC.1 kp hk hC.2.1 hR h3) (fun σ1 τ1 h => ?_)
  obtain ⟨h1, h2, h4, hF, hτ⟩ := h
  have hm : (o + kp) % 4 < 4 := Nat.mod_lt _ (by decide)
  have hFr : Fr rS σ σ1 := hF.mono (fun a ha => by
    rcases ha with q | q
    · rw [q]; exact ⟨by decide, by decide⟩
    · have q1 := q.1
      have q2 := q.2
      exact ⟨by omega, by omega⟩)
  refine ⟨⟨h4, h2, fun j hj => ?_⟩, hR.kept hFr (fun a _ h2 q => by have := q.1; omega), hFr, hτ⟩
  have keepj : ∀ i, i < kp → ¬ (o + i) % 4 = (o + kp) % 4 → Rel σ1 (57 + 27 * ((o + i) % 4)) (qs i) := fun i hi hne => (hC.2.2 i hi).kept hF (fun a ha1 ha2 q => by
    rcases q with q | q
    · omega
    · have q1 := q.1
      have q2 := q.2
      omega)
  unfold kK kQ kO at *
  by_cases e : kp = 4
  · subst e
    rw [if_pos rfl] at hj ⊢
    rw [if_pos rfl]
    by_cases ej : j = 3
    · rw [if_pos ej, ej, show ((o + 1) % 4 + 3) % 4 = (o + 4) % 4 by omega]
      exact h1
    · rw [if_neg ej, if_pos rfl, show ((o + 1) % 4 + j) % 4 = (o + (j + 1)) % 4 by omega]
      exact keepj (j + 1) (by omega) (by omega)
  · rw [if_neg e] at hj ⊢
    rw [if_neg e]
    by_cases ej : j = kp
    · rw [if_pos ej, ej]
      exact h1
    · rw [if_neg ej, if_neg e]
      exact keepj j (by omega) (by omega)
theorem e_giveR (σ : xS) (τ : xT) {o kp : Nat} {qs : Nat → Rw} (ho : o < 4) (hk : kp ≤ 4) (hk1 : 1 ≤ kp) (hC : RecC σ o kp qs) (h3 : qs (kp - 1) 3 = 0 ∨ qs (kp - 1) 3 = 1) : Xv mX4_giveBack [.ref 55, .ref 1] σ τ (fun σ1 τ1 => RecC σ1 o (kp - 1) qs ∧ Rel σ1 1 (qs (kp - 1)) ∧ Fr (fun a => a = 55 ∨ wS 1 a) σ σ1 ∧ τ = τ1) := by
  refine Xv_mono (e_X4_giveBack σ τ o ho hC.1 kp hk hC.2.1 hk1 (hC.2.2 (kp - 1) (by omega)) h3) (fun σ1 τ1 h => ?_)
  obtain ⟨h1, h2, h4, hF, hτ⟩ := h
  refine ⟨⟨h4, h2, fun j hj => ?_⟩, h1, hF, hτ⟩
  exact (hC.2.2 j (by omega)).kept hF (fun a ha1 ha2 q => by
    rcases q with q | q
    · omega
    · have q2 := q.2
      omega)
