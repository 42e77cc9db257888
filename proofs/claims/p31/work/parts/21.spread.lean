/-! SPREAD -/
def mGo (r : Rw) (a b : Nat) : Int32 := if mDoorI r a b = 0 then 0 else (r (20 + a) - r (20 + b)) / 4
def mOut (r : Rw) (a R : Nat) : Int32 := if mDoorI r a R = 0 then 0 else r (20 + a) / 4
/-- what the doors from a to b, b + 1 .. bring: n doors -/
def mSpI (r : Rw) (a : Nat) : Nat → Nat → Rw → Rw
  | _, 0, c => c
  | b, n + 1, c => mSpI r a (b + 1) n (upd (upd c a (c a - mGo r a b)) b (c b + mGo r a b))
/-- one room's doors -/
def mSpA (r : Rw) (R a : Nat) (c : Rw) : Rw := upd (mSpI r a (a + 1) (R - (a + 1)) c) a (mSpI r a (a + 1) (R - (a + 1)) c a - mOut r a R)
def mSpC (r : Rw) (R : Nat) : Nat → Rw
  | 0 => fun _ => 0
  | a + 1 => mSpA r R a (mSpC r R a)
def mSpO (r : Rw) (R : Nat) : Nat → Int32
  | 0 => 0
  | a + 1 => mSpO r R a + mOut r a R
def mCla (x : Int32) : Int32 := if x < 0 then 0 else mLes x 99999
def mSpR (r : Rw) (c : Rw) (k : Nat) : Rw := fun j => if 20 ≤ j ∧ j < 20 + k then mCla (r j + c (j - 20)) else r j
def mSpread (r : Rw) : Rw := mSpR (upd r 17 (r 17 + mSpO r (cN (r 6)) (cN (r 6)))) (mSpC r (cN (r 6)) (cN (r 6))) (cN (r 6))

theorem i_add' {x y : Int32} (h1 : -1000000 ≤ x.toInt) (h2 : x.toInt ≤ 1000000) (h3 : -1000000 ≤ y.toInt) (h4 : y.toInt ≤ 1000000) : (x + y).toInt = x.toInt + y.toInt := by
  rw [Int32.toInt_add]
  exact Int.bmod_eq_of_le (by omega) (by omega)
theorem i_sub' {x y : Int32} (h1 : -1000000 ≤ x.toInt) (h2 : x.toInt ≤ 1000000) (h3 : -1000000 ≤ y.toInt) (h4 : y.toInt ≤ 1000000) : (x - y).toInt = x.toInt - y.toInt := by
  rw [Int32.toInt_sub]
  exact Int.bmod_eq_of_le (by omega) (by omega)
theorem i_div4 (x : Int32) (h1 : -1000000 ≤ x.toInt) (h2 : x.toInt ≤ 1000000) : (x / 4).toInt = x.toInt.tdiv 4 := by
  rw [Int32.toInt_div]
  show (x.toInt.tdiv 4).bmod (2 ^ 32) = x.toInt.tdiv 4
  have e1 : x.toInt.tdiv 4 ≤ 1000000 := by
    rcases Int.le_total 0 x.toInt with q | q
    · rw [Int.tdiv_eq_ediv_of_nonneg q]; omega
    · have : x.toInt.tdiv 4 = -((-x.toInt).tdiv 4) := by rw [Int.neg_tdiv]; omega
      rw [this, Int.tdiv_eq_ediv_of_nonneg (by omega)]; omega
  have e2 : -1000000 ≤ x.toInt.tdiv 4 := by
    rcases Int.le_total 0 x.toInt with q | q
    · rw [Int.tdiv_eq_ediv_of_nonneg q]; omega
    · have : x.toInt.tdiv 4 = -((-x.toInt).tdiv 4) := by rw [Int.neg_tdiv]; omega
      rw [this, Int.tdiv_eq_ediv_of_nonneg (by omega)]; omega
  exact Int.bmod_eq_of_le (by omega) (by omega)
/-- the doors' flow between two smokes, in Int -/
theorem i_flow {x y : Int32} (hx0 : 0 ≤ x.toInt) (hx1 : x.toInt ≤ 110000) (hy0 : 0 ≤ y.toInt) (hy1 : y.toInt ≤ 110000) : -(y.toInt / 4) ≤ ((x - y) / 4).toInt ∧ ((x - y) / 4).toInt ≤ x.toInt / 4 := by
  have e : (x - y).toInt = x.toInt - y.toInt := i_sub' (by omega) (by omega) (by omega) (by omega)
  rw [i_div4 _ (by omega) (by omega), e]
  rcases Int.le_total 0 (x.toInt - y.toInt) with q | q
  · rw [Int.tdiv_eq_ediv_of_nonneg q]; omega
  · have : (x.toInt - y.toInt).tdiv 4 = -((-(x.toInt - y.toInt)).tdiv 4) := by rw [Int.neg_tdiv]; omega
    rw [this, Int.tdiv_eq_ediv_of_nonneg (by omega)]; omega
/-- what the doors have brought to room i, when n i of its doors have been looked at -/
def mBd (r c : Rw) (R : Nat) (n : Nat → Nat) : Prop := ∀ i, i < R → n i ≤ 4 ∧ -((n i : Int) * ((r (20 + i)).toInt / 4)) ≤ (c i).toInt ∧ (c i).toInt ≤ (n i : Int) * 27500
def mSm (r : Rw) : Prop := ∀ i, i < 4 → 0 ≤ (r (20 + i)).toInt ∧ (r (20 + i)).toInt ≤ 110000
theorem mGo_bd {r : Rw} (h : mSm r) {a b : Nat} (ha : a < 4) (hb : b < 4) : -((r (20 + b)).toInt / 4) ≤ (mGo r a b).toInt ∧ (mGo r a b).toInt ≤ (r (20 + a)).toInt / 4 := by
  obtain ⟨x0, x1⟩ := h a ha
  obtain ⟨y0, y1⟩ := h b hb
  unfold mGo
  split
  · show _ ≤ (0 : Int) ∧ (0 : Int) ≤ _
    omega
  · exact i_flow x0 x1 y0 y1
theorem mOut_bd {r : Rw} (h : mSm r) {a R : Nat} (ha : a < 4) : 0 ≤ (mOut r a R).toInt ∧ (mOut r a R).toInt ≤ (r (20 + a)).toInt / 4 := by
  obtain ⟨x0, x1⟩ := h a ha
  unfold mOut
  split
  · show (0 : Int) ≤ 0 ∧ (0 : Int) ≤ _
    omega
  · rw [i_div4 _ (by omega) (by omega), Int.tdiv_eq_ediv_of_nonneg x0]
    omega
theorem bd_lim {n S c : Int} (hn0 : 0 ≤ n) (hn : n ≤ 4) (hS0 : 0 ≤ S) (hS : S ≤ 27500) (h1 : -(n * S) ≤ c) (h2 : c ≤ n * 27500) : -110000 ≤ c ∧ c ≤ 110000 := by
  have e : n = 0 ∨ n = 1 ∨ n = 2 ∨ n = 3 ∨ n = 4 := by omega
  rcases e with rfl | rfl | rfl | rfl | rfl <;> omega
theorem mBd_step {r c : Rw} {R : Nat} {n n' : Nat → Nat} (hR : R ≤ 4) (hs : mSm r) (h : mBd r c R n) {a b : Nat} (ha : a < R) (hb : b < R) (hab : a ≠ b) (na : n' a = n a + 1) (nb : n' b = n b + 1) (na4 : n a < 4) (nb4 : n b < 4) (no : ∀ i, i < R → i ≠ a → i ≠ b → n' i = n i) : mBd r (upd (upd c a (c a - mGo r a b)) b (c b + mGo r a b)) R n' := by
  obtain ⟨g1, g2⟩ := mGo_bd hs (a := a) (b := b) (by omega) (by omega)
  obtain ⟨x0, x1⟩ := hs a (by omega)
  obtain ⟨y0, y1⟩ := hs b (by omega)
  intro i hi
  obtain ⟨hn, h1, h2⟩ := h i hi
  obtain ⟨z0, z1⟩ := hs i (by omega)
  have lim := bd_lim (n := (n i : Int)) (by omega) (by omega) (by omega) (by omega) h1 h2
  by_cases eb : i = b
  · subst eb
    rw [upd_eq, nb, i_add' (by omega) (by omega) (by omega) (by omega)]
    refine ⟨by omega, ?_, ?_⟩
    · rw [show ((n i + 1 : Nat) : Int) = (n i : Int) + 1 by omega, Int.add_mul]; omega
    · rw [show ((n i + 1 : Nat) : Int) = (n i : Int) + 1 by omega, Int.add_mul]; omega
  · rw [upd_ne eb]
    by_cases ea : i = a
    · subst ea
      rw [upd_eq, na, i_sub' (by omega) (by omega) (by omega) (by omega)]
      refine ⟨by omega, ?_, ?_⟩
      · rw [show ((n i + 1 : Nat) : Int) = (n i : Int) + 1 by omega, Int.add_mul]; omega
      · rw [show ((n i + 1 : Nat) : Int) = (n i : Int) + 1 by omega, Int.add_mul]; omega
    · rw [upd_ne ea, no i hi ea eb]
      exact ⟨hn, h1, h2⟩
theorem mBd_out {r c : Rw} {R : Nat} {n n' : Nat → Nat} (hR : R ≤ 4) (hs : mSm r) (h : mBd r c R n) {a : Nat} (ha : a < R) (na : n' a = n a + 1) (na4 : n a < 4) (no : ∀ i, i < R → i ≠ a → n' i = n i) : mBd r (upd c a (c a - mOut r a R)) R n' := by
  obtain ⟨g1, g2⟩ := mOut_bd (R := R) hs (a := a) (by omega)
  obtain ⟨x0, x1⟩ := hs a (by omega)
  intro i hi
  obtain ⟨hn, h1, h2⟩ := h i hi
  obtain ⟨z0, z1⟩ := hs i (by omega)
  have lim := bd_lim (n := (n i : Int)) (by omega) (by omega) (by omega) (by omega) h1 h2
  by_cases ea : i = a
  · subst ea
    rw [upd_eq, na, i_sub' (by omega) (by omega) (by omega) (by omega)]
    refine ⟨by omega, ?_, ?_⟩
    · rw [show ((n i + 1 : Nat) : Int) = (n i : Int) + 1 by omega, Int.add_mul]; omega
    · rw [show ((n i + 1 : Nat) : Int) = (n i : Int) + 1 by omega, Int.add_mul]; omega
  · rw [upd_ne ea, no i hi ea]
    exact ⟨hn, h1, h2⟩
def nB (R a b i : Nat) : Nat := if i < a then R else if i = a then b - 1 else if i < b then a + 1 else a
theorem mSpI_bd {r : Rw} {R a : Nat} (hR : R ≤ 4) (ha : a < R) (hs : mSm r) : ∀ n b c, b + n = R → a < b → mBd r c R (nB R a b) → mBd r (mSpI r a b n c) R (nB R a R) := by
  intro n
  induction n with
  | zero => intro b c hb hab h; obtain rfl : b = R := by omega
            exact h
  | succ n ih =>
    intro b c hb hab h
    simp only [mSpI]
    refine ih (b + 1) _ (by omega) (by omega) (mBd_step hR hs h ha (by omega) (by omega) ?_ ?_ ?_ ?_ (fun i _ h1 h2 => ?_))
    all_goals
      unfold nB
      (repeat' split) <;> omega
theorem mSpC_bd {r : Rw} {R : Nat} (hR : R ≤ 4) (hs : mSm r) : ∀ a, a ≤ R → mBd r (mSpC r R a) R (fun i => if i < a then R else a) := by
  intro a
  induction a with
  | zero =>
    intro _ i hi
    refine ⟨by simp, ?_, ?_⟩ <;> simp [mSpC]
  | succ a ih =>
    intro ha
    have h0 := ih (by omega)
    have h1 : mBd r (mSpC r R a) R (nB R a (a + 1)) := by
      intro i hi
      have h9 := h0 i hi
      have e : nB R a (a + 1) i = if i < a then R else a := by
        unfold nB
        (repeat' split) <;> omega
      rw [e]
      exact h9
    have h2 := mSpI_bd hR (by omega) hs (R - (a + 1)) (a + 1) _ (by omega) (Nat.lt_succ_self a) h1
    refine mBd_out (n := nB R a R) hR hs h2 (by omega) ?_ ?_ (fun i hiR hi => ?_)
    all_goals
      unfold nB
      (repeat' split) <;> omega
/-- no room falls below 0 -/
theorem spread_pos {r : Rw} {R : Nat} (hR : R ≤ 4) (hs : mSm r) {i : Nat} (hi : i < R) : ¬ r (20 + i) + mSpC r R R i < 0 := by
  obtain ⟨hn, h1, h2⟩ := mSpC_bd hR hs R (Nat.le_refl R) i hi
  dsimp only at hn h1 h2
  rw [if_pos hi] at hn h1 h2
  obtain ⟨z0, z1⟩ := hs i (by omega)
  have lim := bd_lim (n := (R : Int)) (by omega) (by omega) (by omega) (by omega) h1 h2
  rw [Int32.lt_iff_toInt_lt, i_add' (by omega) (by omega) (by omega) (by omega)]
  show ¬ _ < (0 : Int)
  have : (R : Int) * ((r (20 + i)).toInt / 4) ≤ 4 * ((r (20 + i)).toInt / 4) := Int.mul_le_mul_of_nonneg_right (by omega) (by omega)
  omega

theorem wRe {x : xC} {M : xM} {pc k n : Nat} {L : List (Option Value)} {st : List Value} {σ : xS} {τ : xT} {Z : State → Prop} {r : Rw} {B : Nat} (C : Cx x M) (hB : isW B) (hR : Rel σ B r) {idx u : Int32} (j d i N : Nat) (hpl : pl j = (d, i)) (hj : j < 225) (hnd : ¬ (32 ≤ j ∧ j < 57)) (hl : ∀ i, lvP (upd r j u) i → i = j ∨ lvP r i) (hd : d < 27) (hsh : (xWS B).getD d (.inr (0, 0)) = .inr (0, N)) (hN : N < 2 ^ 31) (hi : idx = nI i) (hiN : i < N) (hdg : decode M.2.1 pc = .ok (.iastore, 1)) (kk : ∀ σ1 : xS, Rel σ1 B (upd r j u) → Fr (fun a => a = B + d) σ σ1 → Y x (pc + 1) L st σ1 τ k n Z) : Y x pc L (.int u :: .int idx :: .ref (B + d) :: st) σ τ k n Z := by
  refine y_is (a := B + d) (N := N) C i hdg (by have := isW_le hB; omega) ((xSH_W hB d hd).trans hsh) hN hi hiN ?_
  have e := hR.put j u hj hnd hl
  rw [hpl] at e
  exact kk _ e (Fr.ups rfl)
theorem pl_n3 : ∀ j, j < 225 → ((32 ≤ j ∧ j < 57) ∨ j = 19 ∨ (pl j).1 ≠ 3) := by decide +kernel
theorem Rel.gain {σ σ1 : xS} {B : Nat} {r : Rw} (h : Rel σ B r) (hF : Fr (fun a => a = B + 3) σ σ1) : Rel σ1 B r := by
  refine ⟨fun j hj => ?_, fun a b ha hb hab => ?_⟩
  · have h3 : (pl j).1 ≠ 3 := by
      rcases pl_n3 j (lv_lt5 hj) with q | q | q
      · rcases hj with z | z | z | z <;> omega
      · rcases hj with z | z | z | z <;> omega
      · exact q
    rw [hF _ (by omega)]
    exact h.1 j hj
  · rw [hF (B + 1) (by omega)]
    exact h.2 a b ha hb hab
theorem mGo_0 {r : Rw} {a b : Nat} {c : Rw} (h : mGo r a b = 0) : upd (upd c a (c a - mGo r a b)) b (c b + mGo r a b) = c := by
  rw [h, Int32.sub_zero, Int32.add_zero, upd_self, upd_self]
theorem mGo_17 (r : Rw) (v : Int32) {a b : Nat} (ha : a < 4) (hb : b < 4) : mGo (upd r 17 v) a b = mGo r a b := by
  unfold mGo mDoorI
  rw [upd_ne (by omega), upd_ne (by omega), upd_ne (by omega)]
theorem mOut_17 (r : Rw) (v : Int32) {a R : Nat} (ha : a < 4) (hR : R ≤ 4) : mOut (upd r 17 v) a R = mOut r a R := by
  unfold mOut mDoorI
  rw [upd_ne (by omega), upd_ne (by omega)]
theorem mSpR_step (r c : Rw) (k : Nat) : upd (mSpR r c k) (20 + k) (mCla (r (20 + k) + c k)) = mSpR r c (k + 1) := by
  funext j
  by_cases e : j = 20 + k
  · subst e
    rw [upd_eq]
    simp only [mSpR]
    rw [if_pos (by omega), show 20 + k - 20 = k by omega]
  · rw [upd_ne e]
    simp only [mSpR]
    by_cases q : 20 ≤ j ∧ j < 20 + k
    · rw [if_pos q, if_pos (by omega)]
    · rw [if_neg q, if_neg (by omega)]
theorem mSpR_0 (r c : Rw) : mSpR r c 0 = r := by
  funext j
  simp only [mSpR]
  rw [if_neg (by omega)]
theorem mSpR_out {r c : Rw} {k j : Nat} (h : j < 20 ∨ 20 + k ≤ j) : mSpR r c k j = r j := by
  simp only [mSpR]
  rw [if_neg (by omega)]
theorem mSpR_17 (r c : Rw) (k : Nat) (v : Int32) : mSpR (upd r 17 v) c k = upd (mSpR r c k) 17 v := by
  funext j
  by_cases e : j = 17
  · subst e
    rw [upd_eq, mSpR_out (by omega), upd_eq]
  · rw [upd_ne e]
    simp only [mSpR]
    rw [upd_ne e]
theorem Inv.sm {r : Rw} {R ns nr ne t tl : Nat} (I : Inv r R ns nr ne t tl) : mSm r := by
  intro i hi
  obtain ⟨j, hj, e⟩ := rng (m := 110000) (by decide) (I.2.2.2.2.2.2.1 i hi).1.1 (I.2.2.2.2.2.2.1 i hi).1.2
  rw [e, nI_toInt (by omega)]
  omega
theorem mCla_rng (x : Int32) : 0 ≤ mCla x ∧ mCla x ≤ 99999 := by
  unfold mCla mLes
  split
  · exact ⟨by decide, by decide⟩
  · rename_i h
    have h0 : 0 ≤ x := Int32.not_lt.mp h
    split
    · rename_i h1
      exact ⟨h0, Int32.le_of_lt h1⟩
    · exact ⟨by decide, by decide⟩
theorem Inv.spR {r : Rw} {R ns nr ne t tl : Nat} (I : Inv r R ns nr ne t tl) (c : Rw) : ∀ k, k ≤ 4 → Inv (mSpR r c k) R ns nr ne t tl := by
  intro k
  induction k with
  | zero => intro _; rw [mSpR_0]; exact I
  | succ k ih =>
    intro hk
    rw [← mSpR_step]
    exact (ih (by omega)).set1 (20 + k) _ (by omega) (by omega) (by omega) (by omega) (by omega) (by omega) (by omega) (by omega) (fun _ _ => ⟨(mCla_rng _).1, Int32.le_trans (mCla_rng _).2 (by decide)⟩) (by omega) (by omega)
theorem inv_cR {r : Rw} {R ns nr ne t tl : Nat} (I : Inv r R ns nr ne t tl) : cN (r 6) = R := by
  rw [I.1.1.1]
  exact cN_nI (by have := I.1.1.2.2; omega)
theorem Inv.spread {r : Rw} {R ns nr ne t tl : Nat} (I : Inv r R ns nr ne t tl) : Inv (mSpread r) R ns nr ne t tl := by
  unfold mSpread
  rw [inv_cR I]
  exact (I.like (fun j hj => upd_ne (by omega))).spR _ R I.1.1.2.2
theorem mSpI_cong {r : Rw} {R a : Nat} (ha : a < R) : ∀ n b c c', b + n = R → (∀ i, i < R → c i = c' i) → ∀ i, i < R → mSpI r a b n c i = mSpI r a b n c' i := by
  intro n
  induction n with
  | zero => intro b c c' _ h; exact h
  | succ n ih =>
    intro b c c' hb h
    simp only [mSpI]
    refine ih (b + 1) _ _ (by omega) (fun i hi => ?_)
    simp only [upd]
    rw [h a ha, h b (by omega), h i hi]
set_option maxHeartbeats 4000000 in
set_option maxRecDepth 100000 in
theorem l_X3_spreadFrom {x : xC} (C : Cx x mX3_spreadFrom) {B : Nat} (hB : isW B) {r : Rw} (σ : xS) (τ : xT) (hR : Rel σ B r) {R ns nr ne t tl : Nat} (I : Inv r R ns nr ne t tl) (a : Nat) (ha : a < R) (fin : Rw) {Z : State → Prop} (kx : ∀ (σ1 : xS) (v2 v3 : Option Value), (∀ i, i < R → σ1 (B + 3) i = fin i) → Fr (fun q => q = B + 3) σ σ1 → Y x 63 [some (.ref (B + 1)), some (.int (nI a)), v2, v3] [] σ1 τ 0 0 Z) : ∀ n k : Nat, k + n = R → a < k → ∀ c : Rw, (∀ i, i < R → mSpI r a k n c i = fin i) → ∀ (σ1 : xS) (v3 : Option Value), (∀ i, i < R → σ1 (B + 3) i = c i) → Fr (fun q => q = B + 3) σ σ1 → Y x 4 [some (.ref (B + 1)), some (.int (nI a)), some (.int (nI k)), v3] [] σ1 τ 0 0 Z := by
  intro n
  induction n with
  | zero =>
    intro k hk
    intro hak c hf σ1 v3 hc hF1
    have hR4 := I.1.1.2.2
    have hR1 := hR.gain hF1
    simp only [mSpI] at hf
    refine y_iload_n C dX3_spreadFrom_4 rfl ?_
    refine y_aload_n C dX3_spreadFrom_5 rfl ?_
    refine gR_X3_rooms C hB hR1 dX3_spreadFrom_6 (by decide +kernel) (by decide +kernel) ?_
    refine y_topE (nI R) I.1.1.1 ?_
    refine y_icmp_ge (t := 63) C dX3_spreadFrom_9 (by decide) (fun c9 => ?_) (fun c9 => absurd (by rw [show k = R by omega]; exact Int32.le_refl _) c9)
    obtain rfl : k = R := by omega
    exact kx σ1 _ _ (fun i hi => by rw [hc i hi]; exact hf i hi) hF1
  | succ n ih =>
    intro k hk
    intro hak c hf σ1 v3 hc hF1
    have hR4 := I.1.1.2.2
    have hR1 := hR.gain hF1
    refine y_iload_n C dX3_spreadFrom_4 rfl ?_
    refine y_aload_n C dX3_spreadFrom_5 rfl ?_
    refine gR_X3_rooms C hB hR1 dX3_spreadFrom_6 (by decide +kernel) (by decide +kernel) ?_
    refine y_topE (nI R) I.1.1.1 ?_
    refine y_icmp_ge (t := 63) C dX3_spreadFrom_9 (by decide) (fun c9 => absurd c9 (nI_ge (by omega) (by have := I.1.1.2.2; omega))) (fun c9 => ?_)
    refine y_aload_n C dX3_spreadFrom_12 rfl ?_
    refine y_iload_n C dX3_spreadFrom_13 rfl ?_
    refine y_iload_n C dX3_spreadFrom_14 rfl ?_
    refine y_callVi C (e_X3_hasOpenDoor hB _ _ hR1 a k (by omega) (by omega) (by omega)) dX3_spreadFrom_15 rfl gX3_spreadFrom_X3_hasOpenDoor rfl (is_X3 hB) ⟨rfl, qX3_hasOpenDoor⟩ ⟨rfl, rfl⟩ ⟨Nat.le_of_ble_eq_true rfl, Nat.le_of_ble_eq_true rfl⟩ rfl (Nat.le_of_ble_eq_true rfl) ⟨Nat.zero_le _, Nat.zero_le _⟩ (fun v1 σ1 τ1 hq => ?_)
    obtain ⟨rfl, rfl, rfl⟩ := hq
    refine y_if_eq (t := 57) C dX3_spreadFrom_18 (by decide) (fun kc18 => ?_) (fun kc18 => ?_)
    · -- t
      refine y_iinc C dX3_spreadFrom_57 (L' := [_, _, _, _]) rfl (nI_1 k) rfl ?_
      refine y_goto (t := 4) C dX3_spreadFrom_60 (by decide) ?_
      first
        | (refine ih (k + 1) (by omega) (by omega) _ (by simp only [mSpI] at hf; rw [mGo_0 (by unfold mGo; rw [if_pos kc18])] at hf; exact hf) σ1 v3 hc hF1; done)
        | (refine ih (k + 1) (by omega) (by omega) _ (by simp only [mSpI] at hf; exact hf) _ _ (fun i hi => ?_) ((hF1.trans (Fr.ups rfl)).trans (Fr.ups rfl))
           rw [ups_eq, ups_eq]
           simp only [upd]
           rw [hc i hi])
    · -- f
      refine y_aload_n C dX3_spreadFrom_21 rfl ?_
      refine g_X3_smoke C hB dX3_spreadFrom_22 (by decide +kernel) (by decide +kernel) ?_
      refine y_iload_n C dX3_spreadFrom_25 rfl ?_
      refine aR C hB hR1 (20 + a) 2 a 4 (pl_lo20 _ (by omega)) (lv_l (by omega) (by omega)) (by decide) rfl (by decide) rfl (by omega) dX3_spreadFrom_26 ?_
      refine y_aload_n C dX3_spreadFrom_27 rfl ?_
      refine g_X3_smoke C hB dX3_spreadFrom_28 (by decide +kernel) (by decide +kernel) ?_
      refine y_iload_n C dX3_spreadFrom_31 rfl ?_
      refine aR C hB hR1 (20 + k) 2 k 4 (pl_lo20 _ (by omega)) (lv_l (by omega) (by omega)) (by decide) rfl (by decide) rfl (by omega) dX3_spreadFrom_32 ?_
      refine y_isub C dX3_spreadFrom_33 ?_
      refine y_iconst (v := 4) C dX3_spreadFrom_34 (by decide) ?_
      refine y_idiv C dX3_spreadFrom_35 (by decide) ?_
      refine y_topE (mGo r a k) (by unfold mGo; rw [if_neg kc18]) ?_
      refine y_istore_n C dX3_spreadFrom_36 (L' := [_, _, _, _]) (Nat.lt_of_lt_of_le (by decide : (3 : Nat) < 4) (Nat.le_refl _)) rfl ?_
      refine y_aload_n C dX3_spreadFrom_37 rfl ?_
      refine g_X3_gain C hB dX3_spreadFrom_38 (by decide +kernel) (by decide +kernel) ?_
      refine y_iload_n C dX3_spreadFrom_41 rfl ?_
      refine y_dup2 C dX3_spreadFrom_42 rfl rfl ?_
      refine y_ia (a := B + 3) (N := 4) C a dX3_spreadFrom_43 (by have := isW_le hB; omega) (xSH_W hB 3 (by decide)) (by decide) rfl (by omega) ?_
      refine y_topE (c a) (hc a ha) ?_
      refine y_iload_n C dX3_spreadFrom_44 rfl ?_
      refine y_isub C dX3_spreadFrom_45 ?_
      refine y_is (a := B + 3) (N := 4) C a dX3_spreadFrom_46 (by have := isW_le hB; omega) (xSH_W hB 3 (by decide)) (by decide) rfl (by omega) ?_
      refine y_aload_n C dX3_spreadFrom_47 rfl ?_
      refine g_X3_gain C hB dX3_spreadFrom_48 (by decide +kernel) (by decide +kernel) ?_
      refine y_iload_n C dX3_spreadFrom_51 rfl ?_
      refine y_dup2 C dX3_spreadFrom_52 rfl rfl ?_
      refine y_ia (a := B + 3) (N := 4) C k dX3_spreadFrom_53 (by have := isW_le hB; omega) (xSH_W hB 3 (by decide)) (by decide) rfl (by omega) ?_
      refine y_topE (c k) (by rw [ups_eq]; simp only [upd, if_neg (show ¬ k = a by omega)]; exact hc k (by omega)) ?_
      refine y_iload_n C dX3_spreadFrom_54 rfl ?_
      refine y_iadd C dX3_spreadFrom_55 ?_
      refine y_is (a := B + 3) (N := 4) C k dX3_spreadFrom_56 (by have := isW_le hB; omega) (xSH_W hB 3 (by decide)) (by decide) rfl (by omega) ?_
      refine y_iinc C dX3_spreadFrom_57 (L' := [_, _, _, _]) rfl (nI_1 k) rfl ?_
      refine y_goto (t := 4) C dX3_spreadFrom_60 (by decide) ?_
      first
        | (refine ih (k + 1) (by omega) (by omega) _ (by simp only [mSpI] at hf; rw [mGo_0 (by unfold mGo; rw [if_pos kc18])] at hf; exact hf) σ1 v3 hc hF1; done)
        | (refine ih (k + 1) (by omega) (by omega) _ (by simp only [mSpI] at hf; exact hf) _ _ (fun i hi => ?_) ((hF1.trans (Fr.ups rfl)).trans (Fr.ups rfl))
           rw [ups_eq, ups_eq]
           simp only [upd]
           rw [hc i hi])
set_option maxHeartbeats 4000000 in
set_option maxRecDepth 100000 in
theorem e_X3_spreadFrom {B : Nat} (hB : isW B) {r : Rw} (σ : xS) (τ : xT) (hR : Rel σ B r) {R ns nr ne t tl : Nat} (I : Inv r R ns nr ne t tl) (a : Nat) (ha : a < R) (c : Rw) (hc : ∀ i, i < R → σ (B + 3) i = c i) : Xv mX3_spreadFrom [.ref (B + 1), .int (nI a)] σ τ (fun σ1 τ1 => (∀ i, i < R → σ1 (B + 3) i = mSpI r a (a + 1) (R - (a + 1)) c i) ∧ Fr (fun q => q = B + 3) σ σ1 ∧ τ = τ1) := by
  refine Xv_mk (L := [some (.ref (B + 1)), some (.int (nI a)), none, none]) (by decide) rfl (Nat.le_of_ble_eq_true rfl) rfl (fun x C => ?_)
  refine y_iload_n C dX3_spreadFrom_0 rfl ?_
  refine y_iconst (v := 1) C dX3_spreadFrom_1 (by decide) ?_
  refine y_iadd C dX3_spreadFrom_2 ?_
  refine y_topE (nI (a + 1)) (nI_1 a) ?_
  refine y_istore_n C dX3_spreadFrom_3 (L' := [_, _, _, _]) (Nat.lt_of_lt_of_le (by decide : (2 : Nat) < 4) (Nat.le_refl _)) rfl ?_
  refine l_X3_spreadFrom C hB σ τ hR I a ha _ (fun σ1 v2 v3 h1 hF1 => ?_) (R - (a + 1)) (a + 1) (by omega) (Nat.lt_succ_self a) c (fun i hi => rfl) σ _ hc Fr.rf
  exact y_vret C rfl dX3_spreadFrom_63 ⟨h1, hF1, rfl⟩
set_option maxHeartbeats 4000000 in
set_option maxRecDepth 100000 in
theorem l_X3_spread1 {x : xC} (C : Cx x mX3_spread) {B : Nat} (hB : isW B) {r : Rw} (σ : xS) (τ : xT) (hR : Rel σ B r) {R ns nr ne t tl : Nat} (I : Inv r R ns nr ne t tl) {Z : State → Prop} (kx : ∀ (σ1 : xS), (∀ i, i < R → σ1 (B + 3) i = 0) → Fr (fun q => q = B + 3) σ σ1 → Y x 23 [some (.ref (B + 1)), some (.int (nI R)), none, none] [] σ1 τ 0 0 Z) : ∀ n k : Nat, k + n = R → ∀ (σ1 : xS), (∀ i, i < k → σ1 (B + 3) i = 0) → Fr (fun q => q = B + 3) σ σ1 → Y x 2 [some (.ref (B + 1)), some (.int (nI k)), none, none] [] σ1 τ 0 0 Z := by
  intro n
  induction n with
  | zero =>
    intro k hk
    intro σ1 h1 hF1
    have hR1 := hR.gain hF1
    refine y_iload_n C dX3_spread_2 rfl ?_
    refine y_aload_n C dX3_spread_3 rfl ?_
    refine gR_X3_rooms C hB hR1 dX3_spread_4 (by decide +kernel) (by decide +kernel) ?_
    refine y_topE (nI R) I.1.1.1 ?_
    refine y_icmp_ge (t := 23) C dX3_spread_7 (by decide) (fun c7 => ?_) (fun c7 => absurd (by rw [show k = R by omega]; exact Int32.le_refl _) c7)
    obtain rfl : k = R := by omega
    exact kx σ1 h1 hF1
  | succ n ih =>
    intro k hk
    intro σ1 h1 hF1
    have hR4 := I.1.1.2.2
    have hR1 := hR.gain hF1
    refine y_iload_n C dX3_spread_2 rfl ?_
    refine y_aload_n C dX3_spread_3 rfl ?_
    refine gR_X3_rooms C hB hR1 dX3_spread_4 (by decide +kernel) (by decide +kernel) ?_
    refine y_topE (nI R) I.1.1.1 ?_
    refine y_icmp_ge (t := 23) C dX3_spread_7 (by decide) (fun c7 => absurd c7 (nI_ge (by omega) (by have := I.1.1.2.2; omega))) (fun c7 => ?_)
    refine y_aload_n C dX3_spread_10 rfl ?_
    refine g_X3_gain C hB dX3_spread_11 (by decide +kernel) (by decide +kernel) ?_
    refine y_iload_n C dX3_spread_14 rfl ?_
    refine y_iconst (v := 0) C dX3_spread_15 (by decide) ?_
    refine y_is (a := B + 3) (N := 4) C k dX3_spread_16 (by have := isW_le hB; omega) (xSH_W hB 3 (by decide)) (by decide) rfl (by omega) ?_
    refine y_iinc C dX3_spread_17 (L' := [_, _, _, _]) rfl (nI_1 k) rfl ?_
    refine y_goto (t := 2) C dX3_spread_20 (by decide) ?_
    refine ih (k + 1) (by omega) _ (fun i hi => ?_) (hF1.trans (Fr.ups rfl))
    rw [ups_eq]
    by_cases e : i = k
    · simp [upd, e]
    · simp only [upd, if_neg e]
      exact h1 i (by omega)
set_option maxHeartbeats 4000000 in
set_option maxRecDepth 100000 in
theorem l_X3_spread2 {x : xC} (C : Cx x mX3_spread) {B : Nat} (hB : isW B) {r : Rw} (σ : xS) (τ : xT) (hR : Rel σ B r) {R ns nr ne t tl : Nat} (I : Inv r R ns nr ne t tl) {Z : State → Prop} (kx : ∀ (σ1 : xS) (v3 : Option Value), (∀ i, i < R → σ1 (B + 3) i = mSpC r R R i) → Fr (fun q => q = B + 3) σ σ1 → Y x 81 [some (.ref (B + 1)), some (.int (mSpO r R R)), some (.int (nI R)), v3] [] σ1 τ 0 0 Z) : ∀ n k : Nat, k + n = R → ∀ (σ1 : xS) (v3 : Option Value), (∀ i, i < R → σ1 (B + 3) i = mSpC r R k i) → Fr (fun q => q = B + 3) σ σ1 → Y x 27 [some (.ref (B + 1)), some (.int (mSpO r R k)), some (.int (nI k)), v3] [] σ1 τ 0 0 Z := by
  intro n
  induction n with
  | zero =>
    intro k hk
    intro σ1 v3 h1 hF1
    have hR1 := hR.gain hF1
    refine y_iload_n C dX3_spread_27 rfl ?_
    refine y_aload_n C dX3_spread_28 rfl ?_
    refine gR_X3_rooms C hB hR1 dX3_spread_29 (by decide +kernel) (by decide +kernel) ?_
    refine y_topE (nI R) I.1.1.1 ?_
    refine y_icmp_ge (t := 81) C dX3_spread_32 (by decide) (fun c32 => ?_) (fun c32 => absurd (by rw [show k = R by omega]; exact Int32.le_refl _) c32)
    obtain rfl : k = R := by omega
    exact kx σ1 v3 h1 hF1
  | succ n ih =>
    intro k hk
    intro σ1 v3 h1 hF1
    have hR4 := I.1.1.2.2
    have hR1 := hR.gain hF1
    refine y_iload_n C dX3_spread_27 rfl ?_
    refine y_aload_n C dX3_spread_28 rfl ?_
    refine gR_X3_rooms C hB hR1 dX3_spread_29 (by decide +kernel) (by decide +kernel) ?_
    refine y_topE (nI R) I.1.1.1 ?_
    refine y_icmp_ge (t := 81) C dX3_spread_32 (by decide) (fun c32 => absurd c32 (nI_ge (by omega) (by have := I.1.1.2.2; omega))) (fun c32 => ?_)
    refine y_aload_n C dX3_spread_35 rfl ?_
    refine y_iload_n C dX3_spread_36 rfl ?_
    refine y_callVv C (e_X3_spreadFrom hB _ _ hR1 I k (by omega) _ h1) dX3_spread_37 rfl gX3_spread_X3_spreadFrom rfl (is_X3 hB) ⟨rfl, qX3_spreadFrom⟩ ⟨rfl, rfl⟩ ⟨Nat.le_of_ble_eq_true rfl, Nat.le_of_ble_eq_true rfl⟩ rfl (Nat.le_of_ble_eq_true rfl) ⟨Nat.zero_le _, Nat.zero_le _⟩ (fun σ2 τ2 hq => ?_)
    obtain ⟨h2, hF2, rfl⟩ := hq
    have hR2 := hR1.gain hF2
    refine y_aload_n C dX3_spread_40 rfl ?_
    refine y_iload_n C dX3_spread_41 rfl ?_
    refine y_aload_n C dX3_spread_42 rfl ?_
    refine gR_X3_rooms C hB hR2 dX3_spread_43 (by decide +kernel) (by decide +kernel) ?_
    refine y_topE (nI R) I.1.1.1 ?_
    refine y_callVi C (e_X3_hasOpenDoor hB _ _ hR2 k R (by omega) (by omega) (by omega)) dX3_spread_46 rfl gX3_spread_X3_hasOpenDoor rfl (is_X3 hB) ⟨rfl, qX3_hasOpenDoor⟩ ⟨rfl, rfl⟩ ⟨Nat.le_of_ble_eq_true rfl, Nat.le_of_ble_eq_true rfl⟩ rfl (Nat.le_of_ble_eq_true rfl) ⟨Nat.zero_le _, Nat.zero_le _⟩ (fun v1 σ1 τ1 hq => ?_)
    obtain ⟨rfl, rfl, rfl⟩ := hq
    refine y_if_eq (t := 75) C dX3_spread_49 (by decide) (fun kc49 => ?_) (fun kc49 => ?_)
    · -- t
      refine y_iinc C dX3_spread_75 (L' := [_, _, _, _]) rfl (nI_1 k) rfl ?_
      refine y_goto (t := 27) C dX3_spread_78 (by decide) ?_
      first
        | (have e0 : mOut r k R = 0 := by unfold mOut; rw [if_pos kc49]
           have h9 := ih (k + 1) (by omega) σ2 v3 (fun i hi => by
             rw [h2 i hi]
             simp only [mSpC, mSpA]
             rw [e0, Int32.sub_zero, upd_self]) (hF1.trans hF2)
           rw [show mSpO r R (k + 1) = mSpO r R k by simp only [mSpO]; rw [e0, Int32.add_zero]] at h9
           exact h9)
        | (refine ih (k + 1) (by omega) _ _ (fun i hi => ?_) ((hF1.trans hF2).trans (Fr.ups rfl))
           rw [ups_eq]
           simp only [mSpC, mSpA, upd]
           rw [h2 i hi])
    · -- f
      refine y_aload_n C dX3_spread_52 rfl ?_
      refine g_X3_smoke C hB dX3_spread_53 (by decide +kernel) (by decide +kernel) ?_
      refine y_iload_n C dX3_spread_56 rfl ?_
      refine aR C hB hR2 (20 + k) 2 k 4 (pl_lo20 _ (by omega)) (lv_l (by omega) (by omega)) (by decide) rfl (by decide) rfl (by omega) dX3_spread_57 ?_
      refine y_iconst (v := 4) C dX3_spread_58 (by decide) ?_
      refine y_idiv C dX3_spread_59 (by decide) ?_
      refine y_topE (mOut r k R) (by unfold mOut; rw [if_neg kc49]) ?_
      refine y_istore_n C dX3_spread_60 (L' := [_, _, _, _]) (Nat.lt_of_lt_of_le (by decide : (3 : Nat) < 4) (Nat.le_refl _)) rfl ?_
      refine y_aload_n C dX3_spread_61 rfl ?_
      refine g_X3_gain C hB dX3_spread_62 (by decide +kernel) (by decide +kernel) ?_
      refine y_iload_n C dX3_spread_65 rfl ?_
      refine y_dup2 C dX3_spread_66 rfl rfl ?_
      refine y_ia (a := B + 3) (N := 4) C k dX3_spread_67 (by have := isW_le hB; omega) (xSH_W hB 3 (by decide)) (by decide) rfl (by omega) ?_
      refine y_topE (mSpI r k (k + 1) (R - (k + 1)) (mSpC r R k) k) (h2 k (by omega)) ?_
      refine y_iload_n C dX3_spread_68 rfl ?_
      refine y_isub C dX3_spread_69 ?_
      refine y_is (a := B + 3) (N := 4) C k dX3_spread_70 (by have := isW_le hB; omega) (xSH_W hB 3 (by decide)) (by decide) rfl (by omega) ?_
      refine y_iload_n C dX3_spread_71 rfl ?_
      refine y_iload_n C dX3_spread_72 rfl ?_
      refine y_iadd C dX3_spread_73 ?_
      refine y_istore_n C dX3_spread_74 (L' := [_, _, _, _]) (Nat.lt_of_lt_of_le (by decide : (1 : Nat) < 4) (Nat.le_refl _)) rfl ?_
      refine y_iinc C dX3_spread_75 (L' := [_, _, _, _]) rfl (nI_1 k) rfl ?_
      refine y_goto (t := 27) C dX3_spread_78 (by decide) ?_
      first
        | (have e0 : mOut r k R = 0 := by unfold mOut; rw [if_pos kc49]
           have h9 := ih (k + 1) (by omega) σ2 v3 (fun i hi => by
             rw [h2 i hi]
             simp only [mSpC, mSpA]
             rw [e0, Int32.sub_zero, upd_self]) (hF1.trans hF2)
           rw [show mSpO r R (k + 1) = mSpO r R k by simp only [mSpO]; rw [e0, Int32.add_zero]] at h9
           exact h9)
        | (refine ih (k + 1) (by omega) _ _ (fun i hi => ?_) ((hF1.trans hF2).trans (Fr.ups rfl))
           rw [ups_eq]
           simp only [mSpC, mSpA, upd]
           rw [h2 i hi])
set_option maxHeartbeats 4000000 in
set_option maxRecDepth 100000 in
theorem l_X3_spread3 {x : xC} (C : Cx x mX3_spread) {B : Nat} (hB : isW B) {r : Rw} (σ : xS) (τ : xT) (hR : Rel σ B r) {R ns nr ne t tl : Nat} (I : Inv r R ns nr ne t tl) (c : Rw) (hc : ∀ i, i < R → σ (B + 3) i = c i) (hp : ∀ i, i < R → ¬ r (20 + i) + c i < 0) (o : Int32) (v3 : Option Value) {Z : State → Prop} (kx : ∀ (σ1 : xS), Rel σ1 B (mSpR r c R) → Fr (wS B) σ σ1 → Y x 121 [some (.ref (B + 1)), some (.int o), some (.int (nI R)), v3] [] σ1 τ 0 0 Z) : ∀ n k : Nat, k + n = R → ∀ (σ1 : xS), Rel σ1 B (mSpR r c k) → Fr (wS B) σ σ1 → Fr (fun q => q ≠ B + 3) σ σ1 → Y x 83 [some (.ref (B + 1)), some (.int o), some (.int (nI k)), v3] [] σ1 τ 0 0 Z := by
  intro n
  induction n with
  | zero =>
    intro k hk
    intro σ1 hR1 hF1 hF3
    refine y_iload_n C dX3_spread_83 rfl ?_
    refine y_aload_n C dX3_spread_84 rfl ?_
    refine gR_X3_rooms C hB hR1 dX3_spread_85 (by decide +kernel) (by decide +kernel) ?_
    refine y_topE (nI R) (by rw [mSpR_out (by omega)]; exact I.1.1.1) ?_
    refine y_icmp_ge (t := 121) C dX3_spread_88 (by decide) (fun c88 => ?_) (fun c88 => absurd (by rw [show k = R by omega]; exact Int32.le_refl _) c88)
    obtain rfl : k = R := by omega
    exact kx σ1 hR1 hF1
  | succ n ih =>
    intro k hk
    intro σ1 hR1 hF1 hF3
    have hR4 := I.1.1.2.2
    refine y_iload_n C dX3_spread_83 rfl ?_
    refine y_aload_n C dX3_spread_84 rfl ?_
    refine gR_X3_rooms C hB hR1 dX3_spread_85 (by decide +kernel) (by decide +kernel) ?_
    refine y_topE (nI R) (by rw [mSpR_out (by omega)]; exact I.1.1.1) ?_
    refine y_icmp_ge (t := 121) C dX3_spread_88 (by decide) (fun c88 => absurd c88 (nI_ge (by omega) (by have := I.1.1.2.2; omega))) (fun c88 => ?_)
    refine y_aload_n C dX3_spread_91 rfl ?_
    refine g_X3_smoke C hB dX3_spread_92 (by decide +kernel) (by decide +kernel) ?_
    refine y_iload_n C dX3_spread_95 rfl ?_
    refine y_aload_n C dX3_spread_96 rfl ?_
    refine g_X3_smoke C hB dX3_spread_97 (by decide +kernel) (by decide +kernel) ?_
    refine y_iload_n C dX3_spread_100 rfl ?_
    refine aR C hB hR1 (20 + k) 2 k 4 (pl_lo20 _ (by omega)) (lv_l (by omega) (by omega)) (by decide) rfl (by decide) rfl (by omega) dX3_spread_101 ?_
    refine y_topE (r (20 + k)) (mSpR_out (by omega)) ?_
    refine y_aload_n C dX3_spread_102 rfl ?_
    refine g_X3_gain C hB dX3_spread_103 (by decide +kernel) (by decide +kernel) ?_
    refine y_iload_n C dX3_spread_106 rfl ?_
    refine y_ia (a := B + 3) (N := 4) C k dX3_spread_107 (by have := isW_le hB; omega) (xSH_W hB 3 (by decide)) (by decide) rfl (by omega) ?_
    refine y_topE (c k) (by rw [hF3 (B + 3) (fun z => z rfl)]; exact hc k (by omega)) ?_
    refine y_iadd C dX3_spread_108 ?_
    refine y_ldc (v := 99999) C dX3_spread_109 (by decide +kernel) ?_
    refine y_mmin C dX3_spread_111 (by decide +kernel) (by decide +kernel) (by decide +kernel) (by decide +kernel) rfl (Nat.le_of_ble_eq_true rfl) (Nat.le_of_ble_eq_true rfl) ⟨Nat.zero_le _, Nat.zero_le _⟩ ?_
    refine y_topE (mCla (r (20 + k) + c k)) (by unfold mCla; rw [if_neg (hp k (by omega)), mLes_comm]; rfl) ?_
    refine wRe C hB hR1 (20 + k) 2 k 4 (pl_lo20 k (by omega)) (by omega) (by omega) (lv_upd (by omega) (by omega) (by omega)) (by decide) rfl (by decide) rfl (by omega) dX3_spread_114 (fun σ2 hR2 hF2 => ?_)
    rw [mSpR_step] at hR2
    refine y_iinc C dX3_spread_115 (L' := [_, _, _, _]) rfl (nI_1 k) rfl ?_
    refine y_goto (t := 83) C dX3_spread_118 (by decide) ?_
    exact ih (k + 1) (by omega) σ2 hR2 (hF1.trans (hF2.mono (fun a h => by rw [h]; exact wS_in (by decide)))) (hF3.trans (hF2.mono (fun a h => by rw [h]; omega)))
set_option maxHeartbeats 4000000 in
set_option maxRecDepth 100000 in
theorem e_X3_spread {B : Nat} (hB : isW B) {r : Rw} (σ : xS) (τ : xT) (hR : Rel σ B r) {R ns nr ne t tl : Nat} (I : Inv r R ns nr ne t tl) : Xi mX3_spread [.ref (B + 1)] σ τ (fun v σ1 τ1 => v = mSpO r R R ∧ Rel σ1 B (mSpR r (mSpC r R R) R) ∧ Fr (wS B) σ σ1 ∧ τ = τ1) := by
  have hR4 := I.1.1.2.2
  have hg3 : ∀ a, a = B + 3 → wS B a := fun a h => by rw [h]; exact wS_in (by decide)
  refine Xi_mk (L := [some (.ref (B + 1)), none, none, none]) (by decide) rfl (Nat.le_of_ble_eq_true rfl) rfl (fun x C => ?_)
  refine y_iconst (v := 0) C dX3_spread_0 (by decide) ?_
  refine y_istore_n C dX3_spread_1 (L' := [_, _, _, _]) (Nat.lt_of_lt_of_le (by decide : (1 : Nat) < 4) (Nat.le_refl _)) rfl ?_
  refine l_X3_spread1 C hB σ τ hR I (fun σ1 h1 hF1 => ?_) _ 0 (Nat.zero_add _) σ (fun i hi => absurd hi (Nat.not_lt_zero _)) Fr.rf
  refine y_iconst (v := 0) C dX3_spread_23 (by decide) ?_
  refine y_istore_n C dX3_spread_24 (L' := [_, _, _, _]) (Nat.lt_of_lt_of_le (by decide : (1 : Nat) < 4) (Nat.le_refl _)) rfl ?_
  refine y_iconst (v := 0) C dX3_spread_25 (by decide) ?_
  refine y_istore_n C dX3_spread_26 (L' := [_, _, _, _]) (Nat.lt_of_lt_of_le (by decide : (2 : Nat) < 4) (Nat.le_refl _)) rfl ?_
  refine l_X3_spread2 C hB σ1 τ (hR.gain hF1) I (fun σ2 v3 h2 hF2 => ?_) _ 0 (Nat.zero_add _) σ1 none (fun i hi => h1 i hi) Fr.rf
  refine y_iconst (v := 0) C dX3_spread_81 (by decide) ?_
  refine y_istore_n C dX3_spread_82 (L' := [_, _, _, _]) (Nat.lt_of_lt_of_le (by decide : (2 : Nat) < 4) (Nat.le_refl _)) rfl ?_
  refine l_X3_spread3 C hB σ2 τ ((hR.gain hF1).gain hF2) I _ h2 (fun i hi => spread_pos hR4 I.sm hi) _ _ (fun σ3 hR3 hF3 => ?_) _ 0 (Nat.zero_add _) σ2 (by rw [mSpR_0]; exact (hR.gain hF1).gain hF2) Fr.rf Fr.rf
  refine y_iload_n C dX3_spread_121 rfl ?_
  exact y_iret C rfl dX3_spread_122 (⟨rfl, hR3, ((hF1.mono hg3).trans (hF2.mono hg3)).trans hF3, rfl⟩)
theorem mSpI_17 (r : Rw) (v : Int32) {R a : Nat} (hR : R ≤ 4) (ha : a < R) : ∀ n b c, b + n = R → mSpI (upd r 17 v) a b n c = mSpI r a b n c := by
  intro n
  induction n with
  | zero => intro b c _; rfl
  | succ n ih =>
    intro b c hb
    simp only [mSpI]
    rw [mGo_17 r v (by omega) (by omega)]
    exact ih (b + 1) _ (by omega)
