def bt (x : Int32) (i : Nat) : Bool := x.toBitVec.getLsbD i
theorem b_ext {x y : Int32} (h : ∀ i, i < 32 → bt x i = bt y i) : x = y := Int32.toBitVec_inj.mp (BitVec.eq_of_getLsbD_eq (fun i hi => h i hi))
theorem b_or (x y : Int32) (i : Nat) : bt (x ||| y) i = (bt x i || bt y i) := by unfold bt; rw [Int32.toBitVec_or, BitVec.getLsbD_or]
theorem b_and (x y : Int32) (i : Nat) : bt (x &&& y) i = (bt x i && bt y i) := by unfold bt; rw [Int32.toBitVec_and, BitVec.getLsbD_and]
theorem b_xor (x y : Int32) (i : Nat) : bt (x ^^^ y) i = (bt x i ^^ bt y i) := by unfold bt; rw [Int32.toBitVec_xor, BitVec.getLsbD_xor]
theorem b_big {x : Int32} {i : Nat} (h : 32 ≤ i) : bt x i = false := BitVec.getLsbD_of_ge _ _ h
theorem b_m1 : ∀ i, i < 32 → bt (-1) i = true := by decide +kernel
theorem b_0 (i : Nat) : bt 0 i = false := BitVec.getLsbD_zero
def xpos (a b : Nat) : Nat := if a < b then a * 5 + b else b * 5 + a
theorem xbit_bt : ∀ a, a < 5 → ∀ b, b < 5 → ∀ i, i < 32 → bt (xbit a b) i = decide (i = xpos a b) := by decide +kernel
theorem xpos_lt : ∀ a, a < 5 → ∀ b, b < 5 → xpos a b < 32 := by decide +kernel
theorem xpos_inj {a b c d : Nat} (ha : a < 5) (hb : b < 5) (hc : c < 5) (hd : d < 5) (hab : a ≠ b) (hcd : c ≠ d) : ¬ xpos a b = xpos c d ∨ (a = c ∧ b = d) ∨ (a = d ∧ b = c) := by
  unfold xpos
  split <;> split <;> omega
theorem xpos_comm {a b : Nat} (h : a ≠ b) : xpos b a = xpos a b := by
  unfold xpos
  split <;> split <;> omega
theorem and_xbit {x : Int32} {a b : Nat} (ha : a < 5) (hb : b < 5) : x &&& xbit a b = 0 ↔ bt x (xpos a b) = false := by
  constructor
  · intro h
    have h1 : bt (x &&& xbit a b) (xpos a b) = false := by rw [h]; exact b_0 _
    rw [b_and, xbit_bt a ha b hb _ (xpos_lt a ha b hb)] at h1
    simpa using h1
  · intro h
    apply b_ext
    intro i hi
    rw [b_and, xbit_bt a ha b hb i hi, b_0]
    by_cases e : i = xpos a b
    · rw [e, h]; rfl
    · simp [e]
def mSets (r : Rw) (a b : Nat) (o : Int32) : Rw := upd (upd r (32 + 5 * a + b) o) (32 + 5 * b + a) o
theorem mSets_out {r : Rw} {a b : Nat} {o : Int32} {j : Nat} (ha : a < 5) (hb : b < 5) (h : j < 32 ∨ 57 ≤ j) : mSets r a b o j = r j := by
  have h1 : ¬ j = 32 + 5 * a + b := by omega
  have h2 : ¬ j = 32 + 5 * b + a := by omega
  simp [mSets, upd, h1, h2]
theorem Rel.doors {σ : xS} {B : Nat} {r : Rw} (h : Rel σ B r) {a b : Nat} (ha : a < 5) (hb : b < 5) (hab : a ≠ b) {x' : Int32} {v : Bool} (hx : ∀ i, i < 32 → bt x' i = if i = xpos a b then v else bt (σ (B + 1) 2) i) : Rel (ups σ (B + 1) (upd (σ (B + 1)) 2 x')) B (mSets r a b (if v = true then 1 else 0)) := by
  refine ⟨fun j hj => ?_, fun c d hc hd hcd => ?_⟩
  · have h57 : j < 32 ∨ 57 ≤ j := by rcases hj with q | q | q | q <;> omega
    have hj2 : lvP r j := by
      unfold lvP at hj ⊢
      rw [mSets_out ha hb (Or.inl (by decide)), mSets_out ha hb (Or.inl (by decide)), mSets_out ha hb (Or.inl (by decide))] at hj
      exact hj
    rw [mSets_out ha hb h57, ← h.1 j hj2]
    by_cases e : 1 = (pl j).1
    · rw [← e, ups_eq]
      have : ¬ (pl j).2 = 2 := fun q => pl_door j (lv_lt5 hj2) (Prod.ext e.symm q)
      simp [upd, this]
    · rw [ups_ne (by omega)]
  · rw [ups_eq]
    have e1 : upd (σ (B + 1)) 2 x' 2 = x' := by simp [upd]
    rw [e1, and_xbit hc hd, hx _ (xpos_lt c hc d hd)]
    have h0 := h.2 c d hc hd hcd
    rw [and_xbit hc hd] at h0
    rcases xpos_inj ha hb hc hd hab hcd with q | ⟨rfl, rfl⟩ | ⟨rfl, rfl⟩
    · have q1 : ¬ xpos c d = xpos a b := fun e => q e.symm
      rw [if_neg q1, h0]
      have n1 : ¬ (32 + 5 * c + d = 32 + 5 * a + b) := by
        intro e
        have e1 : c = a := by omega
        have e2 : d = b := by omega
        exact q1 (by rw [e1, e2])
      have n2 : ¬ (32 + 5 * c + d = 32 + 5 * b + a) := by
        intro e
        have e1 : c = b := by omega
        have e2 : d = a := by omega
        exact q1 (by rw [e1, e2]; exact xpos_comm hab)
      simp [mSets, upd, n1, n2]
    · rw [if_pos rfl]
      cases v <;> simp [mSets, upd]
    · rw [if_pos (xpos_comm hab)]
      cases v <;> simp [mSets, upd]
set_option maxHeartbeats 4000000 in
set_option maxRecDepth 100000 in
theorem e_X3_doorBit (σ : xS) (τ : xT) (a b : Nat) (ha : a < 5) (hb : b < 5) : Xi mX3_doorBit [.int (nI a), .int (nI b)] σ τ (fun o σ1 τ1 => o = (xbit a b) ∧ σ = σ1 ∧ τ = τ1) := by
  refine Xi_mk (L := [some (.int (nI a)), some (.int (nI b))]) (by decide) rfl (Nat.le_of_ble_eq_true rfl) rfl (fun x C => ?_)
  refine y_iconst (v := 1) C dX3_doorBit_0 (by decide) ?_
  refine y_iload_n C dX3_doorBit_1 rfl ?_
  refine y_iload_n C dX3_doorBit_2 rfl ?_
  refine y_icmp_ge (t := 14) C dX3_doorBit_3 (by decide) (fun c3 => ?_) (fun c3 => ?_)
  · -- t
    refine y_iload_n C dX3_doorBit_14 rfl ?_
    refine y_iconst (v := 5) C dX3_doorBit_15 (by decide) ?_
    refine y_imul C dX3_doorBit_16 ?_
    refine y_iload_n C dX3_doorBit_17 rfl ?_
    refine y_iadd C dX3_doorBit_18 ?_
    refine y_ishl C dX3_doorBit_19 ?_
    exact y_iret C rfl dX3_doorBit_20 (⟨by unfold xbit; (first | rw [if_neg (Nat.not_lt.mpr ((nI_leI (a := b) (b := a) (by omega) (by omega)).mp c3))] | rw [if_pos (Nat.lt_of_not_le (fun q => c3 ((nI_leI (a := b) (b := a) (by omega) (by omega)).mpr q)))]); simp only [← nI_add, ← pk_mul]; rfl, rfl, rfl⟩)
  · -- f
    refine y_iload_n C dX3_doorBit_6 rfl ?_
    refine y_iconst (v := 5) C dX3_doorBit_7 (by decide) ?_
    refine y_imul C dX3_doorBit_8 ?_
    refine y_iload_n C dX3_doorBit_9 rfl ?_
    refine y_iadd C dX3_doorBit_10 ?_
    refine y_goto (t := 19) C dX3_doorBit_11 (by decide) ?_
    refine y_ishl C dX3_doorBit_19 ?_
    exact y_iret C rfl dX3_doorBit_20 (⟨by unfold xbit; (first | rw [if_neg (Nat.not_lt.mpr ((nI_leI (a := b) (b := a) (by omega) (by omega)).mp c3))] | rw [if_pos (Nat.lt_of_not_le (fun q => c3 ((nI_leI (a := b) (b := a) (by omega) (by omega)).mpr q)))]); simp only [← nI_add, ← pk_mul]; rfl, rfl, rfl⟩)
set_option maxHeartbeats 4000000 in
set_option maxRecDepth 100000 in
theorem e_X3_hasOpenDoor {B : Nat} (hB : isW B) {r : Rw} (σ : xS) (τ : xT) (hR : Rel σ B r) (a b : Nat) (ha : a < 5) (hb : b < 5) (hab : a ≠ b) : Xi mX3_hasOpenDoor [.ref (B + 1), .int (nI a), .int (nI b)] σ τ (fun o σ1 τ1 => o = (mDoorI r a b) ∧ σ = σ1 ∧ τ = τ1) := by
  refine Xi_mk (L := [some (.ref (B + 1)), some (.int (nI a)), some (.int (nI b))]) (by decide) rfl (Nat.le_of_ble_eq_true rfl) rfl (fun x C => ?_)
  refine y_aload_n C dX3_hasOpenDoor_0 rfl ?_
  refine g_X3_openDoors C hB dX3_hasOpenDoor_1 (by decide +kernel) (by decide +kernel) ?_
  refine y_iload_n C dX3_hasOpenDoor_4 rfl ?_
  refine y_iload_n C dX3_hasOpenDoor_5 rfl ?_
  refine y_callSi C (e_X3_doorBit _ _ a b ha hb) dX3_hasOpenDoor_6 rfl gX3_hasOpenDoor_X3_doorBit rfl qX3_doorBit ⟨rfl, rfl⟩ ⟨Nat.le_of_ble_eq_true rfl, Nat.le_of_ble_eq_true rfl⟩ rfl (Nat.le_of_ble_eq_true rfl) ⟨Nat.zero_le _, Nat.zero_le _⟩ (fun v1 σ1 τ1 hq => ?_)
  obtain ⟨rfl, rfl, rfl⟩ := hq
  refine y_iand C dX3_hasOpenDoor_9 ?_
  refine y_if_eq (t := 17) C dX3_hasOpenDoor_10 (by decide) (fun c10 => ?_) (fun c10 => ?_)
  · -- t
    refine y_iconst (v := 0) C dX3_hasOpenDoor_17 (by decide) ?_
    exact y_zret C rfl dX3_hasOpenDoor_18 (by first | exact Or.inl rfl | exact Or.inr rfl) (⟨by have h := hR.2 a b ha hb hab; simp only [mDoorI]; first | (rw [if_pos (h.mp c10)]; done) | (rw [if_neg (fun q => h.mpr q c10)]; done), rfl, rfl⟩)
  · -- f
    refine y_iconst (v := 1) C dX3_hasOpenDoor_13 (by decide) ?_
    refine y_goto (t := 18) C dX3_hasOpenDoor_14 (by decide) ?_
    exact y_zret C rfl dX3_hasOpenDoor_18 (by first | exact Or.inl rfl | exact Or.inr rfl) (⟨by have h := hR.2 a b ha hb hab; simp only [mDoorI]; first | (rw [if_pos (h.mp c10)]; done) | (rw [if_neg (fun q => h.mpr q c10)]; done), rfl, rfl⟩)
set_option maxHeartbeats 4000000 in
set_option maxRecDepth 100000 in
theorem e_X3_putDoor {B : Nat} (hB : isW B) {r : Rw} (σ : xS) (τ : xT) (hR : Rel σ B r) (a b : Nat) (ha : a < 5) (hb : b < 5) (hab : a ≠ b) (o : Int32) (ho : o = 0 ∨ o = 1) : Xv mX3_putDoor [.ref (B + 1), .int (nI a), .int (nI b), .int o] σ τ (fun σ1 τ1 => Rel σ1 B (mSets r a b (o)) ∧ Fr (wS B) σ σ1 ∧ τ = τ1) := by
  refine Xv_mk (L := [some (.ref (B + 1)), some (.int (nI a)), some (.int (nI b)), some (.int o)]) (by decide) rfl (Nat.le_of_ble_eq_true rfl) rfl (fun x C => ?_)
  refine y_iload_n C dX3_putDoor_0 rfl ?_
  refine y_if_eq (t := 21) C dX3_putDoor_1 (by decide) (fun c1 => ?_) (fun c1 => ?_)
  · -- t
    refine y_aload_n C dX3_putDoor_21 rfl ?_
    refine y_dup C dX3_putDoor_22 rfl ?_
    refine g_X3_openDoors C hB dX3_putDoor_23 (by decide +kernel) (by decide +kernel) ?_
    refine y_iload_n C dX3_putDoor_26 rfl ?_
    refine y_iload_n C dX3_putDoor_27 rfl ?_
    refine y_callSi C (e_X3_doorBit _ _ a b ha hb) dX3_putDoor_28 rfl gX3_putDoor_X3_doorBit rfl qX3_doorBit ⟨rfl, rfl⟩ ⟨Nat.le_of_ble_eq_true rfl, Nat.le_of_ble_eq_true rfl⟩ rfl (Nat.le_of_ble_eq_true rfl) ⟨Nat.zero_le _, Nat.zero_le _⟩ (fun v1 σ1 τ1 hq => ?_)
    obtain ⟨rfl, rfl, rfl⟩ := hq
    refine y_iconst (v := -1) C dX3_putDoor_31 (by decide) ?_
    refine y_ixor C dX3_putDoor_32 ?_
    refine y_iand C dX3_putDoor_33 ?_
    refine p_X3_openDoors C hB dX3_putDoor_34 (by decide +kernel) (by decide +kernel) ?_
    exact y_vret C rfl dX3_putDoor_37 (⟨by
        first
          | (obtain rfl : o = 1 := ho.resolve_left c1
             refine hR.doors ha hb hab (v := true) (fun i hi => ?_)
             rw [b_or, xbit_bt a ha b hb i hi]
             by_cases e : i = xpos a b <;> simp [e])
          | (obtain rfl : o = 0 := c1
             refine hR.doors ha hb hab (v := false) (fun i hi => ?_)
             rw [b_and, b_xor, xbit_bt a ha b hb i hi, b_m1 i hi]
             by_cases e : i = xpos a b <;> simp [e]), Fr.ups (wS_in (d := 1) (by decide)), rfl⟩)
  · -- f
    refine y_aload_n C dX3_putDoor_4 rfl ?_
    refine y_dup C dX3_putDoor_5 rfl ?_
    refine g_X3_openDoors C hB dX3_putDoor_6 (by decide +kernel) (by decide +kernel) ?_
    refine y_iload_n C dX3_putDoor_9 rfl ?_
    refine y_iload_n C dX3_putDoor_10 rfl ?_
    refine y_callSi C (e_X3_doorBit _ _ a b ha hb) dX3_putDoor_11 rfl gX3_putDoor_X3_doorBit rfl qX3_doorBit ⟨rfl, rfl⟩ ⟨Nat.le_of_ble_eq_true rfl, Nat.le_of_ble_eq_true rfl⟩ rfl (Nat.le_of_ble_eq_true rfl) ⟨Nat.zero_le _, Nat.zero_le _⟩ (fun v1 σ1 τ1 hq => ?_)
    obtain ⟨rfl, rfl, rfl⟩ := hq
    refine y_ior C dX3_putDoor_14 ?_
    refine p_X3_openDoors C hB dX3_putDoor_15 (by decide +kernel) (by decide +kernel) ?_
    refine y_goto (t := 37) C dX3_putDoor_18 (by decide) ?_
    exact y_vret C rfl dX3_putDoor_37 (⟨by
        first
          | (obtain rfl : o = 1 := ho.resolve_left c1
             refine hR.doors ha hb hab (v := true) (fun i hi => ?_)
             rw [b_or, xbit_bt a ha b hb i hi]
             by_cases e : i = xpos a b <;> simp [e])
          | (obtain rfl : o = 0 := c1
             refine hR.doors ha hb hab (v := false) (fun i hi => ?_)
             rw [b_and, b_xor, xbit_bt a ha b hb i hi, b_m1 i hi]
             by_cases e : i = xpos a b <;> simp [e]), Fr.ups (wS_in (d := 1) (by decide)), rfl⟩)
set_option maxHeartbeats 4000000 in
set_option maxRecDepth 100000 in
theorem e_X3_turnDoor {B : Nat} (hB : isW B) {r : Rw} (σ : xS) (τ : xT) (hR : Rel σ B r) (a b : Nat) (ha : a < 5) (hb : b < 5) (hab : a ≠ b) : Xv mX3_turnDoor [.ref (B + 1), .int (nI a), .int (nI b)] σ τ (fun σ1 τ1 => Rel σ1 B (mSets r a b (if mDoorI r a b = 0 then 1 else 0)) ∧ Fr (wS B) σ σ1 ∧ τ = τ1) := by
  refine Xv_mk (L := [some (.ref (B + 1)), some (.int (nI a)), some (.int (nI b))]) (by decide) rfl (Nat.le_of_ble_eq_true rfl) rfl (fun x C => ?_)
  refine y_aload_n C dX3_turnDoor_0 rfl ?_
  refine y_dup C dX3_turnDoor_1 rfl ?_
  refine g_X3_openDoors C hB dX3_turnDoor_2 (by decide +kernel) (by decide +kernel) ?_
  refine y_iload_n C dX3_turnDoor_5 rfl ?_
  refine y_iload_n C dX3_turnDoor_6 rfl ?_
  refine y_callSi C (e_X3_doorBit _ _ a b ha hb) dX3_turnDoor_7 rfl gX3_turnDoor_X3_doorBit rfl qX3_doorBit ⟨rfl, rfl⟩ ⟨Nat.le_of_ble_eq_true rfl, Nat.le_of_ble_eq_true rfl⟩ rfl (Nat.le_of_ble_eq_true rfl) ⟨Nat.zero_le _, Nat.zero_le _⟩ (fun v1 σ1 τ1 hq => ?_)
  obtain ⟨rfl, rfl, rfl⟩ := hq
  refine y_ixor C dX3_turnDoor_10 ?_
  refine p_X3_openDoors C hB dX3_turnDoor_11 (by decide +kernel) (by decide +kernel) ?_
  exact y_vret C rfl dX3_turnDoor_14 (⟨by
      have h0 := hR.2 a b ha hb hab
      rw [and_xbit ha hb] at h0
      have e0 : (mDoorI r a b = 0) ↔ bt (σ (B + 1) 2) (xpos a b) = false := by
        unfold mDoorI
        by_cases q : r (32 + 5 * a + b) = 1
        · have := h0.mpr q; simp [q, this]
        · have := fun z => q (h0.mp z); simp [q]; simpa using this
      have h := hR.doors ha hb hab (v := !bt (σ (B + 1) 2) (xpos a b)) (x' := σ (B + 1) 2 ^^^ xbit a b) (fun i hi => by
        rw [b_xor, xbit_bt a ha b hb i hi]
        by_cases e : i = xpos a b <;> simp [e])
      have e2 : (if (!bt (σ (B + 1) 2) (xpos a b)) = true then (1 : Int32) else 0) = if mDoorI r a b = 0 then 1 else 0 := by
        by_cases q : bt (σ (B + 1) 2) (xpos a b) = false
        · rw [if_pos (e0.mpr q)]; simp [q]
        · rw [if_neg (fun z => q (e0.mp z))]; simp [q]
      rw [e2] at h
      exact h, Fr.ups (wS_in (d := 1) (by decide)), rfl⟩)
set_option maxHeartbeats 4000000 in
set_option maxRecDepth 100000 in
theorem e_X8_copyRow (σ : xS) (τ : xT) (a1 a2 N : Nat) (h1 : a1 < 165) (h2 : a2 < 165) (hs1 : xSH a1 = .inr (0, N)) (hs2 : xSH a2 = .inr (0, N)) (hN : N < 2 ^ 31) : Xv mX8_copyRow [.ref a1, .ref a2] σ τ (fun σ1 τ1 => (∀ i, i < N → σ1 a2 i = σ a1 i) ∧ Fr (fun a => a = a2) σ σ1 ∧ τ = τ1) := by
  refine Xv_mk (L := [some (.ref a1), some (.ref a2)]) (by decide) rfl (Nat.le_of_ble_eq_true rfl) rfl (fun x C => ?_)
  refine y_aload_n C dX8_copyRow_0 rfl ?_
  refine y_iconst (v := 0) C dX8_copyRow_1 (by decide) ?_
  refine y_aload_n C dX8_copyRow_2 rfl ?_
  refine y_iconst (v := 0) C dX8_copyRow_3 (by decide) ?_
  refine y_aload_n C dX8_copyRow_4 rfl ?_
  refine y_alen C dX8_copyRow_5 h1 hs1 ?_
  refine y_aload_n C dX8_copyRow_6 rfl ?_
  refine y_alen C dX8_copyRow_7 h2 hs2 ?_
  refine y_mmin C dX8_copyRow_8 (by decide +kernel) (by decide +kernel) (by decide +kernel) (by decide +kernel) rfl (Nat.le_of_ble_eq_true rfl) (Nat.le_of_ble_eq_true rfl) ⟨Nat.zero_le _, Nat.zero_le _⟩ ?_
  refine y_topE (nI N) (by split <;> rfl) ?_
  refine y_copy C N dX8_copyRow_11 (by decide +kernel) (by decide +kernel) (by decide +kernel) (by decide +kernel) rfl (Nat.le_of_ble_eq_true rfl) (Nat.le_of_ble_eq_true rfl) h1 h2 hs1 hs2 hN rfl (Nat.le_refl _) ?_
  exact y_vret C rfl dX8_copyRow_14 (⟨fun i hi => by rw [ups_eq]; simp [va_cpy, hi], Fr.ups rfl, rfl⟩)
