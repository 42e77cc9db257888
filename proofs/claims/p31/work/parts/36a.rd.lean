/-! READING CALLS, as the law makes them; saving calls and undo; what calls answer is not negative -/
section RD
variable {r : Rw} {R ns nr ne t kp : Nat} {qs : Nat → Rw}
theorem lit6 : ∀ w, w < 15 → kW (nI w) 0 14 = 0 := by decide +kernel
theorem Xs_v {M : xM} {as : List Value} {v v' : Int32} {r1 : Rw} {kp1 : Nat} {qs1 : Nat → Rw} (h : Xs M as r kp qs v r1 kp1 qs1) (e : v = v') : Xs M as r kp qs v' r1 kp1 qs1 := e ▸ h
theorem num_is0 : mNum r 0 = r 0 := by
  unfold mNum
  rw [if_neg (by decide), if_neg (by decide), if_neg (by decide), if_neg (by decide), if_neg (by decide), if_neg (by decide)]
  exact congrArg r (by decide)
theorem rd_info0 (G : Gd r R ns nr ne t) (hk : kp ≤ 4) : Xs mL_info [.ref 0, .int 0] r kp qs (r 0) r kp qs := Xs_v (s_info G.1 hk 0 (by decide)) (num_is0.trans (rfl))
theorem num_is1 : mNum r 1 = r 1 := by
  unfold mNum
  rw [if_neg (by decide), if_neg (by decide), if_neg (by decide), if_neg (by decide), if_neg (by decide), if_neg (by decide)]
  exact congrArg r (by decide)
theorem rd_info1 (G : Gd r R ns nr ne t) (hk : kp ≤ 4) : Xs mL_info [.ref 0, .int 1] r kp qs (r 1) r kp qs := Xs_v (s_info G.1 hk 1 (by decide)) (num_is1.trans (rfl))
theorem num_is4 : mNum r 4 = r 4 := by
  unfold mNum
  rw [if_neg (by decide), if_neg (by decide), if_neg (by decide), if_neg (by decide), if_neg (by decide), if_neg (by decide)]
  exact congrArg r (by decide)
theorem rd_info4 (G : Gd r R ns nr ne t) (hk : kp ≤ 4) : Xs mL_info [.ref 0, .int 4] r kp qs (r 4) r kp qs := Xs_v (s_info G.1 hk 4 (by decide)) (num_is4.trans (rfl))
theorem num_is5 : mNum r 5 = r 5 := by
  unfold mNum
  rw [if_neg (by decide), if_neg (by decide), if_neg (by decide), if_neg (by decide), if_neg (by decide), if_neg (by decide)]
  exact congrArg r (by decide)
theorem rd_info5 (G : Gd r R ns nr ne t) (hk : kp ≤ 4) : Xs mL_info [.ref 0, .int 5] r kp qs (r 5) r kp qs := Xs_v (s_info G.1 hk 5 (by decide)) (num_is5.trans (rfl))
theorem num_is6 : mNum r 6 = r 6 := by
  unfold mNum
  rw [if_neg (by decide), if_neg (by decide), if_neg (by decide), if_neg (by decide), if_neg (by decide), if_neg (by decide)]
  exact congrArg r (by decide)
theorem rd_info6 (G : Gd r R ns nr ne t) (hk : kp ≤ 4) : Xs mL_info [.ref 0, .int 6] r kp qs (nI R) r kp qs := Xs_v (s_info G.1 hk 6 (by decide)) (num_is6.trans (G.1.1.1.1))
theorem num_is7 : mNum r 7 = r 7 := by
  unfold mNum
  rw [if_neg (by decide), if_neg (by decide), if_neg (by decide), if_neg (by decide), if_neg (by decide), if_neg (by decide)]
  exact congrArg r (by decide)
theorem rd_info7 (G : Gd r R ns nr ne t) (hk : kp ≤ 4) : Xs mL_info [.ref 0, .int 7] r kp qs (nI t) r kp qs := Xs_v (s_info G.1 hk 7 (by decide)) (num_is7.trans (G.1.1.2.2.2.2.1))
theorem num_is8 : mNum r 8 = r 8 := by
  unfold mNum
  rw [if_neg (by decide), if_neg (by decide), if_neg (by decide), if_neg (by decide), if_neg (by decide), if_neg (by decide)]
  exact congrArg r (by decide)
theorem rd_info8 (G : Gd r R ns nr ne t) (hk : kp ≤ 4) : Xs mL_info [.ref 0, .int 8] r kp qs (r 8) r kp qs := Xs_v (s_info G.1 hk 8 (by decide)) (num_is8.trans (rfl))
theorem num_is9 : mNum r 9 = mStr r := by
  unfold mNum
  rw [if_pos rfl]
theorem rd_info9 (G : Gd r R ns nr ne t) (hk : kp ≤ 4) : Xs mL_info [.ref 0, .int 9] r kp qs (mStr r) r kp qs := Xs_v (s_info G.1 hk 9 (by decide)) (num_is9.trans (rfl))
theorem num_is10 : mNum r 10 = r 9 := by
  unfold mNum
  rw [if_neg (by decide), if_pos rfl]
theorem rd_info10 (G : Gd r R ns nr ne t) (hk : kp ≤ 4) : Xs mL_info [.ref 0, .int 10] r kp qs (r 9) r kp qs := Xs_v (s_info G.1 hk 10 (by decide)) (num_is10.trans (rfl))
theorem num_is11 : mNum r 11 = mDra r := by
  unfold mNum
  rw [if_neg (by decide), if_neg (by decide), if_pos rfl]
theorem rd_info11 (G : Gd r R ns nr ne t) (hk : kp ≤ 4) : Xs mL_info [.ref 0, .int 11] r kp qs (mDra r) r kp qs := Xs_v (s_info G.1 hk 11 (by decide)) (num_is11.trans (rfl))
theorem num_is12 : mNum r 12 = r 10 := by
  unfold mNum
  rw [if_neg (by decide), if_neg (by decide), if_neg (by decide), if_pos rfl]
theorem rd_info12 (G : Gd r R ns nr ne t) (hk : kp ≤ 4) : Xs mL_info [.ref 0, .int 12] r kp qs (nI ns) r kp qs := Xs_v (s_info G.1 hk 12 (by decide)) (num_is12.trans (G.1.1.2.1.1))
theorem num_is13 : mNum r 13 = r 11 := by
  unfold mNum
  rw [if_neg (by decide), if_neg (by decide), if_neg (by decide), if_neg (by decide), if_pos rfl]
theorem rd_info13 (G : Gd r R ns nr ne t) (hk : kp ≤ 4) : Xs mL_info [.ref 0, .int 13] r kp qs (nI nr) r kp qs := Xs_v (s_info G.1 hk 13 (by decide)) (num_is13.trans (G.1.1.2.2.1.1))
theorem num_is14 : mNum r 14 = r 12 := by
  unfold mNum
  rw [if_neg (by decide), if_neg (by decide), if_neg (by decide), if_neg (by decide), if_neg (by decide), if_pos rfl]
theorem rd_info14 (G : Gd r R ns nr ne t) (hk : kp ≤ 4) : Xs mL_info [.ref 0, .int 14] r kp qs (nI ne) r kp qs := Xs_v (s_info G.1 hk 14 (by decide)) (num_is14.trans (G.1.1.2.2.2.1.1))
theorem kRW_in (G : Gd r R ns nr ne t) {i : Nat} (hi : i < R) {v lo hi9 : Int32} (h : ¬ mWithI v lo hi9 = 0) : kRW r (nI i) v lo hi9 = 0 := by
  have h4 := G.1.1.1.2.2
  unfold kRW
  rw [if_neg (mRoomI_ne.mpr ⟨nI_pos' (by omega), by rw [G.1.1.1.1]; exact nI_lt hi (by omega)⟩), if_neg h]
theorem kSW_in (G : Gd r R ns nr ne t) {i : Nat} (hi : i < ns) {v lo hi9 : Int32} (h : ¬ mWithI v lo hi9 = 0) : kSW r (nI i) v lo hi9 = 0 := by
  have h4 := G.1.1.2.1.2
  unfold kSW
  rw [if_neg (mSensI_ne.mpr ⟨nI_pos' (by omega), by rw [G.1.1.2.1.1]; exact nI_lt hi (by omega)⟩), if_neg h]
theorem rd_room0 (G : Gd r R ns nr ne t) (hk : kp ≤ 4) {i : Nat} (hi : i < R) : Xs mL_room [.ref 0, .int (nI i), .int 0] r kp qs (r (20 + i)) r kp qs := by
  have h4 := G.1.1.1.2.2
  refine Xs_v (s_room G.1 hk (nI i) 0 (kRW_in G hi (by decide))) ?_
  rw [cN_nI (by omega)]
  unfold mRooT
  rw [if_pos rfl]
theorem rd_room1 (G : Gd r R ns nr ne t) (hk : kp ≤ 4) {i : Nat} (hi : i < R) : Xs mL_room [.ref 0, .int (nI i), .int 1] r kp qs (r (24 + i)) r kp qs := by
  have h4 := G.1.1.1.2.2
  refine Xs_v (s_room G.1 hk (nI i) 1 (kRW_in G hi (by decide))) ?_
  rw [cN_nI (by omega)]
  unfold mRooT
  rw [if_neg (by decide), if_pos rfl]
theorem rd_room2 (G : Gd r R ns nr ne t) (hk : kp ≤ 4) {i : Nat} (hi : i < R) : Xs mL_room [.ref 0, .int (nI i), .int 2] r kp qs (r (28 + i)) r kp qs := by
  have h4 := G.1.1.1.2.2
  refine Xs_v (s_room G.1 hk (nI i) 2 (kRW_in G hi (by decide))) ?_
  rw [cN_nI (by omega)]
  unfold mRooT
  rw [if_neg (by decide), if_neg (by decide), if_pos rfl]
theorem rd_room3 (G : Gd r R ns nr ne t) (hk : kp ≤ 4) {i : Nat} (hi : i < R) : Xs mL_room [.ref 0, .int (nI i), .int 3] r kp qs (mAlaI r i) r kp qs := by
  have h4 := G.1.1.1.2.2
  refine Xs_v (s_room G.1 hk (nI i) 3 (kRW_in G hi (by decide))) ?_
  rw [cN_nI (by omega)]
  unfold mRooT
  rw [if_neg (by decide), if_neg (by decide), if_neg (by decide), if_pos rfl]
theorem rd_room4 (G : Gd r R ns nr ne t) (hk : kp ≤ 4) {i : Nat} (hi : i < R) : Xs mL_room [.ref 0, .int (nI i), .int 4] r kp qs (mAgrI r (nI i)) r kp qs := by
  have h4 := G.1.1.1.2.2
  refine Xs_v (s_room G.1 hk (nI i) 4 (kRW_in G hi (by decide))) ?_
  rw [cN_nI (by omega)]
  unfold mRooT
  rw [if_neg (by decide), if_neg (by decide), if_neg (by decide), if_neg (by decide), if_pos rfl]
theorem rd_room5 (G : Gd r R ns nr ne t) (hk : kp ≤ 4) {i : Nat} (hi : i < R) : Xs mL_room [.ref 0, .int (nI i), .int 5] r kp qs (mVts r (nI i) ns) r kp qs := by
  have h4 := G.1.1.1.2.2
  refine Xs_v (s_room G.1 hk (nI i) 5 (kRW_in G hi (by decide))) ?_
  rw [cN_nI (by omega)]
  unfold mRooT
  rw [if_neg (by decide), if_neg (by decide), if_neg (by decide), if_neg (by decide), if_neg (by decide), if_pos rfl, inv_cs G.1]
theorem rd_room6 (G : Gd r R ns nr ne t) (hk : kp ≤ 4) {i : Nat} (hi : i < R) : Xs mL_room [.ref 0, .int (nI i), .int 6] r kp qs (mWei r (mVts r (nI i) ns) ns) r kp qs := by
  have h4 := G.1.1.1.2.2
  refine Xs_v (s_room G.1 hk (nI i) 6 (kRW_in G hi (by decide))) ?_
  rw [cN_nI (by omega)]
  unfold mRooT
  rw [if_neg (by decide), if_neg (by decide), if_neg (by decide), if_neg (by decide), if_neg (by decide), if_neg (by decide), inv_cs G.1]
theorem rd_sensor0 (G : Gd r R ns nr ne t) (hk : kp ≤ 4) {i : Nat} (hi : i < ns) : Xs mL_sensor [.ref 0, .int (nI i), .int 0] r kp qs (r (57 + 7 * i + 0)) r kp qs := by
  have h4 := G.1.1.2.1.2
  refine Xs_v (s_sensor G.1 hk (nI i) 0 (kSW_in G hi (by decide))) ?_
  rw [cN_nI (by omega)]
  unfold mSenT
  rw [if_neg (by decide), if_neg (by decide)]
  exact congrArg r (congrArg (fun z => 57 + 7 * i + z) (by decide))
theorem rd_sensor3 (G : Gd r R ns nr ne t) (hk : kp ≤ 4) {i : Nat} (hi : i < ns) : Xs mL_sensor [.ref 0, .int (nI i), .int 3] r kp qs (r (57 + 7 * i + 3)) r kp qs := by
  have h4 := G.1.1.2.1.2
  refine Xs_v (s_sensor G.1 hk (nI i) 3 (kSW_in G hi (by decide))) ?_
  rw [cN_nI (by omega)]
  unfold mSenT
  rw [if_neg (by decide), if_neg (by decide)]
  exact congrArg r (congrArg (fun z => 57 + 7 * i + z) (by decide))
theorem rd_sensor4 (G : Gd r R ns nr ne t) (hk : kp ≤ 4) {i : Nat} (hi : i < ns) : Xs mL_sensor [.ref 0, .int (nI i), .int 4] r kp qs (r (57 + 7 * i + 4)) r kp qs := by
  have h4 := G.1.1.2.1.2
  refine Xs_v (s_sensor G.1 hk (nI i) 4 (kSW_in G hi (by decide))) ?_
  rw [cN_nI (by omega)]
  unfold mSenT
  rw [if_neg (by decide), if_neg (by decide)]
  exact congrArg r (congrArg (fun z => 57 + 7 * i + z) (by decide))
theorem rd_sensor5 (G : Gd r R ns nr ne t) (hk : kp ≤ 4) {i : Nat} (hi : i < ns) : Xs mL_sensor [.ref 0, .int (nI i), .int 5] r kp qs (r (57 + 7 * i + 5)) r kp qs := by
  have h4 := G.1.1.2.1.2
  refine Xs_v (s_sensor G.1 hk (nI i) 5 (kSW_in G hi (by decide))) ?_
  rw [cN_nI (by omega)]
  unfold mSenT
  rw [if_neg (by decide), if_neg (by decide)]
  exact congrArg r (congrArg (fun z => 57 + 7 * i + z) (by decide))
theorem rd_sensor6 (G : Gd r R ns nr ne t) (hk : kp ≤ 4) {i : Nat} (hi : i < ns) : Xs mL_sensor [.ref 0, .int (nI i), .int 6] r kp qs (r (57 + 7 * i + 6)) r kp qs := by
  have h4 := G.1.1.2.1.2
  refine Xs_v (s_sensor G.1 hk (nI i) 6 (kSW_in G hi (by decide))) ?_
  rw [cN_nI (by omega)]
  unfold mSenT
  rw [if_neg (by decide), if_neg (by decide)]
  exact congrArg r (congrArg (fun z => 57 + 7 * i + z) (by decide))
theorem rd_sensor8 (G : Gd r R ns nr ne t) (hk : kp ≤ 4) {i : Nat} (hi : i < ns) : Xs mL_sensor [.ref 0, .int (nI i), .int 8] r kp qs (mVotI r i) r kp qs := by
  have h4 := G.1.1.2.1.2
  refine Xs_v (s_sensor G.1 hk (nI i) 8 (kSW_in G hi (by decide))) ?_
  rw [cN_nI (by omega)]
  unfold mSenT
  rw [if_neg (by decide), if_pos rfl]
theorem rd_told1 (G : Gd r R ns nr ne t) (hk : kp ≤ 4) : Xs mL_told [.ref 0, .int 1] r kp qs (r 14) r kp qs := Xs_v (s_told G.1 hk 1 (by decide)) (congrArg r (by decide))
theorem rd_told5 (G : Gd r R ns nr ne t) (hk : kp ≤ 4) : Xs mL_told [.ref 0, .int 5] r kp qs (r 18) r kp qs := Xs_v (s_told G.1 hk 5 (by decide)) (congrArg r (by decide))
theorem rd_event0 (G : Gd r R ns nr ne t) (hk : kp ≤ 4) {i : Nat} (hi : i < ne) : Xs mL_event [.ref 0, .int (nI i), .int 0] r kp qs (r (145 + 4 * i + 0)) r kp qs := by
  have h4 := G.1.1.2.2.2.1.2
  refine Xs_v (s_event G.1 hk (nI i) 0 (by decide)) ?_
  rw [if_pos ⟨nI_pos' (by omega), by rw [G.1.1.2.2.2.1.1]; exact nI_lt hi (by omega)⟩, cN_nI (by omega)]
  exact congrArg r (congrArg (fun z => 145 + 4 * i + z) (by decide))
def mOpn (r : Rw) (a b : Nat) : Int32 := if a = b then 0 else mDoorI r a b
theorem rd_isOpen (G : Gd r R ns nr ne t) (hk : kp ≤ 4) {a b : Nat} (ha : a ≤ R) (hb : b ≤ R) : Xs mL_isOpen [.ref 0, .int (nI a), .int (nI b)] r kp qs (mOpn r a b) r kp qs := by
  have h4 := G.1.1.1.2.2
  have hp : ∀ c, c ≤ R → ¬ mPlacI r (nI c) = 0 := fun c hc => mPlacI_ne.mpr ⟨nI_pos' (by omega), by rw [G.1.1.1.1]; exact nI_le hc (by omega)⟩
  refine Xs_v (s_isOpen G.1 hk (nI a) (nI b) (by unfold kOpen; rw [if_neg (fun z => z.elim (hp a ha) (hp b hb))])) ?_
  rw [cN_nI (by omega), cN_nI (by omega)]
  unfold mOpn
  by_cases e : a = b
  · rw [if_pos e, if_pos (Or.inl (by rw [e]))]
  · rw [if_neg e]
    have e2 : ¬ nI a = nI b := fun z => e (by have h1 := congrArg cN z; rw [cN_nI (by omega), cN_nI (by omega)] at h1; exact h1)
    rcases mDoorI_01 r a b with z | z
    · rw [if_pos (Or.inr z), z]
    · rw [if_neg (fun q => q.elim e2 (fun w => by rw [z] at w; exact absurd w (by decide))), z]
theorem rd_apply (G : Gd r R ns nr ne t) : Xg mX8_applying [.ref 0] r kp qs (mFst r) := fun σ τ hRl _ => e_X8_applying σ τ hRl G.1
/-- the base of the checksum: all but the number of records -/
def mBas (r : Rw) (R ns ne : Nat) : Int64 := mxF (fun w => r (13 + w)) 6 (mxE r ne (mxi (mxS r ns (mxR r R R (mxF (fun w => mNum r (nI w)) 15 18750))) (mFst r)))
theorem rd_sum (G : Gd r R ns nr ne t) : Xgl mX8_checksum [.ref 0] r kp qs (31 * mBas r R ns ne + (nI kp).toInt64) := fun σ τ hRl hRc => e_X8_checksum σ τ hRl G.1 hRc
theorem i64_cancel (a b : Int64) : a + b - b = a := by
  rw [Int64.add_sub_cancel]
/-! records -/
def Gs (T : Nat) (kp : Nat) (qs : Nat → Rw) : Prop := kp ≤ 4 ∧ ∀ j, j < kp → Gk (qs j) T
theorem kK_pos (kp : Nat) : 1 ≤ kK kp := by
  unfold kK
  split <;> omega
theorem kQ_top {kp : Nat} (qs : Nat → Rw) (r : Rw) (h : kp ≤ 4) : kQ kp qs r (kK kp - 1) = r := by
  unfold kQ kK
  by_cases e : kp = 4
  · subst e; rfl
  · rw [if_neg e, if_neg e, Nat.add_sub_cancel, if_pos rfl]
theorem Gs.keep {T kp : Nat} {qs : Nat → Rw} (h : Gs T kp qs) {r : Rw} (hr : Gk r T) : Gs T (kK kp) (kQ kp qs r) := by
  obtain ⟨h4, hq⟩ := h
  refine ⟨kK_le h4, fun j hj => ?_⟩
  unfold kK at hj
  unfold kQ
  by_cases e : kp = 4
  · rw [if_pos e] at hj
    rw [if_pos e, if_pos e]
    by_cases e1 : j = 3
    · rw [if_pos e1]; exact hr
    · rw [if_neg e1]; exact hq (j + 1) (by omega)
  · rw [if_neg e] at hj
    rw [if_neg e, if_neg e]
    by_cases e1 : j = kp
    · rw [if_pos e1]; exact hr
    · rw [if_neg e1]; exact hq j (by omega)
theorem Gs.back {T kp : Nat} {qs : Nat → Rw} (h : Gs T kp qs) : Gs T (kp - 1) qs := ⟨by have := h.1; omega, fun j hj => h.2 j (by omega)⟩
theorem Gs.mono {T T' kp : Nat} {qs : Nat → Rw} (h : Gs T kp qs) (hT : T ≤ T') : Gs T' kp qs := ⟨h.1, fun j hj => (h.2 j hj).mono hT⟩
theorem Gk.jam {r : Rw} {T : Nat} (h : Gk r T) : r 3 = 0 ∨ r 3 = 1 := by
  obtain ⟨R, ns, nr, ne, t, G, -⟩ := h
  exact G.1.2.2.2.2.2.1.2.2.1
theorem Gs.jam {T kp : Nat} {qs : Nat → Rw} (h : Gs T kp qs) : ∀ j, j < kp → qs j 3 = 0 ∨ qs j 3 = 1 := fun j hj => (h.2 j hj).jam
theorem Gd.k {r : Rw} {R ns nr ne t T : Nat} (G : Gd r R ns nr ne t) (h : t ≤ T) : Gk r T := ⟨R, ns, nr, ne, t, G, h⟩
/-- undo behind a saving call: the row comes back -/
theorem rd_undo {T : Nat} {q : Rw} {R' ns' nr' ne' t' : Nat} (G : Gd q R' ns' nr' ne' t') (hs : Gs T kp qs) (hr : Gk r T) : Xs mL_undo [.ref 0] q (kK kp) (kQ kp qs r) (nI (kK kp - 1)) r (kK kp - 1) (kQ kp qs r) := by
  have h := s_undo (r := q) (kp := kK kp) (qs := kQ kp qs r) G.1 (kK_le hs.1) (hs.keep hr).jam (by unfold kUnd; rw [if_neg (by have := kK_pos kp; omega)])
  rw [kQ_top qs r hs.1] at h
  exact h
theorem rd_target (G : Gd r R ns nr ne t) (hk : kp ≤ 4) : Xs mL_setTarget [.ref 0, .int (r 9)] r kp qs (r 9) r (kK kp) (kQ kp qs r) := by
  have d9 := G.1.2.2.2.2.2.1.2.2.2.2.2.2
  have h := s_setTarget (qs := qs) G.1 hk (r 9) (by unfold kW; rw [if_neg (mWithI_ne.mpr d9)])
  rw [upd_self] at h
  exact h
/-! what calls answer -/
theorem mBgn_n (q : Rw) : ∀ k, ∃ c, c ≤ k ∧ mBgn q k = nI c := by
  intro k
  induction k with
  | zero => exact ⟨0, Nat.le_refl _, rfl⟩
  | succ k ih =>
    obtain ⟨c, hc, e⟩ := ih
    simp only [mBgn]
    split
    · exact ⟨c + 1, by omega, by rw [e]; exact nI_1 c⟩
    · exact ⟨c, by omega, e⟩
theorem mNew_n (G : Gd r R ns nr ne t) (ht : t < 1000000) : ∃ c, c ≤ 4 ∧ mNew r = nI c := by
  have I2 := G.1.r2 G.2.1 ht
  obtain ⟨c, hc, e⟩ := mBgn_n (mW1 (mR2 r) (cN (mR2 r 10))) (cN (mR2 r 6))
  rw [inv_cR I2] at hc
  exact ⟨c, by have := G.1.1.1.2.2; omega, e⟩
theorem mNewN_n : ∀ (n : Nat) {r : Rw} {ne t : Nat} (x : Nat), Gd r R ns nr ne t → t + n ≤ 1000000 → ∃ c, c ≤ 4 * n ∧ mNewN r n (nI x) = nI (x + c) := by
  intro n
  induction n with
  | zero => intro r ne t x _ _; exact ⟨0, Nat.le_refl _, rfl⟩
  | succ n ih =>
    intro r ne t x G h
    obtain ⟨c, hc, e⟩ := mNew_n G (by omega)
    obtain ⟨d, hd, e2⟩ := ih (x + c) (G.min (by omega)) (by omega)
    refine ⟨c + d, by omega, ?_⟩
    show mNewN (mMin r) n (nI x + mNew r) = _
    rw [e, nI_add, e2, Nat.add_assoc]
theorem pass_nn (G : Gd r R ns nr ne t) (ht : t + 200 ≤ 1000000) {u : Int32} (h : kW u 1 60 = 0) : 0 ≤ mNewN r (cN u) 0 := by
  obtain ⟨w, h1, h2, rfl⟩ := with1 60 (by decide) rfl (kW_0 h)
  rw [cN_nI (by omega)]
  obtain ⟨c, hc, e⟩ := mNewN_n w 0 G (by omega)
  rw [show (0 : Int32) = nI 0 from rfl, e]
  exact nI_pos' (by omega)
end RD
