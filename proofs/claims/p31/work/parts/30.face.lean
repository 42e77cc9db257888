/-! THE FACE: what the calls refuse; a class's state Cl: the row r, kp records qs; the state of the model: Md -/
abbrev eIA : String := "java/lang/IllegalArgumentException"
abbrev eIO : String := "java/lang/IndexOutOfBoundsException"
abbrev eIS : String := "java/lang/IllegalStateException"
def tw (ik ic : Nat) (cls : String) : List Cond := Cond.classLink RX8 ik cls :: Cond.initialized cls :: (vx_atS RX8 ic cls xNm).filter goodWord
def twA : List (Nat × Nat × String) := [(30, 34, eIA), (59, 63, eIO), (140, 144, eIS)]
theorem tw_fit : ∀ q ∈ twA, Bundle.fit q.2.2 = true ∧ q.2.2 ∈ xCast := by decide +kernel
theorem tw_badA : ∀ q ∈ twA, ∀ w ∈ (vx_atS RX8 q.2.1 q.2.2 xNm).filter (fun w => !goodWord w), w ∈ xBad q.2.2 := by decide +kernel
theorem tw_goodA : ∀ q ∈ twA, ∀ w ∈ Cond.classLink RX8 q.1 q.2.2 :: Cond.initialized q.2.2 :: vx_atS RX8 q.2.1 q.2.2 xNm, vx_ot w = true := by decide +kernel
theorem z_thr {x : xC} {M : xM} {pc : Nat} {L : List (Option Value)} {σ : xS} {τ : xT} {PX : String → Prop} {Q : Int32 → xS → xT → Prop} (C : Cz x M []) (hcls : M.1.cls = RX8) {ik is ic : Nat} {cls text : String} (hq : (ik, ic, cls) ∈ twA) (hin : ∀ w ∈ tw ik ic cls, w ∈ M.2.2.2.2.1) (hstr : (RX8, is, text) ∈ xStrs)
    (d0 : decode M.2.1 pc = .ok (.new ik, 3)) (d3 : decode M.2.1 (pc + 3) = .ok (.dup, 1)) (d4 : decode M.2.1 (pc + 4) = .ok (.ldc is, 2)) (d6 : decode M.2.1 (pc + 6) = .ok (.invokespecial ic, 3)) (d9 : decode M.2.1 (pc + 9) = .ok (.athrow, 1))
    (hRM : 5 < M.2.2.2.2.2.frames ∧ 82 ≤ M.2.2.2.2.2.locals ∧ 1 ≤ M.2.2.2.2.2.cells ∧ 6 ≤ M.2.2.2.2.2.slots) (hLn : L.length = M.2.2.1) (hPX : PX cls) : Y x pc L [] σ τ 0 0 (xZi x Q σ τ PX) := by
  obtain ⟨⟨y1, y2, y3⟩, Mr⟩ := M
  have hc : y1 = RX8 := hcls
  subst hc
  exact z_throw C (hin _ List.mem_cons_self) (hin _ (List.mem_cons_of_mem _ List.mem_cons_self)) (tw_fit _ hq).2 (tw_fit _ hq).1 hstr (fun w hw => hin w (List.mem_cons_of_mem _ (List.mem_cons_of_mem _ hw))) (tw_badA _ hq) (tw_goodA _ hq) d0 d3 d4 d6 d9 hRM hLn hPX
theorem z_thrW {x : xC} {M : xM} {pc : Nat} {L : List (Option Value)} {σ : xS} {τ : xT} {PX : String → Prop} {Q : Int32 → xS → xT → Prop} (C : Cz x M []) (hcls : M.1.cls = RX8) {ik is ic : Nat} {cls text : String} (hq : (ik, ic, cls) ∈ twA) (hin : ∀ w ∈ tw ik ic cls, w ∈ M.2.2.2.2.1) (hstr : (RX8, is, text) ∈ xStrs)
    (d0 : decode M.2.1 pc = .ok (.new ik, 3)) (d3 : decode M.2.1 (pc + 3) = .ok (.dup, 1)) (d4 : decode M.2.1 (pc + 4) = .ok (.ldc_w is, 3)) (d7 : decode M.2.1 (pc + 7) = .ok (.invokespecial ic, 3)) (d10 : decode M.2.1 (pc + 10) = .ok (.athrow, 1))
    (hRM : 5 < M.2.2.2.2.2.frames ∧ 82 ≤ M.2.2.2.2.2.locals ∧ 1 ≤ M.2.2.2.2.2.cells ∧ 6 ≤ M.2.2.2.2.2.slots) (hLn : L.length = M.2.2.1) (hPX : PX cls) : Y x pc L [] σ τ 0 0 (xZi x Q σ τ PX) := by
  obtain ⟨⟨y1, y2, y3⟩, Mr⟩ := M
  have hc : y1 = RX8 := hcls
  subst hc
  exact z_throwW C (hin _ List.mem_cons_self) (hin _ (List.mem_cons_of_mem _ List.mem_cons_self)) (tw_fit _ hq).2 (tw_fit _ hq).1 hstr (fun w hw => hin w (List.mem_cons_of_mem _ (List.mem_cons_of_mem _ hw))) (tw_badA _ hq) (tw_goodA _ hq) d0 d3 d4 d7 d10 hRM hLn hPX
def kW (v lo hi : Int32) : Int32 := if mWithI v lo hi = 0 then 1 else 0
def kRW (r : Rw) (u v lo hi : Int32) : Int32 := if mRoomI r u = 0 then 1 else if mWithI v lo hi = 0 then 2 else 0
def kSW (r : Rw) (u v lo hi : Int32) : Int32 := if mSensI r u = 0 then 1 else if mWithI v lo hi = 0 then 2 else 0
def kOpen (r : Rw) (a b : Int32) : Int32 := if mPlacI r a = 0 ∨ mPlacI r b = 0 then 1 else 0
def kDoor (r : Rw) (a b : Int32) : Int32 := if mPlacI r a = 0 ∨ mPlacI r b = 0 then 1 else if a = b then 2 else 0
def kSet (u v : Int32) : Int32 := if mCanI u v = 0 then 1 else 0
def kPeak (r : Rw) (u o n : Int32) : Int32 := if mRoomI r u = 0 then 1 else if mWithI o 0 8 = 0 ∨ mWithI n 1 200 = 0 then 2 else 0
def kASe (r : Rw) (a b c d e : Int32) : Int32 := if mRoomI r a = 0 then 1 else if mWithI b 0 2 = 0 ∨ mWithI c 1 9999 = 0 ∨ mWithI d 0 9 = 0 ∨ mWithI e 1 3 = 0 then 2 else if r 10 = 8 then 3 else 0
def kARu (r : Rw) (k a b c : Int32) : Int32 := if mRoomI r a = 0 then 1 else if mWithI k 0 3 = 0 ∨ mWithI b 0 9999 = 0 ∨ mWithI c 0 8 = 0 then 2 else if r 11 = 8 then 3 else 0
def kRem (r : Rw) (u : Int32) : Int32 := if 0 ≤ u ∧ u < r 11 then 0 else 1
def kAEv (r : Rw) (m k a b : Int32) : Int32 := if mWithI m (r 7 + 1) (r 7 + 999) = 0 ∨ mEvtI r k a b = 0 then 1 else if r 12 = 20 then 2 else 0
def kUnd (kp : Nat) : Int32 := if kp = 0 then 1 else 0
/-- the class's records: in a ring that begins somewhere -/
def Rc (σ : xS) (kp : Nat) (qs : Nat → Rw) : Prop := ∃ o, o < 4 ∧ RecC σ o kp qs
abbrev cS : Nat → Prop := fun q => q < 165
abbrev mS : Nat → Prop := fun q => 165 ≤ q ∧ q < 170
def Cl (σ σ1 : xS) (τ τ1 : xT) (r : Rw) (kp : Nat) (qs : Nat → Rw) : Prop := Rel σ1 1 r ∧ Rc σ1 kp qs ∧ Fr cS σ σ1 ∧ τ = τ1
theorem cS_1 : ∀ a, wS 1 a → cS a := fun a h => by have := h.2; show a < 165; omega
theorem cS_28 : ∀ a, wS 28 a → cS a := fun a h => by have := h.2; show a < 165; omega
theorem cS_r : ∀ a, rS a → cS a := fun _ h => h.2
theorem Rc.kept {σ σ1 : xS} {kp : Nat} {qs : Nat → Rw} {S : Nat → Prop} (h : Rc σ kp qs) (hF : Fr S σ σ1) (hS : ∀ a, 55 ≤ a → a < 165 → ¬ S a) : Rc σ1 kp qs := by
  obtain ⟨o, ho, h⟩ := h
  exact ⟨o, ho, h.kept hF hS⟩
theorem Rc.k1 {σ σ1 : xS} {kp : Nat} {qs : Nat → Rw} (h : Rc σ kp qs) (hF : Fr (wS 1) σ σ1) : Rc σ1 kp qs := h.kept hF (fun a h1 _ q => by have := q.2; omega)
theorem Rc.k28 {σ σ1 : xS} {kp : Nat} {qs : Nat → Rw} (h : Rc σ kp qs) (hF : Fr (wS 28) σ σ1) : Rc σ1 kp qs := h.kept hF (fun a h1 _ q => by have := q.2; omega)
theorem Rel.k28 {σ σ1 : xS} {r : Rw} (h : Rel σ 1 r) (hF : Fr (wS 28) σ σ1) : Rel σ1 1 r := h.kept hF (fun a _ h2 q => by have := q.1; omega)
theorem e_keepZ (σ : xS) (τ : xT) {kp : Nat} {qs : Nat → Rw} (hk : kp ≤ 4) (hC : Rc σ kp qs) {r : Rw} (hR : Rel σ 1 r) (h3 : r 3 = 0 ∨ r 3 = 1) : Xv mX4_keep [.ref 55, .ref 1] σ τ (fun σ1 τ1 => Rc σ1 (kK kp) (kQ kp qs r) ∧ Rel σ1 1 r ∧ Fr rS σ σ1 ∧ τ = τ1) := by
  obtain ⟨o, ho, hC⟩ := hC
  exact Xv_mono (e_keepR σ τ ho hk hC hR h3) (fun σ1 τ1 h => ⟨⟨kO o kp, kO_lt ho, h.1⟩, h.2⟩)
theorem e_giveZ (σ : xS) (τ : xT) {kp : Nat} {qs : Nat → Rw} (hk : kp ≤ 4) (hk1 : 1 ≤ kp) (hC : Rc σ kp qs) (h3 : qs (kp - 1) 3 = 0 ∨ qs (kp - 1) 3 = 1) : Xv mX4_giveBack [.ref 55, .ref 1] σ τ (fun σ1 τ1 => Rc σ1 (kp - 1) qs ∧ Rel σ1 1 (qs (kp - 1)) ∧ Fr cS σ σ1 ∧ τ = τ1) := by
  obtain ⟨o, ho, hC⟩ := hC
  exact Xv_mono (e_giveR σ τ ho hk hk1 hC h3) (fun σ1 τ1 h => ⟨⟨o, ho, h.1⟩, h.2.1, h.2.2.1.mono (fun a q => by
    rcases q with q | q
    · show a < 165; omega
    · exact cS_1 a q), h.2.2.2⟩)
theorem Rc.num {σ : xS} {kp : Nat} {qs : Nat → Rw} (h : Rc σ kp qs) : σ 55 2 = nI kp := by
  obtain ⟨o, ho, h⟩ := h
  exact h.2.1
theorem Inv.jam {r : Rw} {R ns nr ne t tl : Nat} (I : Inv r R ns nr ne t tl) : r 3 = 0 ∨ r 3 = 1 := I.2.2.2.2.2.1.2.2.1
/-! what a number within bounds is -/
theorem room_of {r : Rw} {R ns nr ne t tl : Nat} (I : Inv r R ns nr ne t tl) {u : Int32} (h : ¬ mRoomI r u = 0) : ∃ i, i < R ∧ u = nI i := by
  have h1 := mRoomI_ne.mp h
  rw [I.1.1.1] at h1
  have h2 := I.1.1.2
  obtain ⟨j, hj, e⟩ := rng (m := R) (by omega) h1.1 (Int32.le_of_lt h1.2)
  refine ⟨j, ?_, e⟩
  rw [e] at h1
  exact (nI_ltI (by omega) (by omega)).mp h1.2
theorem plac_of {r : Rw} {R ns nr ne t tl : Nat} (I : Inv r R ns nr ne t tl) {u : Int32} (h : ¬ mPlacI r u = 0) : ∃ i, i ≤ R ∧ u = nI i := by
  have h1 := mPlacI_ne.mp h
  rw [I.1.1.1] at h1
  have h2 := I.1.1.2
  exact rng (m := R) (by omega) h1.1 h1.2
theorem sens_of {r : Rw} {R ns nr ne t tl : Nat} (I : Inv r R ns nr ne t tl) {u : Int32} (h : ¬ mSensI r u = 0) : ∃ i, i < ns ∧ u = nI i := by
  have h1 := mSensI_ne.mp h
  rw [I.1.2.1.1] at h1
  have h2 := I.1.2.1.2
  obtain ⟨j, hj, e⟩ := rng (m := ns) (by omega) h1.1 (Int32.le_of_lt h1.2)
  refine ⟨j, ?_, e⟩
  rw [e] at h1
  exact (nI_ltI (by omega) (by omega)).mp h1.2
theorem in_of {u : Int32} {n : Nat} (hn : n < 2 ^ 30) (h : 0 ≤ u ∧ u < nI n) : ∃ i, i < n ∧ u = nI i := by
  obtain ⟨j, hj, e⟩ := rng (m := n) (by omega) h.1 (Int32.le_of_lt h.2)
  refine ⟨j, ?_, e⟩
  rw [e] at h
  exact (nI_ltI (by omega) (by omega)).mp h.2
theorem with0 (n : Nat) (hn : n < 2 ^ 30) {u hi : Int32} (e : hi = nI n) (h : ¬ mWithI u 0 hi = 0) : ∃ w, w < n + 1 ∧ u = nI w := by
  have h1 := mWithI_ne.mp h
  rw [e] at h1
  obtain ⟨j, hj, e2⟩ := rng (m := n) (by omega) h1.1 h1.2
  exact ⟨j, by omega, e2⟩
theorem with1 (n : Nat) (hn : n < 2 ^ 30) {u hi : Int32} (e : hi = nI n) (h : ¬ mWithI u 1 hi = 0) : ∃ w, 1 ≤ w ∧ w ≤ n ∧ u = nI w := by
  have h1 := mWithI_ne.mp h
  rw [e] at h1
  obtain ⟨j, hj, e2⟩ := rng (m := n) (by omega) (Int32.le_trans (by decide) h1.1) h1.2
  refine ⟨j, ?_, hj, e2⟩
  rcases Nat.eq_zero_or_pos j with q | q
  · rw [e2, q] at h1
    exact absurd h1.1 (by decide)
  · exact q
/-! the class's two tables -/
def sLo (j : Nat) : Int32 := ([0, 2, 0, 0, 0, 0] : List Int32).getD j 0
def sHi (j : Nat) : Int32 := ([60, 9, 30, 1, 8, 999] : List Int32).getD j 0
theorem can_in (w : Nat) (hw : w < 6) (v : Int32) : mCanI (nI w) v = mWithI v (sLo w) (sHi w) := by
  have hz : w = 0 ∨ w = 1 ∨ w = 2 ∨ w = 3 ∨ w = 4 ∨ w = 5 := by omega
  unfold mCanI
  rcases hz with rfl | rfl | rfl | rfl | rfl | rfl
  · rw [if_pos (by decide)]; rfl
  · rw [if_neg (by decide), if_pos (by decide)]; rfl
  · rw [if_neg (by decide), if_neg (by decide), if_pos (by decide)]; rfl
  · rw [if_neg (by decide), if_neg (by decide), if_neg (by decide), if_pos (by decide)]; rfl
  · rw [if_neg (by decide), if_neg (by decide), if_neg (by decide), if_neg (by decide), if_pos (by decide)]; rfl
  · rw [if_neg (by decide), if_neg (by decide), if_neg (by decide), if_neg (by decide), if_neg (by decide), if_pos (by decide)]; rfl
theorem can_out {u : Int32} (v : Int32) (h : mWithI u 0 5 = 0) : mCanI u v = 0 := by
  have g : ∀ w : Int32, mWithI w 0 5 = 1 → ¬ u = w := fun w hw e => by rw [e, hw] at h; exact absurd h (by decide)
  unfold mCanI
  rw [if_neg (g 0 (by decide)), if_neg (g 1 (by decide)), if_neg (g 2 (by decide)), if_neg (g 3 (by decide)), if_neg (g 4 (by decide)), if_neg (g 5 (by decide))]
theorem can_j {w : Nat} {v : Int32} (hw : w < 6) (h : ¬ mWithI v (sLo w) (sHi w) = 0) (e : w = 3) : v = 0 ∨ v = 1 := by
  subst e
  obtain ⟨j, hj, e⟩ := with0 1 (by decide) (hi := sHi 3) rfl h
  have hz : j = 0 ∨ j = 1 := by omega
  rcases hz with rfl | rfl
  · exact Or.inl e
  · exact Or.inr e
/-- getstatic of a table, its place, its int -/
theorem y_lo {x : xC} {M : xM} {pc k n : Nat} {L : List (Option Value)} {st : List Value} {σ : xS} {τ : xT} {Z : State → Prop} (C : Cx x M) {idx w : Nat} {q : Fin 4} (hw : w < 6) (hlink : Cond.fieldLink M.1.cls idx "SmokeGuard" "SETTING_LEAST" "[I" ∈ M.2.2.2.2.1) (hl : L[(q : Nat)]? = some (some (.int (nI w)))) (d0 : decode M.2.1 pc = .ok (.getstatic idx, 3)) (d1 : decode M.2.1 (pc + 3) = .ok (.iload_n q, 1)) (d2 : decode M.2.1 (pc + 4) = .ok (.iaload, 1)) (kk : Y x (pc + 5) L (.int (sLo w) :: st) σ τ k n Z) : Y x pc L st σ τ k n Z := by
  obtain ⟨p, l, e, R, s, m, args, below, meth, c, bs, D, cA⟩ := x
  obtain ⟨hx, hb, hr, hml, hown, hts, hlk, hK, hR, hst, hsz⟩ := C
  intro H locs ls hP hS hL
  obtain ⟨-, ⟨t0, hz, ht⟩, -, -, -, -⟩ := hst
  obtain ⟨cell, g1, g2, g3, g4, g5, g6, g7⟩ := ht
  refine va_gets hx hb hz hS hown (hts _ hlink) (fun _ h => h) d0 ?_
  refine lv_iload_n hx hb d1 rfl (hL.2.2 _ _ hl) ?_
  have hcl : (nI w).toNatClampNeg = w := nI_clamp (by omega)
  exact W.iald (v := .int (sLo w)) hx hb (by rw [hS.2.1 t0 (Array.getElem?_eq_some_iff.mp g1).1 g7]; exact g1) g2 g3 (fun z => z.elim (nI_pos (by omega)) (fun z => by rw [hcl] at z; omega)) (by rw [hcl]; exact g6 w hw) rfl rfl d2 (kk H locs ls hP hS hL)
theorem y_hi {x : xC} {M : xM} {pc k n : Nat} {L : List (Option Value)} {st : List Value} {σ : xS} {τ : xT} {Z : State → Prop} (C : Cx x M) {idx w : Nat} {q : Fin 4} (hw : w < 6) (hlink : Cond.fieldLink M.1.cls idx "SmokeGuard" "SETTING_MOST" "[I" ∈ M.2.2.2.2.1) (hl : L[(q : Nat)]? = some (some (.int (nI w)))) (d0 : decode M.2.1 pc = .ok (.getstatic idx, 3)) (d1 : decode M.2.1 (pc + 3) = .ok (.iload_n q, 1)) (d2 : decode M.2.1 (pc + 4) = .ok (.iaload, 1)) (kk : Y x (pc + 5) L (.int (sHi w) :: st) σ τ k n Z) : Y x pc L st σ τ k n Z := by
  obtain ⟨p, l, e, R, s, m, args, below, meth, c, bs, D, cA⟩ := x
  obtain ⟨hx, hb, hr, hml, hown, hts, hlk, hK, hR, hst, hsz⟩ := C
  intro H locs ls hP hS hL
  obtain ⟨-, -, ⟨t0, hz, ht⟩, -, -, -⟩ := hst
  obtain ⟨cell, g1, g2, g3, g4, g5, g6, g7⟩ := ht
  refine va_gets hx hb hz hS hown (hts _ hlink) (fun _ h => h) d0 ?_
  refine lv_iload_n hx hb d1 rfl (hL.2.2 _ _ hl) ?_
  have hcl : (nI w).toNatClampNeg = w := nI_clamp (by omega)
  exact W.iald (v := .int (sHi w)) hx hb (by rw [hS.2.1 t0 (Array.getElem?_eq_some_iff.mp g1).1 g7]; exact g1) g2 g3 (fun z => z.elim (nI_pos (by omega)) (fun z => by rw [hcl] at z; omega)) (by rw [hcl]; exact g6 w hw) rfl rfl d2 (kk H locs ls hP hS hL)

abbrev mX8_begin : xM := (yX8_begin, cX8_begin, 3, (some .int), wsX8_begin, { frames := 6, cells := 1, slots := 6, locals := 125 })
theorem qX8_begin : yX8_begin.cls ≠ "java/lang/invoke/MethodHandle" ∧ yX8_begin.cls ≠ "java/lang/invoke/VarHandle" ∧ (parseMethodDescriptor yX8_begin.desc).map (fun d => d.parameters.length) = some 1 := by decide +kernel
theorem twX8_begin_a : ∀ w ∈ tw 30 34 eIA, w ∈ wsX8_begin := by decide +kernel
abbrev mX8_setDoor : xM := (yX8_setDoor, cX8_setDoor, 5, (some .boolean), wsX8_setDoor, { frames := 6, cells := 1, slots := 6, locals := 125 })
theorem qX8_setDoor : yX8_setDoor.cls ≠ "java/lang/invoke/MethodHandle" ∧ yX8_setDoor.cls ≠ "java/lang/invoke/VarHandle" ∧ (parseMethodDescriptor yX8_setDoor.desc).map (fun d => d.parameters.length) = some 3 := by decide +kernel
theorem twX8_setDoor_a : ∀ w ∈ tw 30 34 eIA, w ∈ wsX8_setDoor := by decide +kernel
theorem twX8_setDoor_b : ∀ w ∈ tw 59 63 eIO, w ∈ wsX8_setDoor := by decide +kernel
abbrev mX8_isOpen : xM := (yX8_isOpen, cX8_isOpen, 3, (some .boolean), wsX8_isOpen, { frames := 6, cells := 1, slots := 6, locals := 82 })
theorem qX8_isOpen : yX8_isOpen.cls ≠ "java/lang/invoke/MethodHandle" ∧ yX8_isOpen.cls ≠ "java/lang/invoke/VarHandle" ∧ (parseMethodDescriptor yX8_isOpen.desc).map (fun d => d.parameters.length) = some 2 := by decide +kernel
theorem twX8_isOpen_b : ∀ w ∈ tw 59 63 eIO, w ∈ wsX8_isOpen := by decide +kernel
abbrev mX8_addFuel : xM := (yX8_addFuel, cX8_addFuel, 2, (some .int), wsX8_addFuel, { frames := 6, cells := 1, slots := 6, locals := 125 })
theorem qX8_addFuel : yX8_addFuel.cls ≠ "java/lang/invoke/MethodHandle" ∧ yX8_addFuel.cls ≠ "java/lang/invoke/VarHandle" ∧ (parseMethodDescriptor yX8_addFuel.desc).map (fun d => d.parameters.length) = some 1 := by decide +kernel
theorem twX8_addFuel_a : ∀ w ∈ tw 30 34 eIA, w ∈ wsX8_addFuel := by decide +kernel
abbrev mX8_setTarget : xM := (yX8_setTarget, cX8_setTarget, 3, (some .int), wsX8_setTarget, { frames := 6, cells := 1, slots := 6, locals := 125 })
theorem qX8_setTarget : yX8_setTarget.cls ≠ "java/lang/invoke/MethodHandle" ∧ yX8_setTarget.cls ≠ "java/lang/invoke/VarHandle" ∧ (parseMethodDescriptor yX8_setTarget.desc).map (fun d => d.parameters.length) = some 1 := by decide +kernel
theorem twX8_setTarget_a : ∀ w ∈ tw 30 34 eIA, w ∈ wsX8_setTarget := by decide +kernel
abbrev mX8_set : xM := (yX8_set, cX8_set, 4, (some .int), wsX8_set, { frames := 6, cells := 1, slots := 6, locals := 125 })
theorem qX8_set : yX8_set.cls ≠ "java/lang/invoke/MethodHandle" ∧ yX8_set.cls ≠ "java/lang/invoke/VarHandle" ∧ (parseMethodDescriptor yX8_set.desc).map (fun d => d.parameters.length) = some 2 := by decide +kernel
theorem twX8_set_a : ∀ w ∈ tw 30 34 eIA, w ∈ wsX8_set := by decide +kernel
abbrev mX8_setSmoke : xM := (yX8_setSmoke, cX8_setSmoke, 4, (some .int), wsX8_setSmoke, { frames := 6, cells := 1, slots := 6, locals := 125 })
theorem qX8_setSmoke : yX8_setSmoke.cls ≠ "java/lang/invoke/MethodHandle" ∧ yX8_setSmoke.cls ≠ "java/lang/invoke/VarHandle" ∧ (parseMethodDescriptor yX8_setSmoke.desc).map (fun d => d.parameters.length) = some 2 := by decide +kernel
theorem twX8_setSmoke_a : ∀ w ∈ tw 30 34 eIA, w ∈ wsX8_setSmoke := by decide +kernel
theorem twX8_setSmoke_b : ∀ w ∈ tw 59 63 eIO, w ∈ wsX8_setSmoke := by decide +kernel
abbrev mX8_info : xM := (yX8_info, cX8_info, 2, (some .int), wsX8_info, { frames := 6, cells := 1, slots := 6, locals := 82 })
theorem qX8_info : yX8_info.cls ≠ "java/lang/invoke/MethodHandle" ∧ yX8_info.cls ≠ "java/lang/invoke/VarHandle" ∧ (parseMethodDescriptor yX8_info.desc).map (fun d => d.parameters.length) = some 1 := by decide +kernel
theorem twX8_info_a : ∀ w ∈ tw 30 34 eIA, w ∈ wsX8_info := by decide +kernel
abbrev mX8_room : xM := (yX8_room, cX8_room, 3, (some .int), wsX8_room, { frames := 6, cells := 1, slots := 6, locals := 88 })
theorem qX8_room : yX8_room.cls ≠ "java/lang/invoke/MethodHandle" ∧ yX8_room.cls ≠ "java/lang/invoke/VarHandle" ∧ (parseMethodDescriptor yX8_room.desc).map (fun d => d.parameters.length) = some 2 := by decide +kernel
theorem twX8_room_a : ∀ w ∈ tw 30 34 eIA, w ∈ wsX8_room := by decide +kernel
theorem twX8_room_b : ∀ w ∈ tw 59 63 eIO, w ∈ wsX8_room := by decide +kernel
abbrev mX8_addSensor : xM := (yX8_addSensor, cX8_addSensor, 6, (some .int), wsX8_addSensor, { frames := 6, cells := 1, slots := 6, locals := 125 })
theorem qX8_addSensor : yX8_addSensor.cls ≠ "java/lang/invoke/MethodHandle" ∧ yX8_addSensor.cls ≠ "java/lang/invoke/VarHandle" ∧ (parseMethodDescriptor yX8_addSensor.desc).map (fun d => d.parameters.length) = some 5 := by decide +kernel
theorem twX8_addSensor_a : ∀ w ∈ tw 30 34 eIA, w ∈ wsX8_addSensor := by decide +kernel
theorem twX8_addSensor_b : ∀ w ∈ tw 59 63 eIO, w ∈ wsX8_addSensor := by decide +kernel
theorem twX8_addSensor_c : ∀ w ∈ tw 140 144 eIS, w ∈ wsX8_addSensor := by decide +kernel
abbrev mX8_setFault : xM := (yX8_setFault, cX8_setFault, 4, (some .int), wsX8_setFault, { frames := 6, cells := 1, slots := 6, locals := 125 })
theorem qX8_setFault : yX8_setFault.cls ≠ "java/lang/invoke/MethodHandle" ∧ yX8_setFault.cls ≠ "java/lang/invoke/VarHandle" ∧ (parseMethodDescriptor yX8_setFault.desc).map (fun d => d.parameters.length) = some 2 := by decide +kernel
theorem twX8_setFault_a : ∀ w ∈ tw 30 34 eIA, w ∈ wsX8_setFault := by decide +kernel
theorem twX8_setFault_b : ∀ w ∈ tw 59 63 eIO, w ∈ wsX8_setFault := by decide +kernel
abbrev mX8_sensor : xM := (yX8_sensor, cX8_sensor, 3, (some .int), wsX8_sensor, { frames := 6, cells := 1, slots := 6, locals := 82 })
theorem qX8_sensor : yX8_sensor.cls ≠ "java/lang/invoke/MethodHandle" ∧ yX8_sensor.cls ≠ "java/lang/invoke/VarHandle" ∧ (parseMethodDescriptor yX8_sensor.desc).map (fun d => d.parameters.length) = some 2 := by decide +kernel
theorem twX8_sensor_a : ∀ w ∈ tw 30 34 eIA, w ∈ wsX8_sensor := by decide +kernel
theorem twX8_sensor_b : ∀ w ∈ tw 59 63 eIO, w ∈ wsX8_sensor := by decide +kernel
abbrev mX8_addRule : xM := (yX8_addRule, cX8_addRule, 5, (some .int), wsX8_addRule, { frames := 6, cells := 1, slots := 6, locals := 125 })
theorem qX8_addRule : yX8_addRule.cls ≠ "java/lang/invoke/MethodHandle" ∧ yX8_addRule.cls ≠ "java/lang/invoke/VarHandle" ∧ (parseMethodDescriptor yX8_addRule.desc).map (fun d => d.parameters.length) = some 4 := by decide +kernel
theorem twX8_addRule_a : ∀ w ∈ tw 30 34 eIA, w ∈ wsX8_addRule := by decide +kernel
theorem twX8_addRule_b : ∀ w ∈ tw 59 63 eIO, w ∈ wsX8_addRule := by decide +kernel
theorem twX8_addRule_c : ∀ w ∈ tw 140 144 eIS, w ∈ wsX8_addRule := by decide +kernel
abbrev mX8_removeRule : xM := (yX8_removeRule, cX8_removeRule, 2, (some .int), wsX8_removeRule, { frames := 6, cells := 1, slots := 6, locals := 125 })
theorem qX8_removeRule : yX8_removeRule.cls ≠ "java/lang/invoke/MethodHandle" ∧ yX8_removeRule.cls ≠ "java/lang/invoke/VarHandle" ∧ (parseMethodDescriptor yX8_removeRule.desc).map (fun d => d.parameters.length) = some 1 := by decide +kernel
theorem twX8_removeRule_b : ∀ w ∈ tw 59 63 eIO, w ∈ wsX8_removeRule := by decide +kernel
abbrev mX8_addEvent : xM := (yX8_addEvent, cX8_addEvent, 5, (some .int), wsX8_addEvent, { frames := 6, cells := 1, slots := 6, locals := 125 })
theorem qX8_addEvent : yX8_addEvent.cls ≠ "java/lang/invoke/MethodHandle" ∧ yX8_addEvent.cls ≠ "java/lang/invoke/VarHandle" ∧ (parseMethodDescriptor yX8_addEvent.desc).map (fun d => d.parameters.length) = some 4 := by decide +kernel
theorem twX8_addEvent_a : ∀ w ∈ tw 30 34 eIA, w ∈ wsX8_addEvent := by decide +kernel
theorem twX8_addEvent_c : ∀ w ∈ tw 140 144 eIS, w ∈ wsX8_addEvent := by decide +kernel
abbrev mX8_event : xM := (yX8_event, cX8_event, 3, (some .int), wsX8_event, { frames := 6, cells := 1, slots := 6, locals := 82 })
theorem qX8_event : yX8_event.cls ≠ "java/lang/invoke/MethodHandle" ∧ yX8_event.cls ≠ "java/lang/invoke/VarHandle" ∧ (parseMethodDescriptor yX8_event.desc).map (fun d => d.parameters.length) = some 2 := by decide +kernel
theorem twX8_event_a : ∀ w ∈ tw 30 34 eIA, w ∈ wsX8_event := by decide +kernel
abbrev mX8_mute : xM := (yX8_mute, cX8_mute, 4, (some .int), wsX8_mute, { frames := 6, cells := 1, slots := 6, locals := 125 })
theorem qX8_mute : yX8_mute.cls ≠ "java/lang/invoke/MethodHandle" ∧ yX8_mute.cls ≠ "java/lang/invoke/VarHandle" ∧ (parseMethodDescriptor yX8_mute.desc).map (fun d => d.parameters.length) = some 2 := by decide +kernel
theorem twX8_mute_a : ∀ w ∈ tw 30 34 eIA, w ∈ wsX8_mute := by decide +kernel
theorem twX8_mute_b : ∀ w ∈ tw 59 63 eIO, w ∈ wsX8_mute := by decide +kernel
abbrev mX8_told : xM := (yX8_told, cX8_told, 2, (some .int), wsX8_told, { frames := 6, cells := 1, slots := 6, locals := 82 })
theorem qX8_told : yX8_told.cls ≠ "java/lang/invoke/MethodHandle" ∧ yX8_told.cls ≠ "java/lang/invoke/VarHandle" ∧ (parseMethodDescriptor yX8_told.desc).map (fun d => d.parameters.length) = some 1 := by decide +kernel
theorem twX8_told_a : ∀ w ∈ tw 30 34 eIA, w ∈ wsX8_told := by decide +kernel
abbrev mX8_peak : xM := (yX8_peak, cX8_peak, 4, (some .int), wsX8_peak, { frames := 6, cells := 1, slots := 6, locals := 138 })
theorem qX8_peak : yX8_peak.cls ≠ "java/lang/invoke/MethodHandle" ∧ yX8_peak.cls ≠ "java/lang/invoke/VarHandle" ∧ (parseMethodDescriptor yX8_peak.desc).map (fun d => d.parameters.length) = some 3 := by decide +kernel
theorem twX8_peak_a : ∀ w ∈ tw 30 34 eIA, w ∈ wsX8_peak := by decide +kernel
theorem twX8_peak_b : ∀ w ∈ tw 59 63 eIO, w ∈ wsX8_peak := by decide +kernel
abbrev mX8_undo : xM := (yX8_undo, cX8_undo, 1, (some .int), wsX8_undo, { frames := 6, cells := 1, slots := 6, locals := 125 })
theorem qX8_undo : yX8_undo.cls ≠ "java/lang/invoke/MethodHandle" ∧ yX8_undo.cls ≠ "java/lang/invoke/VarHandle" ∧ (parseMethodDescriptor yX8_undo.desc).map (fun d => d.parameters.length) = some 0 := by decide +kernel
theorem twX8_undo_c : ∀ w ∈ tw 140 144 eIS, w ∈ wsX8_undo := by decide +kernel
abbrev mX8_pass : xM := (yX8_pass, cX8_pass, 4, (some .int), wsX8_pass, { frames := 6, cells := 1, slots := 6, locals := 125 })
theorem qX8_pass : yX8_pass.cls ≠ "java/lang/invoke/MethodHandle" ∧ yX8_pass.cls ≠ "java/lang/invoke/VarHandle" ∧ (parseMethodDescriptor yX8_pass.desc).map (fun d => d.parameters.length) = some 1 := by decide +kernel
theorem twX8_pass_a : ∀ w ∈ tw 30 34 eIA, w ∈ wsX8_pass := by decide +kernel
abbrev mX8_alarmIn : xM := (yX8_alarmIn, cX8_alarmIn, 3, (some .int), wsX8_alarmIn, { frames := 6, cells := 1, slots := 6, locals := 136 })
theorem qX8_alarmIn : yX8_alarmIn.cls ≠ "java/lang/invoke/MethodHandle" ∧ yX8_alarmIn.cls ≠ "java/lang/invoke/VarHandle" ∧ (parseMethodDescriptor yX8_alarmIn.desc).map (fun d => d.parameters.length) = some 2 := by decide +kernel
theorem twX8_alarmIn_a : ∀ w ∈ tw 30 34 eIA, w ∈ wsX8_alarmIn := by decide +kernel
theorem twX8_alarmIn_b : ∀ w ∈ tw 59 63 eIO, w ∈ wsX8_alarmIn := by decide +kernel
abbrev mX8_smokeAfter : xM := (yX8_smokeAfter, cX8_smokeAfter, 4, (some .int), wsX8_smokeAfter, { frames := 6, cells := 1, slots := 6, locals := 113 })
theorem qX8_smokeAfter : yX8_smokeAfter.cls ≠ "java/lang/invoke/MethodHandle" ∧ yX8_smokeAfter.cls ≠ "java/lang/invoke/VarHandle" ∧ (parseMethodDescriptor yX8_smokeAfter.desc).map (fun d => d.parameters.length) = some 2 := by decide +kernel
theorem twX8_smokeAfter_a : ∀ w ∈ tw 30 34 eIA, w ∈ wsX8_smokeAfter := by decide +kernel
theorem twX8_smokeAfter_b : ∀ w ∈ tw 59 63 eIO, w ∈ wsX8_smokeAfter := by decide +kernel
abbrev mX8_bestOpening : xM := (yX8_bestOpening, cX8_bestOpening, 6, (some .int), wsX8_bestOpening, { frames := 6, cells := 1, slots := 6, locals := 138 })
theorem qX8_bestOpening : yX8_bestOpening.cls ≠ "java/lang/invoke/MethodHandle" ∧ yX8_bestOpening.cls ≠ "java/lang/invoke/VarHandle" ∧ (parseMethodDescriptor yX8_bestOpening.desc).map (fun d => d.parameters.length) = some 1 := by decide +kernel
theorem twX8_bestOpening_a : ∀ w ∈ tw 30 34 eIA, w ∈ wsX8_bestOpening := by decide +kernel
abbrev mX8_neededSensors : xM := (yX8_neededSensors, cX8_neededSensors, 5, (some .int), wsX8_neededSensors, { frames := 6, cells := 1, slots := 6, locals := 136 })
theorem qX8_neededSensors : yX8_neededSensors.cls ≠ "java/lang/invoke/MethodHandle" ∧ yX8_neededSensors.cls ≠ "java/lang/invoke/VarHandle" ∧ (parseMethodDescriptor yX8_neededSensors.desc).map (fun d => d.parameters.length) = some 2 := by decide +kernel
theorem twX8_neededSensors_a : ∀ w ∈ tw 30 34 eIA, w ∈ wsX8_neededSensors := by decide +kernel
theorem twX8_neededSensors_b : ∀ w ∈ tw 59 63 eIO, w ∈ wsX8_neededSensors := by decide +kernel
abbrev mX8_burnsFor : xM := (yX8_burnsFor, cX8_burnsFor, 3, (some .int), wsX8_burnsFor, { frames := 6, cells := 1, slots := 6, locals := 113 })
theorem qX8_burnsFor : yX8_burnsFor.cls ≠ "java/lang/invoke/MethodHandle" ∧ yX8_burnsFor.cls ≠ "java/lang/invoke/VarHandle" ∧ (parseMethodDescriptor yX8_burnsFor.desc).map (fun d => d.parameters.length) = some 1 := by decide +kernel
theorem twX8_burnsFor_a : ∀ w ∈ tw 30 34 eIA, w ∈ wsX8_burnsFor := by decide +kernel
set_option maxHeartbeats 4000000 in
set_option maxRecDepth 100000 in
theorem e_X8_begin (σ : xS) (τ : xT) {r : Rw} {R ns nr ne t kp : Nat} {qs : Nat → Rw} (hR : Rel σ 1 r) (hC : Rc σ kp qs) (hk : kp ≤ 4) (I : Inv r R ns nr ne t (t + 1)) (u : Int32) : Zi mX8_begin [.ref 0, .int u] σ τ (fun v σ1 τ1 => kW u 1 4 = 0 ∧ v = (r 6) ∧ Cl σ σ1 τ τ1 (mBeg u) (kK kp) (kQ kp qs r)) (fun E => E = eIA ∧ kW u 1 4 = 1) := by
  have hB : isW 1 := Or.inl rfl
  have hR4 := I.1.1.2
  have hs8 := I.1.2.1.2
  have hr8 := I.1.2.2.1.2
  have he20 := I.1.2.2.2.1.2
  refine Zi_mk (L := [some (.ref 0), some (.int u), none]) (by decide) rfl (Nat.le_of_ble_eq_true rfl) rfl (fun x C0 => ?_)
  have C := C0.1
  refine y_iload_n C dX8_begin_0 rfl ?_
  refine y_iconst (v := 1) C dX8_begin_1 (by decide) ?_
  refine y_iconst (v := 4) C dX8_begin_2 (by decide) ?_
  refine y_callSi C (e_X8_isWithin _ _ _ _ _) dX8_begin_3 rfl gX8_begin_X8_isWithin rfl qX8_isWithin ⟨rfl, rfl⟩ ⟨Nat.le_of_ble_eq_true rfl, Nat.le_of_ble_eq_true rfl⟩ rfl (Nat.le_of_ble_eq_true rfl) ⟨Nat.zero_le _, Nat.zero_le _⟩ (fun v1 σ1 τ1 hq => ?_)
  obtain ⟨rfl, rfl, rfl⟩ := hq
  refine y_if_ne (t := 19) C dX8_begin_6 (by decide) (fun c6 => ?_) (fun c6 => ?_)
  · -- t
    refine y_aload_n C dX8_begin_19 rfl ?_
    refine g_X8_now C dX8_begin_20 (by decide +kernel) (by decide +kernel) ?_
    refine g_X7_house C hB dX8_begin_23 (by decide +kernel) (by decide +kernel) ?_
    refine gR_X3_rooms C hB hR dX8_begin_26 (by decide +kernel) (by decide +kernel) ?_
    refine y_istore_n C dX8_begin_29 (L' := [_, _, _]) (Nat.lt_of_lt_of_le (by decide : (2 : Nat) < 3) (Nat.le_refl _)) rfl ?_
    refine y_aload_n C dX8_begin_30 rfl ?_
    refine g_X8_records C dX8_begin_31 (by decide +kernel) (by decide +kernel) ?_
    refine y_aload_n C dX8_begin_34 rfl ?_
    refine g_X8_now C dX8_begin_35 (by decide +kernel) (by decide +kernel) ?_
    refine y_callVv C (e_keepZ _ _ hk hC hR I.jam) dX8_begin_38 rfl gX8_begin_X4_keep rfl (is_X4) ⟨rfl, qX4_keep⟩ ⟨rfl, rfl⟩ ⟨Nat.le_of_ble_eq_true rfl, Nat.le_of_ble_eq_true rfl⟩ rfl (Nat.le_of_ble_eq_true rfl) ⟨Nat.zero_le _, Nat.zero_le _⟩ (fun σ2 τ2 hq => ?_)
    obtain ⟨hC2, hR2, hF2, rfl⟩ := hq
    refine y_aload_n C dX8_begin_41 rfl ?_
    refine g_X8_now C dX8_begin_42 (by decide +kernel) (by decide +kernel) ?_
    refine y_iload_n C dX8_begin_45 rfl ?_
    refine y_callVv C (e_X7_startAnew hB _ _ _) dX8_begin_46 rfl gX8_begin_X7_startAnew rfl (is_X7 hB) ⟨rfl, qX7_startAnew⟩ ⟨rfl, rfl⟩ ⟨Nat.le_of_ble_eq_true rfl, Nat.le_of_ble_eq_true rfl⟩ rfl (Nat.le_of_ble_eq_true rfl) ⟨Nat.zero_le _, Nat.zero_le _⟩ (fun σ3 τ3 hq => ?_)
    obtain ⟨hR3, hF3, rfl⟩ := hq
    refine y_iload_n C dX8_begin_49 rfl ?_
    exact z_iret C rfl dX8_begin_50 (⟨by unfold kW; rw [if_neg c6], rfl, hR3, hC2.k1 hF3, (hF2.mono cS_r).trans (hF3.mono cS_1), rfl⟩)
  · -- f
    exact z_thr C0 rfl (ik := 30) (ic := 34) (cls := eIA) (by decide) twX8_begin_a (is := 32) (text := "rooms is not 1 to 4") (by decide +kernel) dX8_begin_9 dX8_begin_12 dX8_begin_13 dX8_begin_15 dX8_begin_18 ⟨Nat.le_of_ble_eq_true rfl, Nat.le_of_ble_eq_true rfl, Nat.le_refl _, Nat.le_refl _⟩ rfl (⟨rfl, by unfold kW; rw [if_pos c6]⟩)
set_option maxHeartbeats 4000000 in
set_option maxRecDepth 100000 in
theorem e_X8_setDoor (σ : xS) (τ : xT) {r : Rw} {R ns nr ne t kp : Nat} {qs : Nat → Rw} (hR : Rel σ 1 r) (hC : Rc σ kp qs) (hk : kp ≤ 4) (I : Inv r R ns nr ne t (t + 1)) (u v o : Int32) (ho : o = 0 ∨ o = 1) : Zi mX8_setDoor [.ref 0, .int u, .int v, .int o] σ τ (fun y σ1 τ1 => kDoor r u v = 0 ∧ y = mDoorI r (cN u) (cN v) ∧ Cl σ σ1 τ τ1 (mSets r (cN u) (cN v) o) (kK kp) (kQ kp qs r)) (fun E => (E = eIO ∧ kDoor r u v = 1) ∨ (E = eIA ∧ kDoor r u v = 2)) := by
  have hB : isW 1 := Or.inl rfl
  have hR4 := I.1.1.2
  have hs8 := I.1.2.1.2
  have hr8 := I.1.2.2.1.2
  have he20 := I.1.2.2.2.1.2
  refine Zi_mk (L := [some (.ref 0), some (.int u), some (.int v), some (.int o), none]) (by decide) rfl (Nat.le_of_ble_eq_true rfl) rfl (fun x C0 => ?_)
  have C := C0.1
  refine y_aload_n C dX8_setDoor_0 rfl ?_
  refine g_X8_now C dX8_setDoor_1 (by decide +kernel) (by decide +kernel) ?_
  refine g_X7_house C hB dX8_setDoor_4 (by decide +kernel) (by decide +kernel) ?_
  refine y_iload_n C dX8_setDoor_7 rfl ?_
  refine y_callVi C (e_X3_isPlace hB _ _ hR _) dX8_setDoor_8 rfl gX8_setDoor_X3_isPlace rfl (is_X3 hB) ⟨rfl, qX3_isPlace⟩ ⟨rfl, rfl⟩ ⟨Nat.le_of_ble_eq_true rfl, Nat.le_of_ble_eq_true rfl⟩ rfl (Nat.le_of_ble_eq_true rfl) ⟨Nat.zero_le _, Nat.zero_le _⟩ (fun v1 σ1 τ1 hq => ?_)
  obtain ⟨rfl, rfl, rfl⟩ := hq
  refine y_if_eq (t := 28) C dX8_setDoor_11 (by decide) (fun c11 => ?_) (fun c11 => ?_)
  · -- t
    exact z_thr C0 rfl (ik := 59) (ic := 63) (cls := eIO) (by decide) twX8_setDoor_b (is := 61) (text := "there is no such room") (by decide +kernel) dX8_setDoor_28 dX8_setDoor_31 dX8_setDoor_32 dX8_setDoor_34 dX8_setDoor_37 ⟨Nat.le_of_ble_eq_true rfl, Nat.le_of_ble_eq_true rfl, Nat.le_refl _, Nat.le_refl _⟩ rfl (by first | exact Or.inl ⟨rfl, by unfold kDoor; rw [if_pos (Or.inl c11)]⟩ | exact Or.inl ⟨rfl, by unfold kDoor; rw [if_pos (Or.inr c25)]⟩)
  · -- f
    refine y_aload_n C dX8_setDoor_14 rfl ?_
    refine g_X8_now C dX8_setDoor_15 (by decide +kernel) (by decide +kernel) ?_
    refine g_X7_house C hB dX8_setDoor_18 (by decide +kernel) (by decide +kernel) ?_
    refine y_iload_n C dX8_setDoor_21 rfl ?_
    refine y_callVi C (e_X3_isPlace hB _ _ hR _) dX8_setDoor_22 rfl gX8_setDoor_X3_isPlace rfl (is_X3 hB) ⟨rfl, qX3_isPlace⟩ ⟨rfl, rfl⟩ ⟨Nat.le_of_ble_eq_true rfl, Nat.le_of_ble_eq_true rfl⟩ rfl (Nat.le_of_ble_eq_true rfl) ⟨Nat.zero_le _, Nat.zero_le _⟩ (fun v1 σ1 τ1 hq => ?_)
    obtain ⟨rfl, rfl, rfl⟩ := hq
    refine y_if_ne (t := 38) C dX8_setDoor_25 (by decide) (fun c25 => ?_) (fun c25 => ?_)
    · -- t
      refine y_iload_n C dX8_setDoor_38 rfl ?_
      refine y_iload_n C dX8_setDoor_39 rfl ?_
      refine y_icmp_ne (t := 53) C dX8_setDoor_40 (by decide) (fun c40 => ?_) (fun c40 => ?_)
      · -- t
        obtain ⟨a, ha, rfl⟩ := plac_of I c11
        obtain ⟨b, hb, rfl⟩ := plac_of I c25
        have hab : a ≠ b := fun z => c40 (by rw [z])
        rw [cN_nI (n := a) (by omega), cN_nI (n := b) (by omega)]
        refine y_aload_n C dX8_setDoor_53 rfl ?_
        refine g_X8_now C dX8_setDoor_54 (by decide +kernel) (by decide +kernel) ?_
        refine g_X7_house C hB dX8_setDoor_57 (by decide +kernel) (by decide +kernel) ?_
        refine y_iload_n C dX8_setDoor_60 rfl ?_
        refine y_iload_n C dX8_setDoor_61 rfl ?_
        refine y_callVi C (e_X3_hasOpenDoor hB _ _ hR a b (by omega) (by omega) hab) dX8_setDoor_62 rfl gX8_setDoor_X3_hasOpenDoor rfl (is_X3 hB) ⟨rfl, qX3_hasOpenDoor⟩ ⟨rfl, rfl⟩ ⟨Nat.le_of_ble_eq_true rfl, Nat.le_of_ble_eq_true rfl⟩ rfl (Nat.le_of_ble_eq_true rfl) ⟨Nat.zero_le _, Nat.zero_le _⟩ (fun v1 σ1 τ1 hq => ?_)
        obtain ⟨rfl, rfl, rfl⟩ := hq
        refine y_istore C dX8_setDoor_65 (L' := [_, _, _, _, _]) (Nat.lt_of_lt_of_le (by decide : (4 : Nat) < 5) (Nat.le_refl _)) rfl ?_
        refine y_aload_n C dX8_setDoor_67 rfl ?_
        refine g_X8_records C dX8_setDoor_68 (by decide +kernel) (by decide +kernel) ?_
        refine y_aload_n C dX8_setDoor_71 rfl ?_
        refine g_X8_now C dX8_setDoor_72 (by decide +kernel) (by decide +kernel) ?_
        refine y_callVv C (e_keepZ _ _ hk hC hR I.jam) dX8_setDoor_75 rfl gX8_setDoor_X4_keep rfl (is_X4) ⟨rfl, qX4_keep⟩ ⟨rfl, rfl⟩ ⟨Nat.le_of_ble_eq_true rfl, Nat.le_of_ble_eq_true rfl⟩ rfl (Nat.le_of_ble_eq_true rfl) ⟨Nat.zero_le _, Nat.zero_le _⟩ (fun σ2 τ2 hq => ?_)
        obtain ⟨hC2, hR2, hF2, rfl⟩ := hq
        refine y_aload_n C dX8_setDoor_78 rfl ?_
        refine g_X8_now C dX8_setDoor_79 (by decide +kernel) (by decide +kernel) ?_
        refine g_X7_house C hB dX8_setDoor_82 (by decide +kernel) (by decide +kernel) ?_
        refine y_iload_n C dX8_setDoor_85 rfl ?_
        refine y_iload_n C dX8_setDoor_86 rfl ?_
        refine y_iload_n C dX8_setDoor_87 rfl ?_
        refine y_callVv C (e_X3_putDoor hB _ _ hR2 a b (by omega) (by omega) hab o ho) dX8_setDoor_88 rfl gX8_setDoor_X3_putDoor rfl (is_X3 hB) ⟨rfl, qX3_putDoor⟩ ⟨rfl, rfl⟩ ⟨Nat.le_of_ble_eq_true rfl, Nat.le_of_ble_eq_true rfl⟩ rfl (Nat.le_of_ble_eq_true rfl) ⟨Nat.zero_le _, Nat.zero_le _⟩ (fun σ3 τ3 hq => ?_)
        obtain ⟨hR3, hF3, rfl⟩ := hq
        refine y_iload C dX8_setDoor_91 rfl ?_
        exact z_zret C rfl dX8_setDoor_93 (mDoorI_01 _ _ _) (⟨by unfold kDoor; rw [if_neg (fun z => z.elim c11 c25), if_neg c40], rfl, hR3, hC2.k1 hF3, (hF2.mono cS_r).trans (hF3.mono cS_1), rfl⟩)
      · -- f
        exact z_thr C0 rfl (ik := 30) (ic := 34) (cls := eIA) (by decide) twX8_setDoor_a (is := 64) (text := "a door is between two different places") (by decide +kernel) dX8_setDoor_43 dX8_setDoor_46 dX8_setDoor_47 dX8_setDoor_49 dX8_setDoor_52 ⟨Nat.le_of_ble_eq_true rfl, Nat.le_of_ble_eq_true rfl, Nat.le_refl _, Nat.le_refl _⟩ rfl (Or.inr ⟨rfl, by unfold kDoor; rw [if_neg (fun z => z.elim c11 c25), if_pos c40]⟩)
    · -- f
      exact z_thr C0 rfl (ik := 59) (ic := 63) (cls := eIO) (by decide) twX8_setDoor_b (is := 61) (text := "there is no such room") (by decide +kernel) dX8_setDoor_28 dX8_setDoor_31 dX8_setDoor_32 dX8_setDoor_34 dX8_setDoor_37 ⟨Nat.le_of_ble_eq_true rfl, Nat.le_of_ble_eq_true rfl, Nat.le_refl _, Nat.le_refl _⟩ rfl (by first | exact Or.inl ⟨rfl, by unfold kDoor; rw [if_pos (Or.inl c11)]⟩ | exact Or.inl ⟨rfl, by unfold kDoor; rw [if_pos (Or.inr c25)]⟩)
set_option maxHeartbeats 4000000 in
set_option maxRecDepth 100000 in
theorem e_X8_isOpen (σ : xS) (τ : xT) {r : Rw} {R ns nr ne t kp : Nat} {qs : Nat → Rw} (hR : Rel σ 1 r) (hC : Rc σ kp qs) (hk : kp ≤ 4) (I : Inv r R ns nr ne t (t + 1)) (u v : Int32) : Zi mX8_isOpen [.ref 0, .int u, .int v] σ τ (fun y σ1 τ1 => kOpen r u v = 0 ∧ y = (if u = v ∨ mDoorI r (cN u) (cN v) = 0 then 0 else 1) ∧ Cl σ σ1 τ τ1 (r) (kp) (qs)) (fun E => E = eIO ∧ kOpen r u v = 1) := by
  have hB : isW 1 := Or.inl rfl
  have hR4 := I.1.1.2
  have hs8 := I.1.2.1.2
  have hr8 := I.1.2.2.1.2
  have he20 := I.1.2.2.2.1.2
  refine Zi_mk (L := [some (.ref 0), some (.int u), some (.int v)]) (by decide) rfl (Nat.le_of_ble_eq_true rfl) rfl (fun x C0 => ?_)
  have C := C0.1
  refine y_aload_n C dX8_isOpen_0 rfl ?_
  refine g_X8_now C dX8_isOpen_1 (by decide +kernel) (by decide +kernel) ?_
  refine g_X7_house C hB dX8_isOpen_4 (by decide +kernel) (by decide +kernel) ?_
  refine y_iload_n C dX8_isOpen_7 rfl ?_
  refine y_callVi C (e_X3_isPlace hB _ _ hR _) dX8_isOpen_8 rfl gX8_isOpen_X3_isPlace rfl (is_X3 hB) ⟨rfl, qX3_isPlace⟩ ⟨rfl, rfl⟩ ⟨Nat.le_of_ble_eq_true rfl, Nat.le_of_ble_eq_true rfl⟩ rfl (Nat.le_of_ble_eq_true rfl) ⟨Nat.zero_le _, Nat.zero_le _⟩ (fun v1 σ1 τ1 hq => ?_)
  obtain ⟨rfl, rfl, rfl⟩ := hq
  refine y_if_eq (t := 28) C dX8_isOpen_11 (by decide) (fun c11 => ?_) (fun c11 => ?_)
  · -- t
    exact z_thr C0 rfl (ik := 59) (ic := 63) (cls := eIO) (by decide) twX8_isOpen_b (is := 61) (text := "there is no such room") (by decide +kernel) dX8_isOpen_28 dX8_isOpen_31 dX8_isOpen_32 dX8_isOpen_34 dX8_isOpen_37 ⟨Nat.le_of_ble_eq_true rfl, Nat.le_of_ble_eq_true rfl, Nat.le_refl _, Nat.le_refl _⟩ rfl (by first | exact ⟨rfl, by unfold kOpen; rw [if_pos (Or.inl c11)]⟩ | exact ⟨rfl, by unfold kOpen; rw [if_pos (Or.inr c25)]⟩)
  · -- f
    refine y_aload_n C dX8_isOpen_14 rfl ?_
    refine g_X8_now C dX8_isOpen_15 (by decide +kernel) (by decide +kernel) ?_
    refine g_X7_house C hB dX8_isOpen_18 (by decide +kernel) (by decide +kernel) ?_
    refine y_iload_n C dX8_isOpen_21 rfl ?_
    refine y_callVi C (e_X3_isPlace hB _ _ hR _) dX8_isOpen_22 rfl gX8_isOpen_X3_isPlace rfl (is_X3 hB) ⟨rfl, qX3_isPlace⟩ ⟨rfl, rfl⟩ ⟨Nat.le_of_ble_eq_true rfl, Nat.le_of_ble_eq_true rfl⟩ rfl (Nat.le_of_ble_eq_true rfl) ⟨Nat.zero_le _, Nat.zero_le _⟩ (fun v1 σ1 τ1 hq => ?_)
    obtain ⟨rfl, rfl, rfl⟩ := hq
    refine y_if_ne (t := 38) C dX8_isOpen_25 (by decide) (fun c25 => ?_) (fun c25 => ?_)
    · -- t
      refine y_iload_n C dX8_isOpen_38 rfl ?_
      refine y_iload_n C dX8_isOpen_39 rfl ?_
      refine y_icmp_eq (t := 62) C dX8_isOpen_40 (by decide) (fun c40 => ?_) (fun c40 => ?_)
      · -- t
        refine y_iconst (v := 0) C dX8_isOpen_62 (by decide) ?_
        exact z_zret C rfl dX8_isOpen_63 (by first | exact Or.inl rfl | exact Or.inr rfl) (⟨by unfold kOpen; rw [if_neg (fun z => z.elim c11 c25)], by first | (rw [if_pos (Or.inl c40)]; done) | (rw [if_pos (Or.inr c55)]; done) | (rw [if_neg (fun z => z.elim c40 c55)]; done), ⟨hR, hC, Fr.rf, rfl⟩⟩)
      · -- f
        obtain ⟨a, ha, rfl⟩ := plac_of I c11
        obtain ⟨b, hb, rfl⟩ := plac_of I c25
        have hab : a ≠ b := fun z => c40 (by rw [z])
        rw [cN_nI (n := a) (by omega), cN_nI (n := b) (by omega)]
        refine y_aload_n C dX8_isOpen_43 rfl ?_
        refine g_X8_now C dX8_isOpen_44 (by decide +kernel) (by decide +kernel) ?_
        refine g_X7_house C hB dX8_isOpen_47 (by decide +kernel) (by decide +kernel) ?_
        refine y_iload_n C dX8_isOpen_50 rfl ?_
        refine y_iload_n C dX8_isOpen_51 rfl ?_
        refine y_callVi C (e_X3_hasOpenDoor hB _ _ hR a b (by omega) (by omega) hab) dX8_isOpen_52 rfl gX8_isOpen_X3_hasOpenDoor rfl (is_X3 hB) ⟨rfl, qX3_hasOpenDoor⟩ ⟨rfl, rfl⟩ ⟨Nat.le_of_ble_eq_true rfl, Nat.le_of_ble_eq_true rfl⟩ rfl (Nat.le_of_ble_eq_true rfl) ⟨Nat.zero_le _, Nat.zero_le _⟩ (fun v1 σ1 τ1 hq => ?_)
        obtain ⟨rfl, rfl, rfl⟩ := hq
        refine y_if_eq (t := 62) C dX8_isOpen_55 (by decide) (fun c55 => ?_) (fun c55 => ?_)
        · -- t
          refine y_iconst (v := 0) C dX8_isOpen_62 (by decide) ?_
          exact z_zret C rfl dX8_isOpen_63 (by first | exact Or.inl rfl | exact Or.inr rfl) (⟨by unfold kOpen; rw [if_neg (fun z => z.elim c11 c25)], by first | (rw [if_pos (Or.inl c40)]; done) | (rw [if_pos (Or.inr c55)]; done) | (rw [if_neg (fun z => z.elim c40 c55)]; done), ⟨hR, hC, Fr.rf, rfl⟩⟩)
        · -- f
          refine y_iconst (v := 1) C dX8_isOpen_58 (by decide) ?_
          refine y_goto (t := 63) C dX8_isOpen_59 (by decide) ?_
          exact z_zret C rfl dX8_isOpen_63 (by first | exact Or.inl rfl | exact Or.inr rfl) (⟨by unfold kOpen; rw [if_neg (fun z => z.elim c11 c25)], by first | (rw [if_pos (Or.inl c40)]; done) | (rw [if_pos (Or.inr c55)]; done) | (rw [if_neg (fun z => z.elim c40 c55)]; done), ⟨hR, hC, Fr.rf, rfl⟩⟩)
    · -- f
      exact z_thr C0 rfl (ik := 59) (ic := 63) (cls := eIO) (by decide) twX8_isOpen_b (is := 61) (text := "there is no such room") (by decide +kernel) dX8_isOpen_28 dX8_isOpen_31 dX8_isOpen_32 dX8_isOpen_34 dX8_isOpen_37 ⟨Nat.le_of_ble_eq_true rfl, Nat.le_of_ble_eq_true rfl, Nat.le_refl _, Nat.le_refl _⟩ rfl (by first | exact ⟨rfl, by unfold kOpen; rw [if_pos (Or.inl c11)]⟩ | exact ⟨rfl, by unfold kOpen; rw [if_pos (Or.inr c25)]⟩)
set_option maxHeartbeats 4000000 in
set_option maxRecDepth 100000 in
theorem e_X8_addFuel (σ : xS) (τ : xT) {r : Rw} {R ns nr ne t kp : Nat} {qs : Nat → Rw} (hR : Rel σ 1 r) (hC : Rc σ kp qs) (hk : kp ≤ 4) (I : Inv r R ns nr ne t (t + 1)) (u : Int32) : Zi mX8_addFuel [.ref 0, .int u] σ τ (fun v σ1 τ1 => kW u 1 200 = 0 ∧ v = ((if 200 < r 8 + u then 200 else r 8 + u)) ∧ Cl σ σ1 τ τ1 (upd r 8 (if 200 < r 8 + u then 200 else r 8 + u)) (kK kp) (kQ kp qs r)) (fun E => E = eIA ∧ kW u 1 200 = 1) := by
  have hB : isW 1 := Or.inl rfl
  have hR4 := I.1.1.2
  have hs8 := I.1.2.1.2
  have hr8 := I.1.2.2.1.2
  have he20 := I.1.2.2.2.1.2
  refine Zi_mk (L := [some (.ref 0), some (.int u)]) (by decide) rfl (Nat.le_of_ble_eq_true rfl) rfl (fun x C0 => ?_)
  have C := C0.1
  refine y_iload_n C dX8_addFuel_0 rfl ?_
  refine y_iconst (v := 1) C dX8_addFuel_1 (by decide) ?_
  refine y_sipush (v := 200) C dX8_addFuel_2 (by decide) ?_
  refine y_callSi C (e_X8_isWithin _ _ _ _ _) dX8_addFuel_5 rfl gX8_addFuel_X8_isWithin rfl qX8_isWithin ⟨rfl, rfl⟩ ⟨Nat.le_of_ble_eq_true rfl, Nat.le_of_ble_eq_true rfl⟩ rfl (Nat.le_of_ble_eq_true rfl) ⟨Nat.zero_le _, Nat.zero_le _⟩ (fun v1 σ1 τ1 hq => ?_)
  obtain ⟨rfl, rfl, rfl⟩ := hq
  refine y_if_ne (t := 21) C dX8_addFuel_8 (by decide) (fun c8 => ?_) (fun c8 => ?_)
  · -- t
    refine y_aload_n C dX8_addFuel_21 rfl ?_
    refine g_X8_records C dX8_addFuel_22 (by decide +kernel) (by decide +kernel) ?_
    refine y_aload_n C dX8_addFuel_25 rfl ?_
    refine g_X8_now C dX8_addFuel_26 (by decide +kernel) (by decide +kernel) ?_
    refine y_callVv C (e_keepZ _ _ hk hC hR I.jam) dX8_addFuel_29 rfl gX8_addFuel_X4_keep rfl (is_X4) ⟨rfl, qX4_keep⟩ ⟨rfl, rfl⟩ ⟨Nat.le_of_ble_eq_true rfl, Nat.le_of_ble_eq_true rfl⟩ rfl (Nat.le_of_ble_eq_true rfl) ⟨Nat.zero_le _, Nat.zero_le _⟩ (fun σ2 τ2 hq => ?_)
    obtain ⟨hC2, hR2, hF2, rfl⟩ := hq
    refine y_aload_n C dX8_addFuel_32 rfl ?_
    refine g_X8_now C dX8_addFuel_33 (by decide +kernel) (by decide +kernel) ?_
    refine g_X7_hearth C hB dX8_addFuel_36 (by decide +kernel) (by decide +kernel) ?_
    refine y_iload_n C dX8_addFuel_39 rfl ?_
    refine y_callVv C (e_X2_feed hB _ _ hR2 _) dX8_addFuel_40 rfl gX8_addFuel_X2_feed rfl (is_X2 hB) ⟨rfl, qX2_feed⟩ ⟨rfl, rfl⟩ ⟨Nat.le_of_ble_eq_true rfl, Nat.le_of_ble_eq_true rfl⟩ rfl (Nat.le_of_ble_eq_true rfl) ⟨Nat.zero_le _, Nat.zero_le _⟩ (fun σ3 τ3 hq => ?_)
    obtain ⟨hR3, hF3, rfl⟩ := hq
    refine y_aload_n C dX8_addFuel_43 rfl ?_
    refine g_X8_now C dX8_addFuel_44 (by decide +kernel) (by decide +kernel) ?_
    refine g_X7_hearth C hB dX8_addFuel_47 (by decide +kernel) (by decide +kernel) ?_
    refine gR_X2_fuel C hB hR3 dX8_addFuel_50 (by decide +kernel) (by decide +kernel) ?_
    exact z_iret C rfl dX8_addFuel_53 (⟨by unfold kW; rw [if_neg c8], upd_eq, hR3, hC2.k1 hF3, (hF2.mono cS_r).trans (hF3.mono cS_1), rfl⟩)
  · -- f
    exact z_thr C0 rfl (ik := 30) (ic := 34) (cls := eIA) (by decide) twX8_addFuel_a (is := 74) (text := "fuel is not 1 to 200") (by decide +kernel) dX8_addFuel_11 dX8_addFuel_14 dX8_addFuel_15 dX8_addFuel_17 dX8_addFuel_20 ⟨Nat.le_of_ble_eq_true rfl, Nat.le_of_ble_eq_true rfl, Nat.le_refl _, Nat.le_refl _⟩ rfl (⟨rfl, by unfold kW; rw [if_pos c8]⟩)
set_option maxHeartbeats 4000000 in
set_option maxRecDepth 100000 in
theorem e_X8_setTarget (σ : xS) (τ : xT) {r : Rw} {R ns nr ne t kp : Nat} {qs : Nat → Rw} (hR : Rel σ 1 r) (hC : Rc σ kp qs) (hk : kp ≤ 4) (I : Inv r R ns nr ne t (t + 1)) (u : Int32) : Zi mX8_setTarget [.ref 0, .int u] σ τ (fun v σ1 τ1 => kW u 0 8 = 0 ∧ v = (r 9) ∧ Cl σ σ1 τ τ1 (upd r 9 u) (kK kp) (kQ kp qs r)) (fun E => E = eIA ∧ kW u 0 8 = 1) := by
  have hB : isW 1 := Or.inl rfl
  have hR4 := I.1.1.2
  have hs8 := I.1.2.1.2
  have hr8 := I.1.2.2.1.2
  have he20 := I.1.2.2.2.1.2
  refine Zi_mk (L := [some (.ref 0), some (.int u), none]) (by decide) rfl (Nat.le_of_ble_eq_true rfl) rfl (fun x C0 => ?_)
  have C := C0.1
  refine y_iload_n C dX8_setTarget_0 rfl ?_
  refine y_iconst (v := 0) C dX8_setTarget_1 (by decide) ?_
  refine y_bipush (v := 8) C dX8_setTarget_2 (by decide) ?_
  refine y_callSi C (e_X8_isWithin _ _ _ _ _) dX8_setTarget_4 rfl gX8_setTarget_X8_isWithin rfl qX8_isWithin ⟨rfl, rfl⟩ ⟨Nat.le_of_ble_eq_true rfl, Nat.le_of_ble_eq_true rfl⟩ rfl (Nat.le_of_ble_eq_true rfl) ⟨Nat.zero_le _, Nat.zero_le _⟩ (fun v1 σ1 τ1 hq => ?_)
  obtain ⟨rfl, rfl, rfl⟩ := hq
  refine y_if_ne (t := 20) C dX8_setTarget_7 (by decide) (fun c7 => ?_) (fun c7 => ?_)
  · -- t
    refine y_aload_n C dX8_setTarget_20 rfl ?_
    refine g_X8_now C dX8_setTarget_21 (by decide +kernel) (by decide +kernel) ?_
    refine g_X7_hearth C hB dX8_setTarget_24 (by decide +kernel) (by decide +kernel) ?_
    refine gR_X2_target C hB hR dX8_setTarget_27 (by decide +kernel) (by decide +kernel) ?_
    refine y_istore_n C dX8_setTarget_30 (L' := [_, _, _]) (Nat.lt_of_lt_of_le (by decide : (2 : Nat) < 3) (Nat.le_refl _)) rfl ?_
    refine y_aload_n C dX8_setTarget_31 rfl ?_
    refine g_X8_records C dX8_setTarget_32 (by decide +kernel) (by decide +kernel) ?_
    refine y_aload_n C dX8_setTarget_35 rfl ?_
    refine g_X8_now C dX8_setTarget_36 (by decide +kernel) (by decide +kernel) ?_
    refine y_callVv C (e_keepZ _ _ hk hC hR I.jam) dX8_setTarget_39 rfl gX8_setTarget_X4_keep rfl (is_X4) ⟨rfl, qX4_keep⟩ ⟨rfl, rfl⟩ ⟨Nat.le_of_ble_eq_true rfl, Nat.le_of_ble_eq_true rfl⟩ rfl (Nat.le_of_ble_eq_true rfl) ⟨Nat.zero_le _, Nat.zero_le _⟩ (fun σ2 τ2 hq => ?_)
    obtain ⟨hC2, hR2, hF2, rfl⟩ := hq
    refine y_aload_n C dX8_setTarget_42 rfl ?_
    refine g_X8_now C dX8_setTarget_43 (by decide +kernel) (by decide +kernel) ?_
    refine g_X7_hearth C hB dX8_setTarget_46 (by decide +kernel) (by decide +kernel) ?_
    refine y_iload_n C dX8_setTarget_49 rfl ?_
    refine pR_X2_target C hB hR2 dX8_setTarget_50 (by decide +kernel) (by decide +kernel) (fun σ3 hR3 hF3 => ?_)
    refine y_iload_n C dX8_setTarget_53 rfl ?_
    exact z_iret C rfl dX8_setTarget_54 (⟨by unfold kW; rw [if_neg c7], rfl, hR3, hC2.k1 hF3, (hF2.mono cS_r).trans (hF3.mono cS_1), rfl⟩)
  · -- f
    exact z_thr C0 rfl (ik := 30) (ic := 34) (cls := eIA) (by decide) twX8_setTarget_a (is := 88) (text := "opening is not 0 to 8") (by decide +kernel) dX8_setTarget_10 dX8_setTarget_13 dX8_setTarget_14 dX8_setTarget_16 dX8_setTarget_19 ⟨Nat.le_of_ble_eq_true rfl, Nat.le_of_ble_eq_true rfl, Nat.le_refl _, Nat.le_refl _⟩ rfl (⟨rfl, by unfold kW; rw [if_pos c7]⟩)
set_option maxHeartbeats 4000000 in
set_option maxRecDepth 100000 in
theorem e_X8_set (σ : xS) (τ : xT) {r : Rw} {R ns nr ne t kp : Nat} {qs : Nat → Rw} (hR : Rel σ 1 r) (hC : Rc σ kp qs) (hk : kp ≤ 4) (I : Inv r R ns nr ne t (t + 1)) (u v : Int32) : Zi mX8_set [.ref 0, .int u, .int v] σ τ (fun y σ1 τ1 => kSet u v = 0 ∧ y = mNum r u ∧ Cl σ σ1 τ τ1 (upd r (cN u) v) (kK kp) (kQ kp qs r)) (fun E => E = eIA ∧ kSet u v = 1) := by
  have hB : isW 1 := Or.inl rfl
  have hR4 := I.1.1.2
  have hs8 := I.1.2.1.2
  have hr8 := I.1.2.2.1.2
  have he20 := I.1.2.2.2.1.2
  refine Zi_mk (L := [some (.ref 0), some (.int u), some (.int v), none]) (by decide) rfl (Nat.le_of_ble_eq_true rfl) rfl (fun x C0 => ?_)
  have C := C0.1
  refine y_iload_n C dX8_set_0 rfl ?_
  refine y_iconst (v := 0) C dX8_set_1 (by decide) ?_
  refine y_iconst (v := 5) C dX8_set_2 (by decide) ?_
  refine y_callSi C (e_X8_isWithin _ _ _ _ _) dX8_set_3 rfl gX8_set_X8_isWithin rfl qX8_isWithin ⟨rfl, rfl⟩ ⟨Nat.le_of_ble_eq_true rfl, Nat.le_of_ble_eq_true rfl⟩ rfl (Nat.le_of_ble_eq_true rfl) ⟨Nat.zero_le _, Nat.zero_le _⟩ (fun v1 σ1 τ1 hq => ?_)
  obtain ⟨rfl, rfl, rfl⟩ := hq
  refine y_if_ne (t := 19) C dX8_set_6 (by decide) (fun c6 => ?_) (fun c6 => ?_)
  · -- t
    obtain ⟨w, hw, rfl⟩ := with0 5 (by decide) rfl c6
    rw [cN_nI (n := w) (by omega)]
    refine y_iload_n C dX8_set_19 rfl ?_
    refine y_lo C hw (by decide +kernel) rfl dX8_set_20 dX8_set_23 dX8_set_24 ?_
    refine y_hi C hw (by decide +kernel) rfl dX8_set_25 dX8_set_28 dX8_set_29 ?_
    refine y_callSi C (e_X8_isWithin _ _ _ _ _) dX8_set_30 rfl gX8_set_X8_isWithin rfl qX8_isWithin ⟨rfl, rfl⟩ ⟨Nat.le_of_ble_eq_true rfl, Nat.le_of_ble_eq_true rfl⟩ rfl (Nat.le_of_ble_eq_true rfl) ⟨Nat.zero_le _, Nat.zero_le _⟩ (fun v1 σ1 τ1 hq => ?_)
    obtain ⟨rfl, rfl, rfl⟩ := hq
    refine y_if_ne (t := 46) C dX8_set_33 (by decide) (fun c33 => ?_) (fun c33 => ?_)
    · -- t
      refine y_aload_n C dX8_set_46 rfl ?_
      refine g_X8_now C dX8_set_47 (by decide +kernel) (by decide +kernel) ?_
      refine y_iload_n C dX8_set_50 rfl ?_
      refine y_callVi C (e_X7_aboutAll hB _ _ hR I w (by omega)) dX8_set_51 rfl gX8_set_X7_aboutAll rfl (is_X7 hB) ⟨rfl, qX7_aboutAll⟩ ⟨rfl, rfl⟩ ⟨Nat.le_of_ble_eq_true rfl, Nat.le_of_ble_eq_true rfl⟩ rfl (Nat.le_of_ble_eq_true rfl) ⟨Nat.zero_le _, Nat.zero_le _⟩ (fun v1 σ1 τ1 hq => ?_)
      obtain ⟨rfl, rfl, rfl⟩ := hq
      refine y_istore_n C dX8_set_54 (L' := [_, _, _, _]) (Nat.lt_of_lt_of_le (by decide : (3 : Nat) < 4) (Nat.le_refl _)) rfl ?_
      refine y_aload_n C dX8_set_55 rfl ?_
      refine g_X8_records C dX8_set_56 (by decide +kernel) (by decide +kernel) ?_
      refine y_aload_n C dX8_set_59 rfl ?_
      refine g_X8_now C dX8_set_60 (by decide +kernel) (by decide +kernel) ?_
      refine y_callVv C (e_keepZ _ _ hk hC hR I.jam) dX8_set_63 rfl gX8_set_X4_keep rfl (is_X4) ⟨rfl, qX4_keep⟩ ⟨rfl, rfl⟩ ⟨Nat.le_of_ble_eq_true rfl, Nat.le_of_ble_eq_true rfl⟩ rfl (Nat.le_of_ble_eq_true rfl) ⟨Nat.zero_le _, Nat.zero_le _⟩ (fun σ2 τ2 hq => ?_)
      obtain ⟨hC2, hR2, hF2, rfl⟩ := hq
      refine y_aload_n C dX8_set_66 rfl ?_
      refine g_X8_now C dX8_set_67 (by decide +kernel) (by decide +kernel) ?_
      refine y_iload_n C dX8_set_70 rfl ?_
      refine y_iload_n C dX8_set_71 rfl ?_
      refine y_callVv C (e_X7_putSetting hB _ _ hR2 w (by omega) v (can_j hw c33)) dX8_set_72 rfl gX8_set_X7_putSetting rfl (is_X7 hB) ⟨rfl, qX7_putSetting⟩ ⟨rfl, rfl⟩ ⟨Nat.le_of_ble_eq_true rfl, Nat.le_of_ble_eq_true rfl⟩ rfl (Nat.le_of_ble_eq_true rfl) ⟨Nat.zero_le _, Nat.zero_le _⟩ (fun σ3 τ3 hq => ?_)
      obtain ⟨hR3, hF3, rfl⟩ := hq
      refine y_iload_n C dX8_set_75 rfl ?_
      exact z_iret C rfl dX8_set_76 (⟨by unfold kSet; rw [can_in w hw, if_neg c33], rfl, hR3, hC2.k1 hF3, (hF2.mono cS_r).trans (hF3.mono cS_1), rfl⟩)
    · -- f
      exact z_thr C0 rfl (ik := 30) (ic := 34) (cls := eIA) (by decide) twX8_set_a (is := 102) (text := "value is out of range") (by decide +kernel) dX8_set_36 dX8_set_39 dX8_set_40 dX8_set_42 dX8_set_45 ⟨Nat.le_of_ble_eq_true rfl, Nat.le_of_ble_eq_true rfl, Nat.le_refl _, Nat.le_refl _⟩ rfl (⟨rfl, by unfold kSet; rw [can_in w hw, if_pos c33]⟩)
  · -- f
    exact z_thr C0 rfl (ik := 30) (ic := 34) (cls := eIA) (by decide) twX8_set_a (is := 93) (text := "what is not 0 to 5") (by decide +kernel) dX8_set_9 dX8_set_12 dX8_set_13 dX8_set_15 dX8_set_18 ⟨Nat.le_of_ble_eq_true rfl, Nat.le_of_ble_eq_true rfl, Nat.le_refl _, Nat.le_refl _⟩ rfl (⟨rfl, by unfold kSet; rw [if_pos (can_out v c6)]⟩)
set_option maxHeartbeats 4000000 in
set_option maxRecDepth 100000 in
theorem e_X8_setSmoke (σ : xS) (τ : xT) {r : Rw} {R ns nr ne t kp : Nat} {qs : Nat → Rw} (hR : Rel σ 1 r) (hC : Rc σ kp qs) (hk : kp ≤ 4) (I : Inv r R ns nr ne t (t + 1)) (u v : Int32) : Zi mX8_setSmoke [.ref 0, .int u, .int v] σ τ (fun y σ1 τ1 => kRW r u v 0 99999 = 0 ∧ y = (r (20 + cN u)) ∧ Cl σ σ1 τ τ1 (upd r (20 + cN u) v) (kK kp) (kQ kp qs r)) (fun E => (E = eIO ∧ kRW r u v 0 99999 = 1) ∨ (E = eIA ∧ kRW r u v 0 99999 = 2)) := by
  have hB : isW 1 := Or.inl rfl
  have hR4 := I.1.1.2
  have hs8 := I.1.2.1.2
  have hr8 := I.1.2.2.1.2
  have he20 := I.1.2.2.2.1.2
  refine Zi_mk (L := [some (.ref 0), some (.int u), some (.int v), none]) (by decide) rfl (Nat.le_of_ble_eq_true rfl) rfl (fun x C0 => ?_)
  have C := C0.1
  refine y_aload_n C dX8_setSmoke_0 rfl ?_
  refine g_X8_now C dX8_setSmoke_1 (by decide +kernel) (by decide +kernel) ?_
  refine g_X7_house C hB dX8_setSmoke_4 (by decide +kernel) (by decide +kernel) ?_
  refine y_iload_n C dX8_setSmoke_7 rfl ?_
  refine y_callVi C (e_X3_isRoom hB _ _ hR _) dX8_setSmoke_8 rfl gX8_setSmoke_X3_isRoom rfl (is_X3 hB) ⟨rfl, qX3_isRoom⟩ ⟨rfl, rfl⟩ ⟨Nat.le_of_ble_eq_true rfl, Nat.le_of_ble_eq_true rfl⟩ rfl (Nat.le_of_ble_eq_true rfl) ⟨Nat.zero_le _, Nat.zero_le _⟩ (fun v1 σ1 τ1 hq => ?_)
  obtain ⟨rfl, rfl, rfl⟩ := hq
  refine y_if_ne (t := 24) C dX8_setSmoke_11 (by decide) (fun c11 => ?_) (fun c11 => ?_)
  · -- t
    refine y_iload_n C dX8_setSmoke_24 rfl ?_
    refine y_iconst (v := 0) C dX8_setSmoke_25 (by decide) ?_
    refine y_ldc (v := 99999) C dX8_setSmoke_26 (by decide +kernel) ?_
    refine y_callSi C (e_X8_isWithin _ _ _ _ _) dX8_setSmoke_28 rfl gX8_setSmoke_X8_isWithin rfl qX8_isWithin ⟨rfl, rfl⟩ ⟨Nat.le_of_ble_eq_true rfl, Nat.le_of_ble_eq_true rfl⟩ rfl (Nat.le_of_ble_eq_true rfl) ⟨Nat.zero_le _, Nat.zero_le _⟩ (fun v1 σ1 τ1 hq => ?_)
    obtain ⟨rfl, rfl, rfl⟩ := hq
    refine y_if_ne (t := 44) C dX8_setSmoke_31 (by decide) (fun c31 => ?_) (fun c31 => ?_)
    · -- t
      obtain ⟨i, hi, rfl⟩ := room_of I c11
      rw [cN_nI (n := i) (by omega)]
      refine y_aload_n C dX8_setSmoke_44 rfl ?_
      refine g_X8_now C dX8_setSmoke_45 (by decide +kernel) (by decide +kernel) ?_
      refine g_X7_house C hB dX8_setSmoke_48 (by decide +kernel) (by decide +kernel) ?_
      refine g_X3_smoke C hB dX8_setSmoke_51 (by decide +kernel) (by decide +kernel) ?_
      refine y_iload_n C dX8_setSmoke_54 rfl ?_
      refine aR C hB hR (20 + i) 2 i 4 (pl_lo20 _ (by omega)) (lv_l (by omega) (by omega)) (by decide) rfl (by decide) rfl (by omega) dX8_setSmoke_55 ?_
      refine y_istore_n C dX8_setSmoke_56 (L' := [_, _, _, _]) (Nat.lt_of_lt_of_le (by decide : (3 : Nat) < 4) (Nat.le_refl _)) rfl ?_
      refine y_aload_n C dX8_setSmoke_57 rfl ?_
      refine g_X8_records C dX8_setSmoke_58 (by decide +kernel) (by decide +kernel) ?_
      refine y_aload_n C dX8_setSmoke_61 rfl ?_
      refine g_X8_now C dX8_setSmoke_62 (by decide +kernel) (by decide +kernel) ?_
      refine y_callVv C (e_keepZ _ _ hk hC hR I.jam) dX8_setSmoke_65 rfl gX8_setSmoke_X4_keep rfl (is_X4) ⟨rfl, qX4_keep⟩ ⟨rfl, rfl⟩ ⟨Nat.le_of_ble_eq_true rfl, Nat.le_of_ble_eq_true rfl⟩ rfl (Nat.le_of_ble_eq_true rfl) ⟨Nat.zero_le _, Nat.zero_le _⟩ (fun σ2 τ2 hq => ?_)
      obtain ⟨hC2, hR2, hF2, rfl⟩ := hq
      refine y_aload_n C dX8_setSmoke_68 rfl ?_
      refine g_X8_now C dX8_setSmoke_69 (by decide +kernel) (by decide +kernel) ?_
      refine g_X7_house C hB dX8_setSmoke_72 (by decide +kernel) (by decide +kernel) ?_
      refine g_X3_smoke C hB dX8_setSmoke_75 (by decide +kernel) (by decide +kernel) ?_
      refine y_iload_n C dX8_setSmoke_78 rfl ?_
      refine y_iload_n C dX8_setSmoke_79 rfl ?_
      refine wR C hB hR2 (20 + i) 2 i 4 (pl_lo20 i (by omega)) (by omega) (by omega) (lv_upd (by omega) (by omega) (by omega)) (by decide) rfl (by decide) rfl (by omega) dX8_setSmoke_80 (fun σ3 hR3 hF3 => ?_)
      refine y_iload_n C dX8_setSmoke_81 rfl ?_
      exact z_iret C rfl dX8_setSmoke_82 (⟨by unfold kRW; rw [if_neg c11, if_neg c31], rfl, hR3, hC2.k1 hF3, (hF2.mono cS_r).trans (hF3.mono cS_1), rfl⟩)
    · -- f
      exact z_thr C0 rfl (ik := 30) (ic := 34) (cls := eIA) (by decide) twX8_setSmoke_a (is := 116) (text := "smoke is not 0 to 99999") (by decide +kernel) dX8_setSmoke_34 dX8_setSmoke_37 dX8_setSmoke_38 dX8_setSmoke_40 dX8_setSmoke_43 ⟨Nat.le_of_ble_eq_true rfl, Nat.le_of_ble_eq_true rfl, Nat.le_refl _, Nat.le_refl _⟩ rfl (Or.inr ⟨rfl, by unfold kRW; rw [if_neg c11, if_pos c31]⟩)
  · -- f
    exact z_thr C0 rfl (ik := 59) (ic := 63) (cls := eIO) (by decide) twX8_setSmoke_b (is := 61) (text := "there is no such room") (by decide +kernel) dX8_setSmoke_14 dX8_setSmoke_17 dX8_setSmoke_18 dX8_setSmoke_20 dX8_setSmoke_23 ⟨Nat.le_of_ble_eq_true rfl, Nat.le_of_ble_eq_true rfl, Nat.le_refl _, Nat.le_refl _⟩ rfl (Or.inl ⟨rfl, by unfold kRW; rw [if_pos c11]⟩)
set_option maxHeartbeats 4000000 in
set_option maxRecDepth 100000 in
theorem e_X8_mute (σ : xS) (τ : xT) {r : Rw} {R ns nr ne t kp : Nat} {qs : Nat → Rw} (hR : Rel σ 1 r) (hC : Rc σ kp qs) (hk : kp ≤ 4) (I : Inv r R ns nr ne t (t + 1)) (u v : Int32) : Zi mX8_mute [.ref 0, .int u, .int v] σ τ (fun y σ1 τ1 => kRW r u v 0 60 = 0 ∧ y = (r (28 + cN u)) ∧ Cl σ σ1 τ τ1 (upd r (28 + cN u) v) (kK kp) (kQ kp qs r)) (fun E => (E = eIO ∧ kRW r u v 0 60 = 1) ∨ (E = eIA ∧ kRW r u v 0 60 = 2)) := by
  have hB : isW 1 := Or.inl rfl
  have hR4 := I.1.1.2
  have hs8 := I.1.2.1.2
  have hr8 := I.1.2.2.1.2
  have he20 := I.1.2.2.2.1.2
  refine Zi_mk (L := [some (.ref 0), some (.int u), some (.int v), none]) (by decide) rfl (Nat.le_of_ble_eq_true rfl) rfl (fun x C0 => ?_)
  have C := C0.1
  refine y_aload_n C dX8_mute_0 rfl ?_
  refine g_X8_now C dX8_mute_1 (by decide +kernel) (by decide +kernel) ?_
  refine g_X7_house C hB dX8_mute_4 (by decide +kernel) (by decide +kernel) ?_
  refine y_iload_n C dX8_mute_7 rfl ?_
  refine y_callVi C (e_X3_isRoom hB _ _ hR _) dX8_mute_8 rfl gX8_mute_X3_isRoom rfl (is_X3 hB) ⟨rfl, qX3_isRoom⟩ ⟨rfl, rfl⟩ ⟨Nat.le_of_ble_eq_true rfl, Nat.le_of_ble_eq_true rfl⟩ rfl (Nat.le_of_ble_eq_true rfl) ⟨Nat.zero_le _, Nat.zero_le _⟩ (fun v1 σ1 τ1 hq => ?_)
  obtain ⟨rfl, rfl, rfl⟩ := hq
  refine y_if_ne (t := 24) C dX8_mute_11 (by decide) (fun c11 => ?_) (fun c11 => ?_)
  · -- t
    refine y_iload_n C dX8_mute_24 rfl ?_
    refine y_iconst (v := 0) C dX8_mute_25 (by decide) ?_
    refine y_bipush (v := 60) C dX8_mute_26 (by decide) ?_
    refine y_callSi C (e_X8_isWithin _ _ _ _ _) dX8_mute_28 rfl gX8_mute_X8_isWithin rfl qX8_isWithin ⟨rfl, rfl⟩ ⟨Nat.le_of_ble_eq_true rfl, Nat.le_of_ble_eq_true rfl⟩ rfl (Nat.le_of_ble_eq_true rfl) ⟨Nat.zero_le _, Nat.zero_le _⟩ (fun v1 σ1 τ1 hq => ?_)
    obtain ⟨rfl, rfl, rfl⟩ := hq
    refine y_if_ne (t := 44) C dX8_mute_31 (by decide) (fun c31 => ?_) (fun c31 => ?_)
    · -- t
      obtain ⟨i, hi, rfl⟩ := room_of I c11
      rw [cN_nI (n := i) (by omega)]
      refine y_aload_n C dX8_mute_44 rfl ?_
      refine g_X8_now C dX8_mute_45 (by decide +kernel) (by decide +kernel) ?_
      refine g_X7_alarms C hB dX8_mute_48 (by decide +kernel) (by decide +kernel) ?_
      refine g_X0_muting C hB dX8_mute_51 (by decide +kernel) (by decide +kernel) ?_
      refine y_iload_n C dX8_mute_54 rfl ?_
      refine aR C hB hR (28 + i) 15 i 4 (pl_lo28 _ (by omega)) (lv_l (by omega) (by omega)) (by decide) rfl (by decide) rfl (by omega) dX8_mute_55 ?_
      refine y_istore_n C dX8_mute_56 (L' := [_, _, _, _]) (Nat.lt_of_lt_of_le (by decide : (3 : Nat) < 4) (Nat.le_refl _)) rfl ?_
      refine y_aload_n C dX8_mute_57 rfl ?_
      refine g_X8_records C dX8_mute_58 (by decide +kernel) (by decide +kernel) ?_
      refine y_aload_n C dX8_mute_61 rfl ?_
      refine g_X8_now C dX8_mute_62 (by decide +kernel) (by decide +kernel) ?_
      refine y_callVv C (e_keepZ _ _ hk hC hR I.jam) dX8_mute_65 rfl gX8_mute_X4_keep rfl (is_X4) ⟨rfl, qX4_keep⟩ ⟨rfl, rfl⟩ ⟨Nat.le_of_ble_eq_true rfl, Nat.le_of_ble_eq_true rfl⟩ rfl (Nat.le_of_ble_eq_true rfl) ⟨Nat.zero_le _, Nat.zero_le _⟩ (fun σ2 τ2 hq => ?_)
      obtain ⟨hC2, hR2, hF2, rfl⟩ := hq
      refine y_aload_n C dX8_mute_68 rfl ?_
      refine g_X8_now C dX8_mute_69 (by decide +kernel) (by decide +kernel) ?_
      refine g_X7_alarms C hB dX8_mute_72 (by decide +kernel) (by decide +kernel) ?_
      refine g_X0_muting C hB dX8_mute_75 (by decide +kernel) (by decide +kernel) ?_
      refine y_iload_n C dX8_mute_78 rfl ?_
      refine y_iload_n C dX8_mute_79 rfl ?_
      refine wR C hB hR2 (28 + i) 15 i 4 (pl_lo28 i (by omega)) (by omega) (by omega) (lv_upd (by omega) (by omega) (by omega)) (by decide) rfl (by decide) rfl (by omega) dX8_mute_80 (fun σ3 hR3 hF3 => ?_)
      refine y_iload_n C dX8_mute_81 rfl ?_
      exact z_iret C rfl dX8_mute_82 (⟨by unfold kRW; rw [if_neg c11, if_neg c31], rfl, hR3, hC2.k1 hF3, (hF2.mono cS_r).trans (hF3.mono cS_1), rfl⟩)
    · -- f
      exact z_thr C0 rfl (ik := 30) (ic := 34) (cls := eIA) (by decide) twX8_mute_a (is := 217) (text := "minutes is not 0 to 60") (by decide +kernel) dX8_mute_34 dX8_mute_37 dX8_mute_38 dX8_mute_40 dX8_mute_43 ⟨Nat.le_of_ble_eq_true rfl, Nat.le_of_ble_eq_true rfl, Nat.le_refl _, Nat.le_refl _⟩ rfl (Or.inr ⟨rfl, by unfold kRW; rw [if_neg c11, if_pos c31]⟩)
  · -- f
    exact z_thr C0 rfl (ik := 59) (ic := 63) (cls := eIO) (by decide) twX8_mute_b (is := 61) (text := "there is no such room") (by decide +kernel) dX8_mute_14 dX8_mute_17 dX8_mute_18 dX8_mute_20 dX8_mute_23 ⟨Nat.le_of_ble_eq_true rfl, Nat.le_of_ble_eq_true rfl, Nat.le_refl _, Nat.le_refl _⟩ rfl (Or.inl ⟨rfl, by unfold kRW; rw [if_pos c11]⟩)
set_option maxHeartbeats 4000000 in
set_option maxRecDepth 100000 in
theorem e_X8_setFault (σ : xS) (τ : xT) {r : Rw} {R ns nr ne t kp : Nat} {qs : Nat → Rw} (hR : Rel σ 1 r) (hC : Rc σ kp qs) (hk : kp ≤ 4) (I : Inv r R ns nr ne t (t + 1)) (u v : Int32) : Zi mX8_setFault [.ref 0, .int u, .int v] σ τ (fun y σ1 τ1 => kSW r u v 0 2 = 0 ∧ y = (r (57 + 7 * cN u + 5)) ∧ Cl σ σ1 τ τ1 (upd r (57 + 7 * cN u + 5) v) (kK kp) (kQ kp qs r)) (fun E => (E = eIO ∧ kSW r u v 0 2 = 1) ∨ (E = eIA ∧ kSW r u v 0 2 = 2)) := by
  have hB : isW 1 := Or.inl rfl
  have hR4 := I.1.1.2
  have hs8 := I.1.2.1.2
  have hr8 := I.1.2.2.1.2
  have he20 := I.1.2.2.2.1.2
  refine Zi_mk (L := [some (.ref 0), some (.int u), some (.int v), none]) (by decide) rfl (Nat.le_of_ble_eq_true rfl) rfl (fun x C0 => ?_)
  have C := C0.1
  refine y_aload_n C dX8_setFault_0 rfl ?_
  refine g_X8_now C dX8_setFault_1 (by decide +kernel) (by decide +kernel) ?_
  refine g_X7_sensors C hB dX8_setFault_4 (by decide +kernel) (by decide +kernel) ?_
  refine y_iload_n C dX8_setFault_7 rfl ?_
  refine y_callVi C (e_X6_has hB _ _ hR _) dX8_setFault_8 rfl gX8_setFault_X6_has rfl (is_X6 hB) ⟨rfl, qX6_has⟩ ⟨rfl, rfl⟩ ⟨Nat.le_of_ble_eq_true rfl, Nat.le_of_ble_eq_true rfl⟩ rfl (Nat.le_of_ble_eq_true rfl) ⟨Nat.zero_le _, Nat.zero_le _⟩ (fun v1 σ1 τ1 hq => ?_)
  obtain ⟨rfl, rfl, rfl⟩ := hq
  refine y_if_ne (t := 24) C dX8_setFault_11 (by decide) (fun c11 => ?_) (fun c11 => ?_)
  · -- t
    refine y_iload_n C dX8_setFault_24 rfl ?_
    refine y_iconst (v := 0) C dX8_setFault_25 (by decide) ?_
    refine y_iconst (v := 2) C dX8_setFault_26 (by decide) ?_
    refine y_callSi C (e_X8_isWithin _ _ _ _ _) dX8_setFault_27 rfl gX8_setFault_X8_isWithin rfl qX8_isWithin ⟨rfl, rfl⟩ ⟨Nat.le_of_ble_eq_true rfl, Nat.le_of_ble_eq_true rfl⟩ rfl (Nat.le_of_ble_eq_true rfl) ⟨Nat.zero_le _, Nat.zero_le _⟩ (fun v1 σ1 τ1 hq => ?_)
    obtain ⟨rfl, rfl, rfl⟩ := hq
    refine y_if_ne (t := 43) C dX8_setFault_30 (by decide) (fun c30 => ?_) (fun c30 => ?_)
    · -- t
      obtain ⟨i, hi, rfl⟩ := sens_of I c11
      rw [cN_nI (n := i) (by omega)]
      refine y_aload_n C dX8_setFault_43 rfl ?_
      refine g_X8_now C dX8_setFault_44 (by decide +kernel) (by decide +kernel) ?_
      refine g_X7_sensors C hB dX8_setFault_47 (by decide +kernel) (by decide +kernel) ?_
      refine g_X6_fault C hB dX8_setFault_50 (by decide +kernel) (by decide +kernel) ?_
      refine y_iload_n C dX8_setFault_53 rfl ?_
      refine aR C hB hR (57 + 7 * i + 5) 11 i 8 (pl_s _ (by have := I.1.2.1.2; omega) _ (by decide)) (lv_s (by have := I.1.2.1.2; omega) (by decide) (inv_s I hi)) (by decide) rfl (by decide) rfl (by have := I.1.2.1.2; omega) dX8_setFault_54 ?_
      refine y_istore_n C dX8_setFault_55 (L' := [_, _, _, _]) (Nat.lt_of_lt_of_le (by decide : (3 : Nat) < 4) (Nat.le_refl _)) rfl ?_
      refine y_aload_n C dX8_setFault_56 rfl ?_
      refine g_X8_records C dX8_setFault_57 (by decide +kernel) (by decide +kernel) ?_
      refine y_aload_n C dX8_setFault_60 rfl ?_
      refine g_X8_now C dX8_setFault_61 (by decide +kernel) (by decide +kernel) ?_
      refine y_callVv C (e_keepZ _ _ hk hC hR I.jam) dX8_setFault_64 rfl gX8_setFault_X4_keep rfl (is_X4) ⟨rfl, qX4_keep⟩ ⟨rfl, rfl⟩ ⟨Nat.le_of_ble_eq_true rfl, Nat.le_of_ble_eq_true rfl⟩ rfl (Nat.le_of_ble_eq_true rfl) ⟨Nat.zero_le _, Nat.zero_le _⟩ (fun σ2 τ2 hq => ?_)
      obtain ⟨hC2, hR2, hF2, rfl⟩ := hq
      refine y_aload_n C dX8_setFault_67 rfl ?_
      refine g_X8_now C dX8_setFault_68 (by decide +kernel) (by decide +kernel) ?_
      refine g_X7_sensors C hB dX8_setFault_71 (by decide +kernel) (by decide +kernel) ?_
      refine g_X6_fault C hB dX8_setFault_74 (by decide +kernel) (by decide +kernel) ?_
      refine y_iload_n C dX8_setFault_77 rfl ?_
      refine y_iload_n C dX8_setFault_78 rfl ?_
      refine wR C hB hR2 (57 + 7 * i + 5) 11 i 8 (pl_s _ (by omega) _ (by decide)) (by omega) (by omega) (lv_upd (by omega) (by omega) (by omega)) (by decide) rfl (by decide) rfl (by omega) dX8_setFault_79 (fun σ3 hR3 hF3 => ?_)
      refine y_iload_n C dX8_setFault_80 rfl ?_
      exact z_iret C rfl dX8_setFault_81 (⟨by unfold kSW; rw [if_neg c11, if_neg c30], rfl, hR3, hC2.k1 hF3, (hF2.mono cS_r).trans (hF3.mono cS_1), rfl⟩)
    · -- f
      exact z_thr C0 rfl (ik := 30) (ic := 34) (cls := eIA) (by decide) twX8_setFault_a (is := 154) (text := "fault is not 0 to 2") (by decide +kernel) dX8_setFault_33 dX8_setFault_36 dX8_setFault_37 dX8_setFault_39 dX8_setFault_42 ⟨Nat.le_of_ble_eq_true rfl, Nat.le_of_ble_eq_true rfl, Nat.le_refl _, Nat.le_refl _⟩ rfl (Or.inr ⟨rfl, by unfold kSW; rw [if_neg c11, if_pos c30]⟩)
  · -- f
    exact z_thr C0 rfl (ik := 59) (ic := 63) (cls := eIO) (by decide) twX8_setFault_b (is := 152) (text := "there is no such sensor") (by decide +kernel) dX8_setFault_14 dX8_setFault_17 dX8_setFault_18 dX8_setFault_20 dX8_setFault_23 ⟨Nat.le_of_ble_eq_true rfl, Nat.le_of_ble_eq_true rfl, Nat.le_refl _, Nat.le_refl _⟩ rfl (Or.inl ⟨rfl, by unfold kSW; rw [if_pos c11]⟩)
set_option maxHeartbeats 4000000 in
set_option maxRecDepth 100000 in
theorem e_X8_info (σ : xS) (τ : xT) {r : Rw} {R ns nr ne t kp : Nat} {qs : Nat → Rw} (hR : Rel σ 1 r) (hC : Rc σ kp qs) (hk : kp ≤ 4) (I : Inv r R ns nr ne t (t + 1)) (u : Int32) : Zi mX8_info [.ref 0, .int u] σ τ (fun v σ1 τ1 => kW u 0 14 = 0 ∧ v = (mNum r u) ∧ Cl σ σ1 τ τ1 (r) (kp) (qs)) (fun E => E = eIA ∧ kW u 0 14 = 1) := by
  have hB : isW 1 := Or.inl rfl
  have hR4 := I.1.1.2
  have hs8 := I.1.2.1.2
  have hr8 := I.1.2.2.1.2
  have he20 := I.1.2.2.2.1.2
  refine Zi_mk (L := [some (.ref 0), some (.int u)]) (by decide) rfl (Nat.le_of_ble_eq_true rfl) rfl (fun x C0 => ?_)
  have C := C0.1
  refine y_iload_n C dX8_info_0 rfl ?_
  refine y_iconst (v := 0) C dX8_info_1 (by decide) ?_
  refine y_bipush (v := 14) C dX8_info_2 (by decide) ?_
  refine y_callSi C (e_X8_isWithin _ _ _ _ _) dX8_info_4 rfl gX8_info_X8_isWithin rfl qX8_isWithin ⟨rfl, rfl⟩ ⟨Nat.le_of_ble_eq_true rfl, Nat.le_of_ble_eq_true rfl⟩ rfl (Nat.le_of_ble_eq_true rfl) ⟨Nat.zero_le _, Nat.zero_le _⟩ (fun v1 σ1 τ1 hq => ?_)
  obtain ⟨rfl, rfl, rfl⟩ := hq
  refine y_if_ne (t := 20) C dX8_info_7 (by decide) (fun c7 => ?_) (fun c7 => ?_)
  · -- t
    obtain ⟨w, hw, rfl⟩ := with0 14 (by decide) rfl c7
    refine y_aload_n C dX8_info_20 rfl ?_
    refine g_X8_now C dX8_info_21 (by decide +kernel) (by decide +kernel) ?_
    refine y_iload_n C dX8_info_24 rfl ?_
    refine y_callVi C (e_X7_aboutAll hB _ _ hR I w (by omega)) dX8_info_25 rfl gX8_info_X7_aboutAll rfl (is_X7 hB) ⟨rfl, qX7_aboutAll⟩ ⟨rfl, rfl⟩ ⟨Nat.le_of_ble_eq_true rfl, Nat.le_of_ble_eq_true rfl⟩ rfl (Nat.le_of_ble_eq_true rfl) ⟨Nat.zero_le _, Nat.zero_le _⟩ (fun v1 σ1 τ1 hq => ?_)
    obtain ⟨rfl, rfl, rfl⟩ := hq
    exact z_iret C rfl dX8_info_28 (⟨by unfold kW; rw [if_neg c7], rfl, ⟨hR, hC, Fr.rf, rfl⟩⟩)
  · -- f
    exact z_thr C0 rfl (ik := 30) (ic := 34) (cls := eIA) (by decide) twX8_info_a (is := 121) (text := "what is not 0 to 14") (by decide +kernel) dX8_info_10 dX8_info_13 dX8_info_14 dX8_info_16 dX8_info_19 ⟨Nat.le_of_ble_eq_true rfl, Nat.le_of_ble_eq_true rfl, Nat.le_refl _, Nat.le_refl _⟩ rfl (⟨rfl, by unfold kW; rw [if_pos c7]⟩)
set_option maxHeartbeats 4000000 in
set_option maxRecDepth 100000 in
theorem e_X8_room (σ : xS) (τ : xT) {r : Rw} {R ns nr ne t kp : Nat} {qs : Nat → Rw} (hR : Rel σ 1 r) (hC : Rc σ kp qs) (hk : kp ≤ 4) (I : Inv r R ns nr ne t (t + 1)) (u v : Int32) : Zi mX8_room [.ref 0, .int u, .int v] σ τ (fun y σ1 τ1 => kRW r u v 0 6 = 0 ∧ y = (mRooT r (cN u) v) ∧ Cl σ σ1 τ τ1 (r) (kp) (qs)) (fun E => (E = eIO ∧ kRW r u v 0 6 = 1) ∨ (E = eIA ∧ kRW r u v 0 6 = 2)) := by
  have hB : isW 1 := Or.inl rfl
  have hR4 := I.1.1.2
  have hs8 := I.1.2.1.2
  have hr8 := I.1.2.2.1.2
  have he20 := I.1.2.2.2.1.2
  refine Zi_mk (L := [some (.ref 0), some (.int u), some (.int v)]) (by decide) rfl (Nat.le_of_ble_eq_true rfl) rfl (fun x C0 => ?_)
  have C := C0.1
  refine y_aload_n C dX8_room_0 rfl ?_
  refine g_X8_now C dX8_room_1 (by decide +kernel) (by decide +kernel) ?_
  refine g_X7_house C hB dX8_room_4 (by decide +kernel) (by decide +kernel) ?_
  refine y_iload_n C dX8_room_7 rfl ?_
  refine y_callVi C (e_X3_isRoom hB _ _ hR _) dX8_room_8 rfl gX8_room_X3_isRoom rfl (is_X3 hB) ⟨rfl, qX3_isRoom⟩ ⟨rfl, rfl⟩ ⟨Nat.le_of_ble_eq_true rfl, Nat.le_of_ble_eq_true rfl⟩ rfl (Nat.le_of_ble_eq_true rfl) ⟨Nat.zero_le _, Nat.zero_le _⟩ (fun v1 σ1 τ1 hq => ?_)
  obtain ⟨rfl, rfl, rfl⟩ := hq
  refine y_if_ne (t := 24) C dX8_room_11 (by decide) (fun c11 => ?_) (fun c11 => ?_)
  · -- t
    refine y_iload_n C dX8_room_24 rfl ?_
    refine y_iconst (v := 0) C dX8_room_25 (by decide) ?_
    refine y_bipush (v := 6) C dX8_room_26 (by decide) ?_
    refine y_callSi C (e_X8_isWithin _ _ _ _ _) dX8_room_28 rfl gX8_room_X8_isWithin rfl qX8_isWithin ⟨rfl, rfl⟩ ⟨Nat.le_of_ble_eq_true rfl, Nat.le_of_ble_eq_true rfl⟩ rfl (Nat.le_of_ble_eq_true rfl) ⟨Nat.zero_le _, Nat.zero_le _⟩ (fun v1 σ1 τ1 hq => ?_)
    obtain ⟨rfl, rfl, rfl⟩ := hq
    refine y_if_ne (t := 44) C dX8_room_31 (by decide) (fun c31 => ?_) (fun c31 => ?_)
    · -- t
      obtain ⟨i, hi, rfl⟩ := room_of I c11
      obtain ⟨w, hw, rfl⟩ := with0 6 (by decide) rfl c31
      rw [cN_nI (n := i) (by omega)]
      refine y_aload_n C dX8_room_44 rfl ?_
      refine g_X8_now C dX8_room_45 (by decide +kernel) (by decide +kernel) ?_
      refine y_iload_n C dX8_room_48 rfl ?_
      refine y_iload_n C dX8_room_49 rfl ?_
      refine y_callVi C (e_X7_aboutRoom hB _ _ hR I i w hi (by omega)) dX8_room_50 rfl gX8_room_X7_aboutRoom rfl (is_X7 hB) ⟨rfl, qX7_aboutRoom⟩ ⟨rfl, rfl⟩ ⟨Nat.le_of_ble_eq_true rfl, Nat.le_of_ble_eq_true rfl⟩ rfl (Nat.le_of_ble_eq_true rfl) ⟨Nat.zero_le _, Nat.zero_le _⟩ (fun v1 σ1 τ1 hq => ?_)
      obtain ⟨rfl, rfl, rfl⟩ := hq
      exact z_iret C rfl dX8_room_53 (⟨by unfold kRW; rw [if_neg c11, if_neg c31], rfl, ⟨hR, hC, Fr.rf, rfl⟩⟩)
    · -- f
      exact z_thr C0 rfl (ik := 30) (ic := 34) (cls := eIA) (by decide) twX8_room_a (is := 123) (text := "what is not 0 to 6") (by decide +kernel) dX8_room_34 dX8_room_37 dX8_room_38 dX8_room_40 dX8_room_43 ⟨Nat.le_of_ble_eq_true rfl, Nat.le_of_ble_eq_true rfl, Nat.le_refl _, Nat.le_refl _⟩ rfl (Or.inr ⟨rfl, by unfold kRW; rw [if_neg c11, if_pos c31]⟩)
  · -- f
    exact z_thr C0 rfl (ik := 59) (ic := 63) (cls := eIO) (by decide) twX8_room_b (is := 61) (text := "there is no such room") (by decide +kernel) dX8_room_14 dX8_room_17 dX8_room_18 dX8_room_20 dX8_room_23 ⟨Nat.le_of_ble_eq_true rfl, Nat.le_of_ble_eq_true rfl, Nat.le_refl _, Nat.le_refl _⟩ rfl (Or.inl ⟨rfl, by unfold kRW; rw [if_pos c11]⟩)
set_option maxHeartbeats 4000000 in
set_option maxRecDepth 100000 in
theorem e_X8_sensor (σ : xS) (τ : xT) {r : Rw} {R ns nr ne t kp : Nat} {qs : Nat → Rw} (hR : Rel σ 1 r) (hC : Rc σ kp qs) (hk : kp ≤ 4) (I : Inv r R ns nr ne t (t + 1)) (u v : Int32) : Zi mX8_sensor [.ref 0, .int u, .int v] σ τ (fun y σ1 τ1 => kSW r u v 0 8 = 0 ∧ y = (mSenT r (cN u) v) ∧ Cl σ σ1 τ τ1 (r) (kp) (qs)) (fun E => (E = eIO ∧ kSW r u v 0 8 = 1) ∨ (E = eIA ∧ kSW r u v 0 8 = 2)) := by
  have hB : isW 1 := Or.inl rfl
  have hR4 := I.1.1.2
  have hs8 := I.1.2.1.2
  have hr8 := I.1.2.2.1.2
  have he20 := I.1.2.2.2.1.2
  refine Zi_mk (L := [some (.ref 0), some (.int u), some (.int v)]) (by decide) rfl (Nat.le_of_ble_eq_true rfl) rfl (fun x C0 => ?_)
  have C := C0.1
  refine y_aload_n C dX8_sensor_0 rfl ?_
  refine g_X8_now C dX8_sensor_1 (by decide +kernel) (by decide +kernel) ?_
  refine g_X7_sensors C hB dX8_sensor_4 (by decide +kernel) (by decide +kernel) ?_
  refine y_iload_n C dX8_sensor_7 rfl ?_
  refine y_callVi C (e_X6_has hB _ _ hR _) dX8_sensor_8 rfl gX8_sensor_X6_has rfl (is_X6 hB) ⟨rfl, qX6_has⟩ ⟨rfl, rfl⟩ ⟨Nat.le_of_ble_eq_true rfl, Nat.le_of_ble_eq_true rfl⟩ rfl (Nat.le_of_ble_eq_true rfl) ⟨Nat.zero_le _, Nat.zero_le _⟩ (fun v1 σ1 τ1 hq => ?_)
  obtain ⟨rfl, rfl, rfl⟩ := hq
  refine y_if_ne (t := 24) C dX8_sensor_11 (by decide) (fun c11 => ?_) (fun c11 => ?_)
  · -- t
    refine y_iload_n C dX8_sensor_24 rfl ?_
    refine y_iconst (v := 0) C dX8_sensor_25 (by decide) ?_
    refine y_bipush (v := 8) C dX8_sensor_26 (by decide) ?_
    refine y_callSi C (e_X8_isWithin _ _ _ _ _) dX8_sensor_28 rfl gX8_sensor_X8_isWithin rfl qX8_isWithin ⟨rfl, rfl⟩ ⟨Nat.le_of_ble_eq_true rfl, Nat.le_of_ble_eq_true rfl⟩ rfl (Nat.le_of_ble_eq_true rfl) ⟨Nat.zero_le _, Nat.zero_le _⟩ (fun v1 σ1 τ1 hq => ?_)
    obtain ⟨rfl, rfl, rfl⟩ := hq
    refine y_if_ne (t := 44) C dX8_sensor_31 (by decide) (fun c31 => ?_) (fun c31 => ?_)
    · -- t
      obtain ⟨i, hi, rfl⟩ := sens_of I c11
      obtain ⟨w, hw, rfl⟩ := with0 8 (by decide) rfl c31
      rw [cN_nI (n := i) (by omega)]
      refine y_aload_n C dX8_sensor_44 rfl ?_
      refine g_X8_now C dX8_sensor_45 (by decide +kernel) (by decide +kernel) ?_
      refine y_iload_n C dX8_sensor_48 rfl ?_
      refine y_iload_n C dX8_sensor_49 rfl ?_
      refine y_callVi C (e_X7_aboutSensor hB _ _ hR I i w hi (by omega)) dX8_sensor_50 rfl gX8_sensor_X7_aboutSensor rfl (is_X7 hB) ⟨rfl, qX7_aboutSensor⟩ ⟨rfl, rfl⟩ ⟨Nat.le_of_ble_eq_true rfl, Nat.le_of_ble_eq_true rfl⟩ rfl (Nat.le_of_ble_eq_true rfl) ⟨Nat.zero_le _, Nat.zero_le _⟩ (fun v1 σ1 τ1 hq => ?_)
      obtain ⟨rfl, rfl, rfl⟩ := hq
      exact z_iret C rfl dX8_sensor_53 (⟨by unfold kSW; rw [if_neg c11, if_neg c31], rfl, ⟨hR, hC, Fr.rf, rfl⟩⟩)
    · -- f
      exact z_thr C0 rfl (ik := 30) (ic := 34) (cls := eIA) (by decide) twX8_sensor_a (is := 159) (text := "what is not 0 to 8") (by decide +kernel) dX8_sensor_34 dX8_sensor_37 dX8_sensor_38 dX8_sensor_40 dX8_sensor_43 ⟨Nat.le_of_ble_eq_true rfl, Nat.le_of_ble_eq_true rfl, Nat.le_refl _, Nat.le_refl _⟩ rfl (Or.inr ⟨rfl, by unfold kSW; rw [if_neg c11, if_pos c31]⟩)
  · -- f
    exact z_thr C0 rfl (ik := 59) (ic := 63) (cls := eIO) (by decide) twX8_sensor_b (is := 152) (text := "there is no such sensor") (by decide +kernel) dX8_sensor_14 dX8_sensor_17 dX8_sensor_18 dX8_sensor_20 dX8_sensor_23 ⟨Nat.le_of_ble_eq_true rfl, Nat.le_of_ble_eq_true rfl, Nat.le_refl _, Nat.le_refl _⟩ rfl (Or.inl ⟨rfl, by unfold kSW; rw [if_pos c11]⟩)
set_option maxHeartbeats 4000000 in
set_option maxRecDepth 100000 in
theorem e_X8_event (σ : xS) (τ : xT) {r : Rw} {R ns nr ne t kp : Nat} {qs : Nat → Rw} (hR : Rel σ 1 r) (hC : Rc σ kp qs) (hk : kp ≤ 4) (I : Inv r R ns nr ne t (t + 1)) (u v : Int32) : Zi mX8_event [.ref 0, .int u, .int v] σ τ (fun y σ1 τ1 => kW v 0 3 = 0 ∧ y = (if 0 ≤ u ∧ u < r 12 then r (145 + 4 * cN u + cN v) else -1) ∧ Cl σ σ1 τ τ1 (r) (kp) (qs)) (fun E => E = eIA ∧ kW v 0 3 = 1) := by
  have hB : isW 1 := Or.inl rfl
  have hR4 := I.1.1.2
  have hs8 := I.1.2.1.2
  have hr8 := I.1.2.2.1.2
  have he20 := I.1.2.2.2.1.2
  refine Zi_mk (L := [some (.ref 0), some (.int u), some (.int v)]) (by decide) rfl (Nat.le_of_ble_eq_true rfl) rfl (fun x C0 => ?_)
  have C := C0.1
  refine y_iload_n C dX8_event_0 rfl ?_
  refine y_iconst (v := 0) C dX8_event_1 (by decide) ?_
  refine y_iconst (v := 3) C dX8_event_2 (by decide) ?_
  refine y_callSi C (e_X8_isWithin _ _ _ _ _) dX8_event_3 rfl gX8_event_X8_isWithin rfl qX8_isWithin ⟨rfl, rfl⟩ ⟨Nat.le_of_ble_eq_true rfl, Nat.le_of_ble_eq_true rfl⟩ rfl (Nat.le_of_ble_eq_true rfl) ⟨Nat.zero_le _, Nat.zero_le _⟩ (fun v1 σ1 τ1 hq => ?_)
  obtain ⟨rfl, rfl, rfl⟩ := hq
  refine y_if_ne (t := 19) C dX8_event_6 (by decide) (fun c6 => ?_) (fun c6 => ?_)
  · -- t
    refine y_aload_n C dX8_event_19 rfl ?_
    refine g_X8_now C dX8_event_20 (by decide +kernel) (by decide +kernel) ?_
    refine g_X7_events C hB dX8_event_23 (by decide +kernel) (by decide +kernel) ?_
    refine y_iload_n C dX8_event_26 rfl ?_
    refine y_callVi C (e_X1_has hB _ _ hR _) dX8_event_27 rfl gX8_event_X1_has rfl (is_X1 hB) ⟨rfl, qX1_has⟩ ⟨rfl, rfl⟩ ⟨Nat.le_of_ble_eq_true rfl, Nat.le_of_ble_eq_true rfl⟩ rfl (Nat.le_of_ble_eq_true rfl) ⟨Nat.zero_le _, Nat.zero_le _⟩ (fun v1 σ1 τ1 hq => ?_)
    obtain ⟨rfl, rfl, rfl⟩ := hq
    refine y_if_eq (t := 48) C dX8_event_30 (by decide) (fun c30 => ?_) (fun c30 => ?_)
    · -- t
      have h30 : ¬ (0 ≤ u ∧ u < r 12) := fun z => by rw [if_pos z] at c30; exact absurd c30 (by decide)
      refine y_iconst (v := -1) C dX8_event_48 (by decide) ?_
      exact z_iret C rfl dX8_event_49 (⟨by unfold kW; rw [if_neg c6], by first | (rw [if_pos h30]; done) | (rw [if_neg h30]; done), ⟨hR, hC, Fr.rf, rfl⟩⟩)
    · -- f
      have h30 : 0 ≤ u ∧ u < r 12 := Decidable.not_not.mp (fun z => c30 (if_neg z))
      obtain ⟨k, hk9, rfl⟩ := in_of (n := ne) (by omega) (by rw [I.1.2.2.2.1.1] at h30; exact h30)
      obtain ⟨w, hw, rfl⟩ := with0 3 (by decide) rfl c6
      rw [cN_nI (n := k) (by omega), cN_nI (n := w) (by omega)]
      refine y_aload_n C dX8_event_33 rfl ?_
      refine g_X8_now C dX8_event_34 (by decide +kernel) (by decide +kernel) ?_
      refine g_X7_events C hB dX8_event_37 (by decide +kernel) (by decide +kernel) ?_
      refine y_iload_n C dX8_event_40 rfl ?_
      refine y_iload_n C dX8_event_41 rfl ?_
      refine y_callVi C (e_X1_about hB _ _ hR I k w hk9 (by omega)) dX8_event_42 rfl gX8_event_X1_about rfl (is_X1 hB) ⟨rfl, qX1_about⟩ ⟨rfl, rfl⟩ ⟨Nat.le_of_ble_eq_true rfl, Nat.le_of_ble_eq_true rfl⟩ rfl (Nat.le_of_ble_eq_true rfl) ⟨Nat.zero_le _, Nat.zero_le _⟩ (fun v1 σ1 τ1 hq => ?_)
      obtain ⟨rfl, rfl, rfl⟩ := hq
      refine y_goto (t := 49) C dX8_event_45 (by decide) ?_
      exact z_iret C rfl dX8_event_49 (⟨by unfold kW; rw [if_neg c6], by first | (rw [if_pos h30]; done) | (rw [if_neg h30]; done), ⟨hR, hC, Fr.rf, rfl⟩⟩)
  · -- f
    exact z_thr C0 rfl (ik := 30) (ic := 34) (cls := eIA) (by decide) twX8_event_a (is := 211) (text := "what is not 0 to 3") (by decide +kernel) dX8_event_9 dX8_event_12 dX8_event_13 dX8_event_15 dX8_event_18 ⟨Nat.le_of_ble_eq_true rfl, Nat.le_of_ble_eq_true rfl, Nat.le_refl _, Nat.le_refl _⟩ rfl (⟨rfl, by unfold kW; rw [if_pos c6]⟩)
set_option maxHeartbeats 4000000 in
set_option maxRecDepth 100000 in
theorem e_X8_told (σ : xS) (τ : xT) {r : Rw} {R ns nr ne t kp : Nat} {qs : Nat → Rw} (hR : Rel σ 1 r) (hC : Rc σ kp qs) (hk : kp ≤ 4) (I : Inv r R ns nr ne t (t + 1)) (u : Int32) : Zi mX8_told [.ref 0, .int u] σ τ (fun v σ1 τ1 => kW u 0 5 = 0 ∧ v = (r (13 + cN u)) ∧ Cl σ σ1 τ τ1 (r) (kp) (qs)) (fun E => E = eIA ∧ kW u 0 5 = 1) := by
  have hB : isW 1 := Or.inl rfl
  have hR4 := I.1.1.2
  have hs8 := I.1.2.1.2
  have hr8 := I.1.2.2.1.2
  have he20 := I.1.2.2.2.1.2
  refine Zi_mk (L := [some (.ref 0), some (.int u)]) (by decide) rfl (Nat.le_of_ble_eq_true rfl) rfl (fun x C0 => ?_)
  have C := C0.1
  refine y_iload_n C dX8_told_0 rfl ?_
  refine y_iconst (v := 0) C dX8_told_1 (by decide) ?_
  refine y_iconst (v := 5) C dX8_told_2 (by decide) ?_
  refine y_callSi C (e_X8_isWithin _ _ _ _ _) dX8_told_3 rfl gX8_told_X8_isWithin rfl qX8_isWithin ⟨rfl, rfl⟩ ⟨Nat.le_of_ble_eq_true rfl, Nat.le_of_ble_eq_true rfl⟩ rfl (Nat.le_of_ble_eq_true rfl) ⟨Nat.zero_le _, Nat.zero_le _⟩ (fun v1 σ1 τ1 hq => ?_)
  obtain ⟨rfl, rfl, rfl⟩ := hq
  refine y_if_ne (t := 19) C dX8_told_6 (by decide) (fun c6 => ?_) (fun c6 => ?_)
  · -- t
    obtain ⟨w, hw, rfl⟩ := with0 5 (by decide) rfl c6
    rw [cN_nI (n := w) (by omega)]
    refine y_aload_n C dX8_told_19 rfl ?_
    refine g_X8_now C dX8_told_20 (by decide +kernel) (by decide +kernel) ?_
    refine g_X7_counts C hB dX8_told_23 (by decide +kernel) (by decide +kernel) ?_
    refine y_iload_n C dX8_told_26 rfl ?_
    refine aR C hB hR (13 + w) 26 w 6 (pl_lo13 _ (by omega)) (lv_l (by omega) (by omega)) (by decide) rfl (by decide) rfl (by omega) dX8_told_27 ?_
    exact z_iret C rfl dX8_told_28 (⟨by unfold kW; rw [if_neg c6], rfl, ⟨hR, hC, Fr.rf, rfl⟩⟩)
  · -- f
    exact z_thr C0 rfl (ik := 30) (ic := 34) (cls := eIA) (by decide) twX8_told_a (is := 93) (text := "what is not 0 to 5") (by decide +kernel) dX8_told_9 dX8_told_12 dX8_told_13 dX8_told_15 dX8_told_18 ⟨Nat.le_of_ble_eq_true rfl, Nat.le_of_ble_eq_true rfl, Nat.le_refl _, Nat.le_refl _⟩ rfl (⟨rfl, by unfold kW; rw [if_pos c6]⟩)
set_option maxHeartbeats 4000000 in
set_option maxRecDepth 100000 in
theorem e_X8_addSensor (σ : xS) (τ : xT) {r : Rw} {R ns nr ne t kp : Nat} {qs : Nat → Rw} (hR : Rel σ 1 r) (hC : Rc σ kp qs) (hk : kp ≤ 4) (I : Inv r R ns nr ne t (t + 1)) (a b c d e : Int32) : Zi mX8_addSensor [.ref 0, .int a, .int b, .int c, .int d, .int e] σ τ (fun v σ1 τ1 => kASe r a b c d e = 0 ∧ v = (r 10) ∧ Cl σ σ1 τ τ1 (mASe r ns a b c d e) (kK kp) (kQ kp qs r)) (fun E => (E = eIO ∧ kASe r a b c d e = 1) ∨ (E = eIA ∧ kASe r a b c d e = 2) ∨ (E = eIS ∧ kASe r a b c d e = 3)) := by
  have hB : isW 1 := Or.inl rfl
  have hR4 := I.1.1.2
  have hs8 := I.1.2.1.2
  have hr8 := I.1.2.2.1.2
  have he20 := I.1.2.2.2.1.2
  refine Zi_mk (L := [some (.ref 0), some (.int a), some (.int b), some (.int c), some (.int d), some (.int e)]) (by decide) rfl (Nat.le_of_ble_eq_true rfl) rfl (fun x C0 => ?_)
  have C := C0.1
  refine y_aload_n C dX8_addSensor_0 rfl ?_
  refine g_X8_now C dX8_addSensor_1 (by decide +kernel) (by decide +kernel) ?_
  refine g_X7_house C hB dX8_addSensor_4 (by decide +kernel) (by decide +kernel) ?_
  refine y_iload_n C dX8_addSensor_7 rfl ?_
  refine y_callVi C (e_X3_isRoom hB _ _ hR _) dX8_addSensor_8 rfl gX8_addSensor_X3_isRoom rfl (is_X3 hB) ⟨rfl, qX3_isRoom⟩ ⟨rfl, rfl⟩ ⟨Nat.le_of_ble_eq_true rfl, Nat.le_of_ble_eq_true rfl⟩ rfl (Nat.le_of_ble_eq_true rfl) ⟨Nat.zero_le _, Nat.zero_le _⟩ (fun v1 σ1 τ1 hq => ?_)
  obtain ⟨rfl, rfl, rfl⟩ := hq
  refine y_if_ne (t := 24) C dX8_addSensor_11 (by decide) (fun c11 => ?_) (fun c11 => ?_)
  · -- t
    refine y_iload_n C dX8_addSensor_24 rfl ?_
    refine y_iconst (v := 0) C dX8_addSensor_25 (by decide) ?_
    refine y_iconst (v := 2) C dX8_addSensor_26 (by decide) ?_
    refine y_callSi C (e_X8_isWithin _ _ _ _ _) dX8_addSensor_27 rfl gX8_addSensor_X8_isWithin rfl qX8_isWithin ⟨rfl, rfl⟩ ⟨Nat.le_of_ble_eq_true rfl, Nat.le_of_ble_eq_true rfl⟩ rfl (Nat.le_of_ble_eq_true rfl) ⟨Nat.zero_le _, Nat.zero_le _⟩ (fun v1 σ1 τ1 hq => ?_)
    obtain ⟨rfl, rfl, rfl⟩ := hq
    refine y_if_eq (t := 65) C dX8_addSensor_30 (by decide) (fun c30 => ?_) (fun c30 => ?_)
    · -- t
      exact z_thr C0 rfl (ik := 30) (ic := 34) (cls := eIA) (by decide) twX8_addSensor_a (is := 129) (text := "kind, threshold, delay or weight is out of range") (by decide +kernel) dX8_addSensor_65 dX8_addSensor_68 dX8_addSensor_69 dX8_addSensor_71 dX8_addSensor_74 ⟨Nat.le_of_ble_eq_true rfl, Nat.le_of_ble_eq_true rfl, Nat.le_refl _, Nat.le_refl _⟩ rfl (Or.inr (Or.inl ⟨rfl, by unfold kASe; rw [if_neg c11, if_pos (by first | exact Or.inl c30 | exact Or.inr (Or.inl c41) | exact Or.inr (Or.inr (Or.inl c52)) | exact Or.inr (Or.inr (Or.inr c62)))]⟩))
    · -- f
      refine y_iload_n C dX8_addSensor_33 rfl ?_
      refine y_iconst (v := 1) C dX8_addSensor_34 (by decide) ?_
      refine y_sipush (v := 9999) C dX8_addSensor_35 (by decide) ?_
      refine y_callSi C (e_X8_isWithin _ _ _ _ _) dX8_addSensor_38 rfl gX8_addSensor_X8_isWithin rfl qX8_isWithin ⟨rfl, rfl⟩ ⟨Nat.le_of_ble_eq_true rfl, Nat.le_of_ble_eq_true rfl⟩ rfl (Nat.le_of_ble_eq_true rfl) ⟨Nat.zero_le _, Nat.zero_le _⟩ (fun v1 σ1 τ1 hq => ?_)
      obtain ⟨rfl, rfl, rfl⟩ := hq
      refine y_if_eq (t := 65) C dX8_addSensor_41 (by decide) (fun c41 => ?_) (fun c41 => ?_)
      · -- t
        exact z_thr C0 rfl (ik := 30) (ic := 34) (cls := eIA) (by decide) twX8_addSensor_a (is := 129) (text := "kind, threshold, delay or weight is out of range") (by decide +kernel) dX8_addSensor_65 dX8_addSensor_68 dX8_addSensor_69 dX8_addSensor_71 dX8_addSensor_74 ⟨Nat.le_of_ble_eq_true rfl, Nat.le_of_ble_eq_true rfl, Nat.le_refl _, Nat.le_refl _⟩ rfl (Or.inr (Or.inl ⟨rfl, by unfold kASe; rw [if_neg c11, if_pos (by first | exact Or.inl c30 | exact Or.inr (Or.inl c41) | exact Or.inr (Or.inr (Or.inl c52)) | exact Or.inr (Or.inr (Or.inr c62)))]⟩))
      · -- f
        refine y_iload C dX8_addSensor_44 rfl ?_
        refine y_iconst (v := 0) C dX8_addSensor_46 (by decide) ?_
        refine y_bipush (v := 9) C dX8_addSensor_47 (by decide) ?_
        refine y_callSi C (e_X8_isWithin _ _ _ _ _) dX8_addSensor_49 rfl gX8_addSensor_X8_isWithin rfl qX8_isWithin ⟨rfl, rfl⟩ ⟨Nat.le_of_ble_eq_true rfl, Nat.le_of_ble_eq_true rfl⟩ rfl (Nat.le_of_ble_eq_true rfl) ⟨Nat.zero_le _, Nat.zero_le _⟩ (fun v1 σ1 τ1 hq => ?_)
        obtain ⟨rfl, rfl, rfl⟩ := hq
        refine y_if_eq (t := 65) C dX8_addSensor_52 (by decide) (fun c52 => ?_) (fun c52 => ?_)
        · -- t
          exact z_thr C0 rfl (ik := 30) (ic := 34) (cls := eIA) (by decide) twX8_addSensor_a (is := 129) (text := "kind, threshold, delay or weight is out of range") (by decide +kernel) dX8_addSensor_65 dX8_addSensor_68 dX8_addSensor_69 dX8_addSensor_71 dX8_addSensor_74 ⟨Nat.le_of_ble_eq_true rfl, Nat.le_of_ble_eq_true rfl, Nat.le_refl _, Nat.le_refl _⟩ rfl (Or.inr (Or.inl ⟨rfl, by unfold kASe; rw [if_neg c11, if_pos (by first | exact Or.inl c30 | exact Or.inr (Or.inl c41) | exact Or.inr (Or.inr (Or.inl c52)) | exact Or.inr (Or.inr (Or.inr c62)))]⟩))
        · -- f
          refine y_iload C dX8_addSensor_55 rfl ?_
          refine y_iconst (v := 1) C dX8_addSensor_57 (by decide) ?_
          refine y_iconst (v := 3) C dX8_addSensor_58 (by decide) ?_
          refine y_callSi C (e_X8_isWithin _ _ _ _ _) dX8_addSensor_59 rfl gX8_addSensor_X8_isWithin rfl qX8_isWithin ⟨rfl, rfl⟩ ⟨Nat.le_of_ble_eq_true rfl, Nat.le_of_ble_eq_true rfl⟩ rfl (Nat.le_of_ble_eq_true rfl) ⟨Nat.zero_le _, Nat.zero_le _⟩ (fun v1 σ1 τ1 hq => ?_)
          obtain ⟨rfl, rfl, rfl⟩ := hq
          refine y_if_ne (t := 75) C dX8_addSensor_62 (by decide) (fun c62 => ?_) (fun c62 => ?_)
          · -- t
            refine y_aload_n C dX8_addSensor_75 rfl ?_
            refine g_X8_now C dX8_addSensor_76 (by decide +kernel) (by decide +kernel) ?_
            refine g_X7_sensors C hB dX8_addSensor_79 (by decide +kernel) (by decide +kernel) ?_
            refine gR_X6_count C hB hR dX8_addSensor_82 (by decide +kernel) (by decide +kernel) ?_
            refine y_topE (nI ns) I.1.2.1.1 ?_
            refine y_bipush (v := 8) C dX8_addSensor_85 (by decide) ?_
            refine y_icmp_lt (t := 100) C dX8_addSensor_87 (by decide) (fun c87 => ?_) (fun c87 => ?_)
            · -- t
              have h8 : ns < 8 := (nI_ltI (by omega) (by decide)).mp c87
              refine y_aload_n C dX8_addSensor_100 rfl ?_
              refine g_X8_records C dX8_addSensor_101 (by decide +kernel) (by decide +kernel) ?_
              refine y_aload_n C dX8_addSensor_104 rfl ?_
              refine g_X8_now C dX8_addSensor_105 (by decide +kernel) (by decide +kernel) ?_
              refine y_callVv C (e_keepZ _ _ hk hC hR I.jam) dX8_addSensor_108 rfl gX8_addSensor_X4_keep rfl (is_X4) ⟨rfl, qX4_keep⟩ ⟨rfl, rfl⟩ ⟨Nat.le_of_ble_eq_true rfl, Nat.le_of_ble_eq_true rfl⟩ rfl (Nat.le_of_ble_eq_true rfl) ⟨Nat.zero_le _, Nat.zero_le _⟩ (fun σ2 τ2 hq => ?_)
              obtain ⟨hC2, hR2, hF2, rfl⟩ := hq
              refine y_aload_n C dX8_addSensor_111 rfl ?_
              refine g_X8_now C dX8_addSensor_112 (by decide +kernel) (by decide +kernel) ?_
              refine g_X7_sensors C hB dX8_addSensor_115 (by decide +kernel) (by decide +kernel) ?_
              refine y_iload_n C dX8_addSensor_118 rfl ?_
              refine y_iload_n C dX8_addSensor_119 rfl ?_
              refine y_iload_n C dX8_addSensor_120 rfl ?_
              refine y_iload C dX8_addSensor_121 rfl ?_
              refine y_iload C dX8_addSensor_123 rfl ?_
              refine y_callVi C (e_X6_append hB _ _ hR2 I a b c d e h8) dX8_addSensor_125 rfl gX8_addSensor_X6_append rfl (is_X6 hB) ⟨rfl, qX6_append⟩ ⟨rfl, rfl⟩ ⟨Nat.le_of_ble_eq_true rfl, Nat.le_of_ble_eq_true rfl⟩ rfl (Nat.le_of_ble_eq_true rfl) ⟨Nat.zero_le _, Nat.zero_le _⟩ (fun v3 σ3 τ3 hq => ?_)
              obtain ⟨rfl, hR3, hF3, rfl⟩ := hq
              exact z_iret C rfl dX8_addSensor_128 (⟨by unfold kASe; rw [if_neg c11, if_neg (fun z => z.elim c30 (fun z => z.elim c41 (fun z => z.elim c52 c62))), if_neg (by rw [I.1.2.1.1]; exact fun z => absurd ((nI_eq (b := 8) (by omega) (by decide)).mp z) (by omega))], I.1.2.1.1.symm, hR3, hC2.k1 hF3, (hF2.mono cS_r).trans (hF3.mono cS_1), rfl⟩)
            · -- f
              exact z_thr C0 rfl (ik := 140) (ic := 144) (cls := eIS) (by decide) twX8_addSensor_c (is := 142) (text := "there are 8 sensors") (by decide +kernel) dX8_addSensor_90 dX8_addSensor_93 dX8_addSensor_94 dX8_addSensor_96 dX8_addSensor_99 ⟨Nat.le_of_ble_eq_true rfl, Nat.le_of_ble_eq_true rfl, Nat.le_refl _, Nat.le_refl _⟩ rfl (Or.inr (Or.inr ⟨rfl, by unfold kASe; rw [if_neg c11, if_neg (fun z => z.elim c30 (fun z => z.elim c41 (fun z => z.elim c52 c62))), if_pos (by rw [I.1.2.1.1, show ns = 8 from Nat.le_antisymm hs8 (Nat.not_lt.mp (fun z => c87 (nI_lt z (by decide))))]; rfl)]⟩))
          · -- f
            exact z_thr C0 rfl (ik := 30) (ic := 34) (cls := eIA) (by decide) twX8_addSensor_a (is := 129) (text := "kind, threshold, delay or weight is out of range") (by decide +kernel) dX8_addSensor_65 dX8_addSensor_68 dX8_addSensor_69 dX8_addSensor_71 dX8_addSensor_74 ⟨Nat.le_of_ble_eq_true rfl, Nat.le_of_ble_eq_true rfl, Nat.le_refl _, Nat.le_refl _⟩ rfl (Or.inr (Or.inl ⟨rfl, by unfold kASe; rw [if_neg c11, if_pos (by first | exact Or.inl c30 | exact Or.inr (Or.inl c41) | exact Or.inr (Or.inr (Or.inl c52)) | exact Or.inr (Or.inr (Or.inr c62)))]⟩))
  · -- f
    exact z_thr C0 rfl (ik := 59) (ic := 63) (cls := eIO) (by decide) twX8_addSensor_b (is := 61) (text := "there is no such room") (by decide +kernel) dX8_addSensor_14 dX8_addSensor_17 dX8_addSensor_18 dX8_addSensor_20 dX8_addSensor_23 ⟨Nat.le_of_ble_eq_true rfl, Nat.le_of_ble_eq_true rfl, Nat.le_refl _, Nat.le_refl _⟩ rfl (Or.inl ⟨rfl, by unfold kASe; rw [if_pos c11]⟩)
set_option maxHeartbeats 4000000 in
set_option maxRecDepth 100000 in
theorem e_X8_addRule (σ : xS) (τ : xT) {r : Rw} {R ns nr ne t kp : Nat} {qs : Nat → Rw} (hR : Rel σ 1 r) (hC : Rc σ kp qs) (hk : kp ≤ 4) (I : Inv r R ns nr ne t (t + 1)) (k a b c : Int32) : Zi mX8_addRule [.ref 0, .int k, .int a, .int b, .int c] σ τ (fun v σ1 τ1 => kARu r k a b c = 0 ∧ v = (r 11) ∧ Cl σ σ1 τ τ1 (mARu r nr k a b c) (kK kp) (kQ kp qs r)) (fun E => (E = eIO ∧ kARu r k a b c = 1) ∨ (E = eIA ∧ kARu r k a b c = 2) ∨ (E = eIS ∧ kARu r k a b c = 3)) := by
  have hB : isW 1 := Or.inl rfl
  have hR4 := I.1.1.2
  have hs8 := I.1.2.1.2
  have hr8 := I.1.2.2.1.2
  have he20 := I.1.2.2.2.1.2
  refine Zi_mk (L := [some (.ref 0), some (.int k), some (.int a), some (.int b), some (.int c)]) (by decide) rfl (Nat.le_of_ble_eq_true rfl) rfl (fun x C0 => ?_)
  have C := C0.1
  refine y_aload_n C dX8_addRule_0 rfl ?_
  refine g_X8_now C dX8_addRule_1 (by decide +kernel) (by decide +kernel) ?_
  refine g_X7_house C hB dX8_addRule_4 (by decide +kernel) (by decide +kernel) ?_
  refine y_iload_n C dX8_addRule_7 rfl ?_
  refine y_callVi C (e_X3_isRoom hB _ _ hR _) dX8_addRule_8 rfl gX8_addRule_X3_isRoom rfl (is_X3 hB) ⟨rfl, qX3_isRoom⟩ ⟨rfl, rfl⟩ ⟨Nat.le_of_ble_eq_true rfl, Nat.le_of_ble_eq_true rfl⟩ rfl (Nat.le_of_ble_eq_true rfl) ⟨Nat.zero_le _, Nat.zero_le _⟩ (fun v1 σ1 τ1 hq => ?_)
  obtain ⟨rfl, rfl, rfl⟩ := hq
  refine y_if_ne (t := 24) C dX8_addRule_11 (by decide) (fun c11 => ?_) (fun c11 => ?_)
  · -- t
    refine y_iload_n C dX8_addRule_24 rfl ?_
    refine y_iconst (v := 0) C dX8_addRule_25 (by decide) ?_
    refine y_iconst (v := 3) C dX8_addRule_26 (by decide) ?_
    refine y_callSi C (e_X8_isWithin _ _ _ _ _) dX8_addRule_27 rfl gX8_addRule_X8_isWithin rfl qX8_isWithin ⟨rfl, rfl⟩ ⟨Nat.le_of_ble_eq_true rfl, Nat.le_of_ble_eq_true rfl⟩ rfl (Nat.le_of_ble_eq_true rfl) ⟨Nat.zero_le _, Nat.zero_le _⟩ (fun v1 σ1 τ1 hq => ?_)
    obtain ⟨rfl, rfl, rfl⟩ := hq
    refine y_if_eq (t := 55) C dX8_addRule_30 (by decide) (fun c30 => ?_) (fun c30 => ?_)
    · -- t
      exact z_thr C0 rfl (ik := 30) (ic := 34) (cls := eIA) (by decide) twX8_addRule_a (is := 164) (text := "kind, limit or opening is out of range") (by decide +kernel) dX8_addRule_55 dX8_addRule_58 dX8_addRule_59 dX8_addRule_61 dX8_addRule_64 ⟨Nat.le_of_ble_eq_true rfl, Nat.le_of_ble_eq_true rfl, Nat.le_refl _, Nat.le_refl _⟩ rfl (Or.inr (Or.inl ⟨rfl, by unfold kARu; rw [if_neg c11, if_pos (by first | exact Or.inl c30 | exact Or.inr (Or.inl c41) | exact Or.inr (Or.inr c52))]⟩))
    · -- f
      refine y_iload_n C dX8_addRule_33 rfl ?_
      refine y_iconst (v := 0) C dX8_addRule_34 (by decide) ?_
      refine y_sipush (v := 9999) C dX8_addRule_35 (by decide) ?_
      refine y_callSi C (e_X8_isWithin _ _ _ _ _) dX8_addRule_38 rfl gX8_addRule_X8_isWithin rfl qX8_isWithin ⟨rfl, rfl⟩ ⟨Nat.le_of_ble_eq_true rfl, Nat.le_of_ble_eq_true rfl⟩ rfl (Nat.le_of_ble_eq_true rfl) ⟨Nat.zero_le _, Nat.zero_le _⟩ (fun v1 σ1 τ1 hq => ?_)
      obtain ⟨rfl, rfl, rfl⟩ := hq
      refine y_if_eq (t := 55) C dX8_addRule_41 (by decide) (fun c41 => ?_) (fun c41 => ?_)
      · -- t
        exact z_thr C0 rfl (ik := 30) (ic := 34) (cls := eIA) (by decide) twX8_addRule_a (is := 164) (text := "kind, limit or opening is out of range") (by decide +kernel) dX8_addRule_55 dX8_addRule_58 dX8_addRule_59 dX8_addRule_61 dX8_addRule_64 ⟨Nat.le_of_ble_eq_true rfl, Nat.le_of_ble_eq_true rfl, Nat.le_refl _, Nat.le_refl _⟩ rfl (Or.inr (Or.inl ⟨rfl, by unfold kARu; rw [if_neg c11, if_pos (by first | exact Or.inl c30 | exact Or.inr (Or.inl c41) | exact Or.inr (Or.inr c52))]⟩))
      · -- f
        refine y_iload C dX8_addRule_44 rfl ?_
        refine y_iconst (v := 0) C dX8_addRule_46 (by decide) ?_
        refine y_bipush (v := 8) C dX8_addRule_47 (by decide) ?_
        refine y_callSi C (e_X8_isWithin _ _ _ _ _) dX8_addRule_49 rfl gX8_addRule_X8_isWithin rfl qX8_isWithin ⟨rfl, rfl⟩ ⟨Nat.le_of_ble_eq_true rfl, Nat.le_of_ble_eq_true rfl⟩ rfl (Nat.le_of_ble_eq_true rfl) ⟨Nat.zero_le _, Nat.zero_le _⟩ (fun v1 σ1 τ1 hq => ?_)
        obtain ⟨rfl, rfl, rfl⟩ := hq
        refine y_if_ne (t := 65) C dX8_addRule_52 (by decide) (fun c52 => ?_) (fun c52 => ?_)
        · -- t
          refine y_aload_n C dX8_addRule_65 rfl ?_
          refine g_X8_now C dX8_addRule_66 (by decide +kernel) (by decide +kernel) ?_
          refine g_X7_rules C hB dX8_addRule_69 (by decide +kernel) (by decide +kernel) ?_
          refine gR_X5_count C hB hR dX8_addRule_72 (by decide +kernel) (by decide +kernel) ?_
          refine y_topE (nI nr) I.1.2.2.1.1 ?_
          refine y_bipush (v := 8) C dX8_addRule_75 (by decide) ?_
          refine y_icmp_lt (t := 90) C dX8_addRule_77 (by decide) (fun c77 => ?_) (fun c77 => ?_)
          · -- t
            have h8 : nr < 8 := (nI_ltI (by omega) (by decide)).mp c77
            refine y_aload_n C dX8_addRule_90 rfl ?_
            refine g_X8_records C dX8_addRule_91 (by decide +kernel) (by decide +kernel) ?_
            refine y_aload_n C dX8_addRule_94 rfl ?_
            refine g_X8_now C dX8_addRule_95 (by decide +kernel) (by decide +kernel) ?_
            refine y_callVv C (e_keepZ _ _ hk hC hR I.jam) dX8_addRule_98 rfl gX8_addRule_X4_keep rfl (is_X4) ⟨rfl, qX4_keep⟩ ⟨rfl, rfl⟩ ⟨Nat.le_of_ble_eq_true rfl, Nat.le_of_ble_eq_true rfl⟩ rfl (Nat.le_of_ble_eq_true rfl) ⟨Nat.zero_le _, Nat.zero_le _⟩ (fun σ2 τ2 hq => ?_)
            obtain ⟨hC2, hR2, hF2, rfl⟩ := hq
            refine y_aload_n C dX8_addRule_101 rfl ?_
            refine g_X8_now C dX8_addRule_102 (by decide +kernel) (by decide +kernel) ?_
            refine g_X7_rules C hB dX8_addRule_105 (by decide +kernel) (by decide +kernel) ?_
            refine y_iload_n C dX8_addRule_108 rfl ?_
            refine y_iload_n C dX8_addRule_109 rfl ?_
            refine y_iload_n C dX8_addRule_110 rfl ?_
            refine y_iload C dX8_addRule_111 rfl ?_
            refine y_callVi C (e_X5_append hB _ _ hR2 I k a b c h8) dX8_addRule_113 rfl gX8_addRule_X5_append rfl (is_X5 hB) ⟨rfl, qX5_append⟩ ⟨rfl, rfl⟩ ⟨Nat.le_of_ble_eq_true rfl, Nat.le_of_ble_eq_true rfl⟩ rfl (Nat.le_of_ble_eq_true rfl) ⟨Nat.zero_le _, Nat.zero_le _⟩ (fun v3 σ3 τ3 hq => ?_)
            obtain ⟨rfl, hR3, hF3, rfl⟩ := hq
            exact z_iret C rfl dX8_addRule_116 (⟨by unfold kARu; rw [if_neg c11, if_neg (fun z => z.elim c30 (fun z => z.elim c41 c52)), if_neg (by rw [I.1.2.2.1.1]; exact fun z => absurd ((nI_eq (b := 8) (by omega) (by decide)).mp z) (by omega))], I.1.2.2.1.1.symm, hR3, hC2.k1 hF3, (hF2.mono cS_r).trans (hF3.mono cS_1), rfl⟩)
          · -- f
            exact z_thr C0 rfl (ik := 140) (ic := 144) (cls := eIS) (by decide) twX8_addRule_c (is := 173) (text := "there are 8 rules") (by decide +kernel) dX8_addRule_80 dX8_addRule_83 dX8_addRule_84 dX8_addRule_86 dX8_addRule_89 ⟨Nat.le_of_ble_eq_true rfl, Nat.le_of_ble_eq_true rfl, Nat.le_refl _, Nat.le_refl _⟩ rfl (Or.inr (Or.inr ⟨rfl, by unfold kARu; rw [if_neg c11, if_neg (fun z => z.elim c30 (fun z => z.elim c41 c52)), if_pos (by rw [I.1.2.2.1.1, show nr = 8 from Nat.le_antisymm hr8 (Nat.not_lt.mp (fun z => c77 (nI_lt z (by decide))))]; rfl)]⟩))
        · -- f
          exact z_thr C0 rfl (ik := 30) (ic := 34) (cls := eIA) (by decide) twX8_addRule_a (is := 164) (text := "kind, limit or opening is out of range") (by decide +kernel) dX8_addRule_55 dX8_addRule_58 dX8_addRule_59 dX8_addRule_61 dX8_addRule_64 ⟨Nat.le_of_ble_eq_true rfl, Nat.le_of_ble_eq_true rfl, Nat.le_refl _, Nat.le_refl _⟩ rfl (Or.inr (Or.inl ⟨rfl, by unfold kARu; rw [if_neg c11, if_pos (by first | exact Or.inl c30 | exact Or.inr (Or.inl c41) | exact Or.inr (Or.inr c52))]⟩))
  · -- f
    exact z_thr C0 rfl (ik := 59) (ic := 63) (cls := eIO) (by decide) twX8_addRule_b (is := 61) (text := "there is no such room") (by decide +kernel) dX8_addRule_14 dX8_addRule_17 dX8_addRule_18 dX8_addRule_20 dX8_addRule_23 ⟨Nat.le_of_ble_eq_true rfl, Nat.le_of_ble_eq_true rfl, Nat.le_refl _, Nat.le_refl _⟩ rfl (Or.inl ⟨rfl, by unfold kARu; rw [if_pos c11]⟩)
set_option maxHeartbeats 4000000 in
set_option maxRecDepth 100000 in
theorem e_X8_removeRule (σ : xS) (τ : xT) {r : Rw} {R ns nr ne t kp : Nat} {qs : Nat → Rw} (hR : Rel σ 1 r) (hC : Rc σ kp qs) (hk : kp ≤ 4) (I : Inv r R ns nr ne t (t + 1)) (u : Int32) : Zi mX8_removeRule [.ref 0, .int u] σ τ (fun v σ1 τ1 => kRem r u = 0 ∧ v = (r 11 - 1) ∧ Cl σ σ1 τ τ1 (mDro r (cN u) nr) (kK kp) (kQ kp qs r)) (fun E => E = eIO ∧ kRem r u = 1) := by
  have hB : isW 1 := Or.inl rfl
  have hR4 := I.1.1.2
  have hs8 := I.1.2.1.2
  have hr8 := I.1.2.2.1.2
  have he20 := I.1.2.2.2.1.2
  refine Zi_mk (L := [some (.ref 0), some (.int u)]) (by decide) rfl (Nat.le_of_ble_eq_true rfl) rfl (fun x C0 => ?_)
  have C := C0.1
  refine y_aload_n C dX8_removeRule_0 rfl ?_
  refine g_X8_now C dX8_removeRule_1 (by decide +kernel) (by decide +kernel) ?_
  refine g_X7_rules C hB dX8_removeRule_4 (by decide +kernel) (by decide +kernel) ?_
  refine y_iload_n C dX8_removeRule_7 rfl ?_
  refine y_callVi C (e_X5_has hB _ _ hR _) dX8_removeRule_8 rfl gX8_removeRule_X5_has rfl (is_X5 hB) ⟨rfl, qX5_has⟩ ⟨rfl, rfl⟩ ⟨Nat.le_of_ble_eq_true rfl, Nat.le_of_ble_eq_true rfl⟩ rfl (Nat.le_of_ble_eq_true rfl) ⟨Nat.zero_le _, Nat.zero_le _⟩ (fun v1 σ1 τ1 hq => ?_)
  obtain ⟨rfl, rfl, rfl⟩ := hq
  refine y_if_ne (t := 24) C dX8_removeRule_11 (by decide) (fun c11 => ?_) (fun c11 => ?_)
  · -- t
    have h30 : 0 ≤ u ∧ u < r 11 := Decidable.not_not.mp (fun z => c11 (if_neg z))
    have h31 : kRem r u = 0 := by unfold kRem; rw [if_pos h30]
    obtain ⟨a, ha, rfl⟩ := in_of (n := nr) (by omega) (by rw [I.1.2.2.1.1] at h30; exact h30)
    rw [cN_nI (n := a) (by omega)]
    refine y_aload_n C dX8_removeRule_24 rfl ?_
    refine g_X8_records C dX8_removeRule_25 (by decide +kernel) (by decide +kernel) ?_
    refine y_aload_n C dX8_removeRule_28 rfl ?_
    refine g_X8_now C dX8_removeRule_29 (by decide +kernel) (by decide +kernel) ?_
    refine y_callVv C (e_keepZ _ _ hk hC hR I.jam) dX8_removeRule_32 rfl gX8_removeRule_X4_keep rfl (is_X4) ⟨rfl, qX4_keep⟩ ⟨rfl, rfl⟩ ⟨Nat.le_of_ble_eq_true rfl, Nat.le_of_ble_eq_true rfl⟩ rfl (Nat.le_of_ble_eq_true rfl) ⟨Nat.zero_le _, Nat.zero_le _⟩ (fun σ2 τ2 hq => ?_)
    obtain ⟨hC2, hR2, hF2, rfl⟩ := hq
    refine y_aload_n C dX8_removeRule_35 rfl ?_
    refine g_X8_now C dX8_removeRule_36 (by decide +kernel) (by decide +kernel) ?_
    refine g_X7_rules C hB dX8_removeRule_39 (by decide +kernel) (by decide +kernel) ?_
    refine y_iload_n C dX8_removeRule_42 rfl ?_
    refine y_callVv C (e_X5_drop hB _ _ hR2 I a ha) dX8_removeRule_43 rfl gX8_removeRule_X5_drop rfl (is_X5 hB) ⟨rfl, qX5_drop⟩ ⟨rfl, rfl⟩ ⟨Nat.le_of_ble_eq_true rfl, Nat.le_of_ble_eq_true rfl⟩ rfl (Nat.le_of_ble_eq_true rfl) ⟨Nat.zero_le _, Nat.zero_le _⟩ (fun σ3 τ3 hq => ?_)
    obtain ⟨hR3, hF3, rfl⟩ := hq
    refine y_aload_n C dX8_removeRule_46 rfl ?_
    refine g_X8_now C dX8_removeRule_47 (by decide +kernel) (by decide +kernel) ?_
    refine g_X7_rules C hB dX8_removeRule_50 (by decide +kernel) (by decide +kernel) ?_
    refine gR_X5_count C hB hR3 dX8_removeRule_53 (by decide +kernel) (by decide +kernel) ?_
    exact z_iret C rfl dX8_removeRule_56 (⟨h31, by unfold mDro; rw [upd_eq, I.1.2.2.1.1]; exact (pk_sub (b := 1) (by omega)).symm, hR3, hC2.k1 hF3, (hF2.mono cS_r).trans (hF3.mono cS_1), rfl⟩)
  · -- f
    have h30 : ¬ (0 ≤ u ∧ u < r 11) := fun z => by rw [if_pos z] at c11; exact absurd c11 (by decide)
    exact z_thr C0 rfl (ik := 59) (ic := 63) (cls := eIO) (by decide) twX8_removeRule_b (is := 179) (text := "there is no such rule") (by decide +kernel) dX8_removeRule_14 dX8_removeRule_17 dX8_removeRule_18 dX8_removeRule_20 dX8_removeRule_23 ⟨Nat.le_of_ble_eq_true rfl, Nat.le_of_ble_eq_true rfl, Nat.le_refl _, Nat.le_refl _⟩ rfl (⟨rfl, by unfold kRem; rw [if_neg h30]⟩)
set_option maxHeartbeats 4000000 in
set_option maxRecDepth 100000 in
theorem e_X8_addEvent (σ : xS) (τ : xT) {r : Rw} {R ns nr ne t kp : Nat} {qs : Nat → Rw} (hR : Rel σ 1 r) (hC : Rc σ kp qs) (hk : kp ≤ 4) (I : Inv r R ns nr ne t (t + 1)) (m k a b : Int32) : Zi mX8_addEvent [.ref 0, .int m, .int k, .int a, .int b] σ τ (fun v σ1 τ1 => kAEv r m k a b = 0 ∧ v = (r 12 + 1) ∧ Cl σ σ1 τ τ1 (mIns r (mPlF r m ne) ne m k a b) (kK kp) (kQ kp qs r)) (fun E => (E = eIA ∧ kAEv r m k a b = 1) ∨ (E = eIS ∧ kAEv r m k a b = 2)) := by
  have hB : isW 1 := Or.inl rfl
  have hR4 := I.1.1.2
  have hs8 := I.1.2.1.2
  have hr8 := I.1.2.2.1.2
  have he20 := I.1.2.2.2.1.2
  refine Zi_mk (L := [some (.ref 0), some (.int m), some (.int k), some (.int a), some (.int b)]) (by decide) rfl (Nat.le_of_ble_eq_true rfl) rfl (fun x C0 => ?_)
  have C := C0.1
  refine y_iload_n C dX8_addEvent_0 rfl ?_
  refine y_aload_n C dX8_addEvent_1 rfl ?_
  refine g_X8_now C dX8_addEvent_2 (by decide +kernel) (by decide +kernel) ?_
  refine gR_X7_minute C hB hR dX8_addEvent_5 (by decide +kernel) (by decide +kernel) ?_
  refine y_iconst (v := 1) C dX8_addEvent_8 (by decide) ?_
  refine y_iadd C dX8_addEvent_9 ?_
  refine y_aload_n C dX8_addEvent_10 rfl ?_
  refine g_X8_now C dX8_addEvent_11 (by decide +kernel) (by decide +kernel) ?_
  refine gR_X7_minute C hB hR dX8_addEvent_14 (by decide +kernel) (by decide +kernel) ?_
  refine y_sipush (v := 999) C dX8_addEvent_17 (by decide) ?_
  refine y_iadd C dX8_addEvent_20 ?_
  refine y_callSi C (e_X8_isWithin _ _ _ _ _) dX8_addEvent_21 rfl gX8_addEvent_X8_isWithin rfl qX8_isWithin ⟨rfl, rfl⟩ ⟨Nat.le_of_ble_eq_true rfl, Nat.le_of_ble_eq_true rfl⟩ rfl (Nat.le_of_ble_eq_true rfl) ⟨Nat.zero_le _, Nat.zero_le _⟩ (fun v1 σ1 τ1 hq => ?_)
  obtain ⟨rfl, rfl, rfl⟩ := hq
  refine y_if_ne (t := 37) C dX8_addEvent_24 (by decide) (fun c24 => ?_) (fun c24 => ?_)
  · -- t
    refine y_aload_n C dX8_addEvent_37 rfl ?_
    refine g_X8_now C dX8_addEvent_38 (by decide +kernel) (by decide +kernel) ?_
    refine y_iload_n C dX8_addEvent_41 rfl ?_
    refine y_iload_n C dX8_addEvent_42 rfl ?_
    refine y_iload C dX8_addEvent_43 rfl ?_
    refine y_callVi C (e_X7_allowsEvent hB _ _ hR _ _ _) dX8_addEvent_45 rfl gX8_addEvent_X7_allowsEvent rfl (is_X7 hB) ⟨rfl, qX7_allowsEvent⟩ ⟨rfl, rfl⟩ ⟨Nat.le_of_ble_eq_true rfl, Nat.le_of_ble_eq_true rfl⟩ rfl (Nat.le_of_ble_eq_true rfl) ⟨Nat.zero_le _, Nat.zero_le _⟩ (fun v1 σ1 τ1 hq => ?_)
    obtain ⟨rfl, rfl, rfl⟩ := hq
    refine y_if_ne (t := 61) C dX8_addEvent_48 (by decide) (fun c48 => ?_) (fun c48 => ?_)
    · -- t
      refine y_aload_n C dX8_addEvent_61 rfl ?_
      refine g_X8_now C dX8_addEvent_62 (by decide +kernel) (by decide +kernel) ?_
      refine g_X7_events C hB dX8_addEvent_65 (by decide +kernel) (by decide +kernel) ?_
      refine gR_X1_count C hB hR dX8_addEvent_68 (by decide +kernel) (by decide +kernel) ?_
      refine y_topE (nI ne) I.1.2.2.2.1.1 ?_
      refine y_bipush (v := 20) C dX8_addEvent_71 (by decide) ?_
      refine y_icmp_lt (t := 86) C dX8_addEvent_73 (by decide) (fun c73 => ?_) (fun c73 => ?_)
      · -- t
        have h20 : ne < 20 := (nI_ltI (by omega) (by decide)).mp c73
        refine y_aload_n C dX8_addEvent_86 rfl ?_
        refine g_X8_records C dX8_addEvent_87 (by decide +kernel) (by decide +kernel) ?_
        refine y_aload_n C dX8_addEvent_90 rfl ?_
        refine g_X8_now C dX8_addEvent_91 (by decide +kernel) (by decide +kernel) ?_
        refine y_callVv C (e_keepZ _ _ hk hC hR I.jam) dX8_addEvent_94 rfl gX8_addEvent_X4_keep rfl (is_X4) ⟨rfl, qX4_keep⟩ ⟨rfl, rfl⟩ ⟨Nat.le_of_ble_eq_true rfl, Nat.le_of_ble_eq_true rfl⟩ rfl (Nat.le_of_ble_eq_true rfl) ⟨Nat.zero_le _, Nat.zero_le _⟩ (fun σ2 τ2 hq => ?_)
        obtain ⟨hC2, hR2, hF2, rfl⟩ := hq
        refine y_aload_n C dX8_addEvent_97 rfl ?_
        refine g_X8_now C dX8_addEvent_98 (by decide +kernel) (by decide +kernel) ?_
        refine g_X7_events C hB dX8_addEvent_101 (by decide +kernel) (by decide +kernel) ?_
        refine y_iload_n C dX8_addEvent_104 rfl ?_
        refine y_iload_n C dX8_addEvent_105 rfl ?_
        refine y_iload_n C dX8_addEvent_106 rfl ?_
        refine y_iload C dX8_addEvent_107 rfl ?_
        refine y_callVv C (e_X1_insert hB _ _ hR2 I m k a b h20) dX8_addEvent_109 rfl gX8_addEvent_X1_insert rfl (is_X1 hB) ⟨rfl, qX1_insert⟩ ⟨rfl, rfl⟩ ⟨Nat.le_of_ble_eq_true rfl, Nat.le_of_ble_eq_true rfl⟩ rfl (Nat.le_of_ble_eq_true rfl) ⟨Nat.zero_le _, Nat.zero_le _⟩ (fun σ3 τ3 hq => ?_)
        obtain ⟨hR3, hF3, rfl⟩ := hq
        refine y_aload_n C dX8_addEvent_112 rfl ?_
        refine g_X8_now C dX8_addEvent_113 (by decide +kernel) (by decide +kernel) ?_
        refine g_X7_events C hB dX8_addEvent_116 (by decide +kernel) (by decide +kernel) ?_
        refine gR_X1_count C hB hR3 dX8_addEvent_119 (by decide +kernel) (by decide +kernel) ?_
        exact z_iret C rfl dX8_addEvent_122 (⟨by unfold kAEv; rw [if_neg (fun z => z.elim c24 c48), if_neg (by rw [I.1.2.2.2.1.1]; exact fun z => absurd ((nI_eq (b := 20) (by omega) (by decide)).mp z) (by omega))], by rw [mIns_12, I.1.2.2.2.1.1]; exact (nI_1 ne).symm, hR3, hC2.k1 hF3, (hF2.mono cS_r).trans (hF3.mono cS_1), rfl⟩)
      · -- f
        exact z_thr C0 rfl (ik := 140) (ic := 144) (cls := eIS) (by decide) twX8_addEvent_c (is := 205) (text := "there are 20 events") (by decide +kernel) dX8_addEvent_76 dX8_addEvent_79 dX8_addEvent_80 dX8_addEvent_82 dX8_addEvent_85 ⟨Nat.le_of_ble_eq_true rfl, Nat.le_of_ble_eq_true rfl, Nat.le_refl _, Nat.le_refl _⟩ rfl (Or.inr ⟨rfl, by unfold kAEv; rw [if_neg (fun z => z.elim c24 c48), if_pos (by rw [I.1.2.2.2.1.1, show ne = 20 from Nat.le_antisymm he20 (Nat.not_lt.mp (fun z => c73 (nI_lt z (by decide))))]; rfl)]⟩)
    · -- f
      exact z_thr C0 rfl (ik := 30) (ic := 34) (cls := eIA) (by decide) twX8_addEvent_a (is := 196) (text := "there is no such kind, or a or b is out of its range") (by decide +kernel) dX8_addEvent_51 dX8_addEvent_54 dX8_addEvent_55 dX8_addEvent_57 dX8_addEvent_60 ⟨Nat.le_of_ble_eq_true rfl, Nat.le_of_ble_eq_true rfl, Nat.le_refl _, Nat.le_refl _⟩ rfl (Or.inl ⟨rfl, by unfold kAEv; rw [if_pos (Or.inr c48)]⟩)
  · -- f
    exact z_thr C0 rfl (ik := 30) (ic := 34) (cls := eIA) (by decide) twX8_addEvent_a (is := 191) (text := "minute is not t + 1 to t + 999") (by decide +kernel) dX8_addEvent_27 dX8_addEvent_30 dX8_addEvent_31 dX8_addEvent_33 dX8_addEvent_36 ⟨Nat.le_of_ble_eq_true rfl, Nat.le_of_ble_eq_true rfl, Nat.le_refl _, Nat.le_refl _⟩ rfl (Or.inl ⟨rfl, by unfold kAEv; rw [if_pos (Or.inl c24)]⟩)
set_option maxHeartbeats 4000000 in
set_option maxRecDepth 100000 in
theorem e_X8_undo (σ : xS) (τ : xT) {r : Rw} {R ns nr ne t kp : Nat} {qs : Nat → Rw} (hR : Rel σ 1 r) (hC : Rc σ kp qs) (hk : kp ≤ 4) (I : Inv r R ns nr ne t (t + 1)) (h3 : ∀ j, j < kp → qs j 3 = 0 ∨ qs j 3 = 1) : Zi mX8_undo [.ref 0] σ τ (fun v σ1 τ1 => kUnd kp = 0 ∧ v = (nI (kp - 1)) ∧ Cl σ σ1 τ τ1 (qs (kp - 1)) (kp - 1) (qs)) (fun E => E = eIS ∧ kUnd kp = 1) := by
  have hB : isW 1 := Or.inl rfl
  have hR4 := I.1.1.2
  have hs8 := I.1.2.1.2
  have hr8 := I.1.2.2.1.2
  have he20 := I.1.2.2.2.1.2
  have ek := hC.num
  refine Zi_mk (L := [some (.ref 0)]) (by decide) rfl (Nat.le_of_ble_eq_true rfl) rfl (fun x C0 => ?_)
  have C := C0.1
  refine y_aload_n C dX8_undo_0 rfl ?_
  refine g_X8_records C dX8_undo_1 (by decide +kernel) (by decide +kernel) ?_
  refine g_X4_kept C dX8_undo_4 (by decide +kernel) (by decide +kernel) ?_
  refine y_topE (nI kp) ek ?_
  refine y_if_ne (t := 21) C dX8_undo_7 (by decide) (fun c7 => ?_) (fun c7 => ?_)
  · -- t
    have hk1 : 1 ≤ kp := Nat.pos_of_ne_zero (fun z => c7 (by rw [z]; rfl))
    refine y_aload_n C dX8_undo_21 rfl ?_
    refine g_X8_records C dX8_undo_22 (by decide +kernel) (by decide +kernel) ?_
    refine y_aload_n C dX8_undo_25 rfl ?_
    refine g_X8_now C dX8_undo_26 (by decide +kernel) (by decide +kernel) ?_
    refine y_callVv C (e_giveZ _ _ hk hk1 hC (h3 _ (by omega))) dX8_undo_29 rfl gX8_undo_X4_giveBack rfl (is_X4) ⟨rfl, qX4_giveBack⟩ ⟨rfl, rfl⟩ ⟨Nat.le_of_ble_eq_true rfl, Nat.le_of_ble_eq_true rfl⟩ rfl (Nat.le_of_ble_eq_true rfl) ⟨Nat.zero_le _, Nat.zero_le _⟩ (fun σ3 τ3 hq => ?_)
    obtain ⟨hC3, hR3, hF3, rfl⟩ := hq
    refine y_aload_n C dX8_undo_32 rfl ?_
    refine g_X8_records C dX8_undo_33 (by decide +kernel) (by decide +kernel) ?_
    refine g_X4_kept C dX8_undo_36 (by decide +kernel) (by decide +kernel) ?_
    refine y_topE (nI (kp - 1)) hC3.num ?_
    exact z_iret C rfl dX8_undo_39 (⟨by unfold kUnd; rw [if_neg (by omega)], rfl, hR3, hC3, hF3, rfl⟩)
  · -- f
    exact z_thrW C0 rfl (ik := 140) (ic := 144) (cls := eIS) (by decide) twX8_undo_c (is := 258) (text := "there is no record") (by decide +kernel) dX8_undo_10 dX8_undo_13 dX8_undo_14 dX8_undo_17 dX8_undo_20 ⟨Nat.le_of_ble_eq_true rfl, Nat.le_of_ble_eq_true rfl, Nat.le_refl _, Nat.le_refl _⟩ rfl (⟨rfl, by unfold kUnd; rw [if_pos ((nI_eq (b := 0) (by omega) (by decide)).mp c7)]⟩)
