/-! THE LAYER: one fixed family of 165 cells (the class's graph), at the addresses bs, bs + 1 .. in the order in which they are made; ints are σ (cell) (place), longs are τ; a reference is its cell's number. -/
abbrev xS : Type := Nat → Nat → Int32
abbrev xT : Type := Nat → Nat → Int64
abbrev xShp : Type := (Nat × List (Option (Option Nat))) ⊕ (Nat × Nat)
def xR (a : Nat) : Option (Option Nat) := some (some a)
def xWS (B : Nat) : List xShp := [.inl (7, [none, xR (B + 1), xR (B + 4), xR (B + 5), xR (B + 13), xR (B + 16), xR (B + 21), xR (B + 26)]),
  .inl (3, [none, xR (B + 2), none, xR (B + 3)]), .inr (0, 4), .inr (0, 4),
  .inl (2, [none, none, none, none, none, none]),
  .inl (6, [none, xR (B + 6), xR (B + 7), xR (B + 8), xR (B + 9), xR (B + 10), xR (B + 11), xR (B + 12)]), .inr (0, 8), .inr (0, 8), .inr (0, 8), .inr (0, 8), .inr (0, 8), .inr (0, 8), .inr (0, 8),
  .inl (0, [none, none, xR (B + 14), xR (B + 15)]), .inr (0, 4), .inr (0, 4),
  .inl (5, [none, xR (B + 17), xR (B + 18), xR (B + 19), xR (B + 20)]), .inr (0, 8), .inr (0, 8), .inr (0, 8), .inr (0, 8),
  .inl (1, [none, xR (B + 22), xR (B + 23), xR (B + 24), xR (B + 25)]), .inr (0, 20), .inr (0, 20), .inr (0, 20), .inr (0, 20),
  .inr (0, 6)]
def xSHL : List xShp := [.inl (8, [xR 1, xR 28, xR 55])] ++ xWS 1 ++ xWS 28 ++ [.inl (4, [xR 56, none, none]), .inr (2, 4)] ++ xWS 57 ++ xWS 84 ++ xWS 111 ++ xWS 138
def xSH (k : Nat) : xShp := xSHL.getD k (.inr (0, 0))
def isW (B : Nat) : Prop := B = 1 ∨ B = 28 ∨ B = 57 ∨ B = 84 ∨ B = 111 ∨ B = 138
theorem isW_le {B : Nat} (h : isW B) : B + 27 ≤ 165 := by
  rcases h with h | h | h | h | h | h <;> omega
theorem xSH_W {B : Nat} (h : isW B) : ∀ d, d < 27 → xSH (B + d) = (xWS B).getD d (.inr (0, 0)) := by
  rcases h with rfl | rfl | rfl | rfl | rfl | rfl <;> decide +kernel
def ups (σ : xS) (k : Nat) (f : Nat → Int32) : xS := fun a => if a = k then f else σ a
def upt (τ : xT) (k : Nat) (f : Nat → Int64) : xT := fun a => if a = k then f else τ a
theorem ups_eq (σ : xS) (k : Nat) (f : Nat → Int32) : ups σ k f k = f := if_pos rfl
theorem ups_ne {σ : xS} {k a : Nat} {f : Nat → Int32} (h : a ≠ k) : ups σ k f a = σ a := if_neg h
theorem upt_eq (τ : xT) (k : Nat) (f : Nat → Int64) : upt τ k f k = f := if_pos rfl
theorem upt_ne {τ : xT} {k a : Nat} {f : Nat → Int64} (h : a ≠ k) : upt τ k f a = τ a := if_neg h
def xFld (σ : xS) (τ : xT) (bs k i : Nat) (f : Option (Option Nat)) : Value := match f with
  | none => .int (σ k i)
  | some none => .long (τ k i)
  | some (some r) => .ref (bs + r)
def xFa (σ : xS) (τ : xT) (k i : Nat) (f : Option (Option Nat)) : Value := match f with
  | none => .int (σ k i)
  | some none => .long (τ k i)
  | some (some r) => .ref r
def xRow (σ : xS) (τ : xT) (bs k kd : Nat) : (Nat → Int32) ⊕ (Nat → Int64) ⊕ (Nat → UInt32) ⊕ (Nat → UInt64) ⊕ (Nat → Option Nat) := match kd with
  | 0 => .inl (σ k)
  | 1 => .inr (.inl (τ k))
  | _ => .inr (.inr (.inr (.inr (fun i => some (bs + (57 + 27 * i))))))
def xCell (σ : xS) (τ : xT) (bs : Nat) (cA : Nat → ClassId) (k : Nat) (h : xShp) : va_E := match h with
  | .inl o => .inr (o.1, o.2.mapIdx (fun i f => xFld σ τ bs k i f))
  | .inr o => .inl (cA k, (o.2, xRow σ τ bs k o.1))
def xws (σ : xS) (τ : xT) (bs : Nat) (cA : Nat → ClassId) : va_W := (List.range 165).map fun k => (bs + k, xCell σ τ bs cA k (xSH k))
def xty (h : xShp) : FieldType := match h with
  | .inr (0, _) => .int
  | .inr (1, _) => .long
  | .inr (_, _) => .object "SmokeGuard$World"
  | .inl _ => .int
def xtys (cA : Nat → ClassId) : List (ClassId × FieldType) := (List.range 165).map fun k => (cA k, xty (xSH k))
theorem xws_get {σ : xS} {τ : xT} {bs : Nat} {cA : Nat → ClassId} {k : Nat} (h : k < 165) : (xws σ τ bs cA)[k]? = some (bs + k, xCell σ τ bs cA k (xSH k)) := by
  simp [xws, h]
theorem xtys_get {cA : Nat → ClassId} {k : Nat} (h : k < 165) : (xtys cA)[k]? = some (cA k, xty (xSH k)) := by
  simp [xtys, h]
theorem xCell_congr {σ σ' : xS} {τ τ' : xT} {bs : Nat} {cA : Nat → ClassId} {k : Nat} {h : xShp} (e : σ' k = σ k) (et : τ' k = τ k) : xCell σ' τ' bs cA k h = xCell σ τ bs cA k h := by
  have e1 : ∀ i f, xFld σ' τ' bs k i f = xFld σ τ bs k i f := by
    intro i f
    unfold xFld
    rw [e, et]
  have e2 : ∀ kd, xRow σ' τ' bs k kd = xRow σ τ bs k kd := by
    intro kd
    unfold xRow
    rw [e, et]
  cases h with
  | inl o => simp only [xCell, e1]
  | inr o => simp only [xCell, e2]
theorem xws_set {σ σ' : xS} {τ τ' : xT} {bs : Nat} {cA : Nat → ClassId} {k : Nat} (h : ∀ a, a ≠ k → σ' a = σ a) (ht : ∀ a, a ≠ k → τ' a = τ a) : (xws σ τ bs cA).set k (bs + k, xCell σ' τ' bs cA k (xSH k)) = xws σ' τ' bs cA := by
  apply List.ext_getElem?
  intro j
  by_cases hj : j < 165
  · rw [xws_get hj, List.getElem?_set]
    by_cases e : k = j
    · subst e
      have hl : k < (xws σ τ bs cA).length := by simp [xws, hj]
      simp [hl]
    · rw [if_neg e, xws_get hj, xCell_congr (h j (fun q => e q.symm)) (ht j (fun q => e q.symm))]
  · have h1 : (xws σ' τ' bs cA).length ≤ j := by simp [xws]; omega
    have h2 : ((xws σ τ bs cA).set k (bs + k, xCell σ' τ' bs cA k (xSH k))).length ≤ j := by simp [xws]; omega
    rw [List.getElem?_eq_none h1, List.getElem?_eq_none h2]
theorem xws_at {σ : xS} {τ : xT} {bs : Nat} {cA : Nat → ClassId} {j : Nat} {q : Nat × va_E} (h : (xws σ τ bs cA)[j]? = some q) : j < 165 ∧ q.1 = bs + j := by
  have hj : j < 165 := by
    have := (List.getElem?_eq_some_iff.mp h).1
    simpa [xws] using this
  rw [xws_get hj] at h
  cases h
  exact ⟨hj, rfl⟩
theorem xws_D {σ : xS} {τ : xT} {bs : Nat} {cA : Nat → ClassId} : va_D (fun q => bs ≤ q) (xws σ τ bs cA) := by
  refine ⟨fun i j p q h1 h2 e => ?_, fun k q h => ?_⟩
  · have a1 := (xws_at h1).2
    have a2 := (xws_at h2).2
    omega
  · have a1 := (xws_at h).2
    show bs ≤ q.1
    omega
def xv (bs : Nat) (v : Value) : Value := match v with
  | .ref a => .ref (bs + a)
  | .int i => .int i
  | .long i => .long i
  | .null => .null
  | .float f => .float f
  | .double f => .double f
  | .retAddr p => .retAddr p
theorem xv_cat (bs : Nat) (v : Value) : (xv bs v).category = v.category := by cases v <;> rfl
theorem xv_fa (σ : xS) (τ : xT) (bs k i : Nat) (f : Option (Option Nat)) : xv bs (xFa σ τ k i f) = xFld σ τ bs k i f := by
  cases f with
  | none => rfl
  | some f => cases f <;> rfl
/-- the locals: by their places; none: nothing is known of the place -/
def xl (bs : Nat) (L : List (Option Value)) (ls : Array Slot) : Prop := ls.size = L.length ∧ lv_wf ls ∧ ∀ (i : Nat) (v : Value), L[i]? = some (some v) → ls[i]? = some (.val (xv bs v))
def xNest : List (String × Nat × MethodName) := [(RX0, 25, yX8_copyRow), (RX1, 28, yX8_copyRow), (RX3, 25, yX8_copyRow), (RX5, 28, yX8_copyRow), (RX6, 37, yX8_copyRow), (RX7, 92, yX8_copyRow), (RX7, 208, yX8_isWithin)]
def xStrs : List (String × Nat × String) := [(RX8, 32, "rooms is not 1 to 4"), (RX8, 61, "there is no such room"), (RX8, 64, "a door is between two different places"), (RX8, 74, "fuel is not 1 to 200"), (RX8, 88, "opening is not 0 to 8"), (RX8, 93, "what is not 0 to 5"), (RX8, 102, "value is out of range"), (RX8, 116, "smoke is not 0 to 99999"), (RX8, 121, "what is not 0 to 14"), (RX8, 123, "what is not 0 to 6"), (RX8, 129, "kind, threshold, delay or weight is out of range"), (RX8, 142, "there are 8 sensors"), (RX8, 152, "there is no such sensor"), (RX8, 154, "fault is not 0 to 2"), (RX8, 159, "what is not 0 to 8"), (RX8, 164, "kind, limit or opening is out of range"), (RX8, 173, "there are 8 rules"), (RX8, 179, "there is no such rule"), (RX8, 191, "minute is not t + 1 to t + 999"), (RX8, 196, "there is no such kind, or a or b is out of its range"), (RX8, 205, "there are 20 events"), (RX8, 211, "what is not 0 to 3"), (RX8, 217, "minutes is not 0 to 60"), (RX8, 228, "n is not 1 to 60"), (RX8, 236, "limit is not 1 to 200"), (RX8, 247, "n is not 1 to 200"), (RX8, 249, "opening is not 0 to 8, or n is not 1 to 200"), (RX8, 258, "there is no record")]
def xLeast (j : Nat) : Value := .int (([0, 2, 0, 0, 0, 0] : List Int32).getD j 0)
def xMost (j : Nat) : Value := .int (([60, 9, 30, 1, 8, 999] : List Int32).getD j 0)
/-- what the tables and the JDK's and the class's statics hold, and stays -/
def xStat (bs : Nat) (U : State) : Prop :=
  (∀ q ∈ xNest, va_Nw (.methodLinkNest q.1 q.2.1 q.2.2 RX8) U) ∧
  (∃ t0 : Nat, va_Z "SmokeGuard" "SETTING_LEAST" "[I" (.ref t0) (fun q => bs ≤ q) U U.heap ∧ va_T .int t0 6 xLeast (fun q => bs ≤ q) U U.heap) ∧
  (∃ t1 : Nat, va_Z "SmokeGuard" "SETTING_MOST" "[I" (.ref t1) (fun q => bs ≤ q) U U.heap ∧ va_T .int t1 6 xMost (fun q => bs ≤ q) U U.heap) ∧
  vx_Zq Bundle.tN "UNASSIGNED_STACK" Bundle.steD (fun q => bs ≤ q) U U.heap ∧ vx_Zq Bundle.tN "SUPPRESSED_SENTINEL" Bundle.listD (fun q => bs ≤ q) U U.heap ∧
  (∀ q ∈ xStrs, ∃ sa : Nat, vk_R q.1 q.2.1 q.2.2 sa U)
theorem xStat.move {bs : Nat} {s U : State} {H : Heap} {locs : List Loc} (h : xStat bs s) (hS : va_S (fun q => bs ≤ q) s.heap H locs) (hU : U.heap = H) (hW : s.WarmedH U.vm) : xStat bs U := by
  obtain ⟨h1, ⟨t0, h2, h3⟩, ⟨t1, h4, h5⟩, h6, h7, h8⟩ := h
  have hq : ∀ a : Nat, a < s.heap.size → ¬ bs ≤ a → U.heap[a]? = s.heap[a]? := fun a ha hb => by rw [hU]; exact hS.2.1 a ha hb
  refine ⟨fun q hq => va_Nw.warmM hW (h1 q hq), ⟨t0, (h2.moved hW.alike).kept hq, (h3.moved hW.alike).kept hq⟩, ⟨t1, (h4.moved hW.alike).kept hq, (h5.moved hW.alike).kept hq⟩, (h6.moved hW.alike).kept hq, (h7.moved hW.alike).kept hq, fun q hq => ?_⟩
  obtain ⟨sa, h9⟩ := h8 q hq
  exact ⟨sa, vk_R.warm hW h9⟩
abbrev xM : Type := MethodName × ByteArray × Nat × Option FieldType × List Cond × Room
abbrev xC : Type := Program × Launch × Env × Room × State × MethodId × Array Value × List Frame × Method × Code × Nat × va_G × (Nat → ClassId)
/-- the frame that a method stands in -/
def Cx (x : xC) (M : xM) : Prop := match x with
  | (p, _, _, R, s, m, args, _, meth, c, bs, D, cA) => p.tables.exec = Jvm.exec ∧ c.code = M.2.1 ∧ meth.sig.returnType = M.2.2.2.1 ∧ c.maxLocals = M.2.2.1 ∧ s.vm.findClass M.1.cls = some m.cls ∧ (∀ w ∈ M.2.2.2.2.1, w.before args s = true) ∧ meth.locks = false ∧ va_K D vwCl (xtys cA) s ∧ R = M.2.2.2.2.2 ∧ xStat bs s ∧ bs ≤ s.heap.size
/-- from here the machine comes to Z -/
def Y (x : xC) (pc : Nat) (L : List (Option Value)) (st : List Value) (σ : xS) (τ : xT) (k n : Nat) (Z : State → Prop) : Prop := match x with
  | (p, l, e, R, s, m, args, below, meth, c, bs, D, cA) => ∀ (H : Heap) (locs : List Loc) (ls : Array Slot), va_P D vwCl (xws σ τ bs cA) H → va_S (fun q => bs ≤ q) s.heap H locs → xl bs L ls → W p l e R s m args below meth c H locs k n Z (F0 m pc ls (st.map (xv bs)))
def xEi (x : xC) (Q : Int32 → xS → xT → Prop) : State → Prop := match x with
  | (_, _, _, _, s, _, args, below, _, _, bs, D, cA) => MQ below (va_Qi (S := xS × xT) (fun r u => Q r u.1 u.2) (fun u t => va_P D vwCl (xws u.1 u.2 bs cA) t.heap) (fun q => bs ≤ q)) args s 0 0 (fun q => bs ≤ q)
def xEl (x : xC) (Q : Int64 → xS → xT → Prop) : State → Prop := match x with
  | (_, _, _, _, s, _, args, below, _, _, bs, D, cA) => MQ below (va_Ql (S := xS × xT) (fun r u => Q r u.1 u.2) (fun u t => va_P D vwCl (xws u.1 u.2 bs cA) t.heap) (fun q => bs ≤ q)) args s 0 0 (fun q => bs ≤ q)
def xEv (x : xC) (Q : xS → xT → Prop) : State → Prop := match x with
  | (_, _, _, _, s, _, args, below, _, _, bs, D, cA) => MQ below (va_Qv (S := xS × xT) (fun u => Q u.1 u.2) (fun u t => va_P D vwCl (xws u.1 u.2 bs cA) t.heap) (fun q => bs ≤ q)) args s 0 0 (fun q => bs ≤ q)
def xEr (x : xC) (Q : Nat → xS → xT → Prop) : State → Prop := match x with
  | (_, _, _, _, s, _, args, below, _, _, bs, D, cA) => MQ below (va_Qr (S := Nat × xS × xT) (fun u => Q u.1 u.2.1 u.2.2) (fun u a t => a = bs + u.1 ∧ va_P D vwCl (xws u.2.1 u.2.2 bs cA) t.heap) (fun q => bs ≤ q)) args s 0 0 (fun q => bs ≤ q)
def xRep (bs : Nat) (D : va_G) (cA : Nat → ClassId) (σ : xS) (τ : xT) (U : State) : Prop := va_P D vwCl (xws σ τ bs cA) U.heap ∧ va_K D vwCl (xtys cA) U ∧ xStat bs U
/-- a method's contract, at this state: it returns an int (void, long, a reference) and a state with Q -/
def Xi (M : xM) (as : List Value) (σ : xS) (τ : xT) (Q : Int32 → xS → xT → Prop) : Prop := ∀ (l : Launch) (bs : Nat) (D : va_G) (cA : Nat → ClassId), Met l M.1 M.2.2.2.2.1 M.2.2.2.2.2 (va_Pc (as.map (xv bs)) (fun U => xRep bs D cA σ τ U)) (va_Qi (S := xS × xT) (fun r u => Q r u.1 u.2) (fun u t => va_P D vwCl (xws u.1 u.2 bs cA) t.heap) (fun q => bs ≤ q)) 0 0 (fun q => bs ≤ q)
def Xl (M : xM) (as : List Value) (σ : xS) (τ : xT) (Q : Int64 → xS → xT → Prop) : Prop := ∀ (l : Launch) (bs : Nat) (D : va_G) (cA : Nat → ClassId), Met l M.1 M.2.2.2.2.1 M.2.2.2.2.2 (va_Pc (as.map (xv bs)) (fun U => xRep bs D cA σ τ U)) (va_Ql (S := xS × xT) (fun r u => Q r u.1 u.2) (fun u t => va_P D vwCl (xws u.1 u.2 bs cA) t.heap) (fun q => bs ≤ q)) 0 0 (fun q => bs ≤ q)
def Xv (M : xM) (as : List Value) (σ : xS) (τ : xT) (Q : xS → xT → Prop) : Prop := ∀ (l : Launch) (bs : Nat) (D : va_G) (cA : Nat → ClassId), Met l M.1 M.2.2.2.2.1 M.2.2.2.2.2 (va_Pc (as.map (xv bs)) (fun U => xRep bs D cA σ τ U)) (va_Qv (S := xS × xT) (fun u => Q u.1 u.2) (fun u t => va_P D vwCl (xws u.1 u.2 bs cA) t.heap) (fun q => bs ≤ q)) 0 0 (fun q => bs ≤ q)
def Xr (M : xM) (as : List Value) (σ : xS) (τ : xT) (Q : Nat → xS → xT → Prop) : Prop := ∀ (l : Launch) (bs : Nat) (D : va_G) (cA : Nat → ClassId), Met l M.1 M.2.2.2.2.1 M.2.2.2.2.2 (va_Pc (as.map (xv bs)) (fun U => xRep bs D cA σ τ U)) (va_Qr (S := Nat × xS × xT) (fun u => Q u.1 u.2.1 u.2.2) (fun u a t => a = bs + u.1 ∧ va_P D vwCl (xws u.2.1 u.2.2 bs cA) t.heap) (fun q => bs ≤ q)) 0 0 (fun q => bs ≤ q)
def xEl0 (as : List Value) : List (Option Value) := as.flatMap fun v => if v.category = 2 then [some v, none] else [some v]
def xEnt (as : List Value) (nL : Nat) : List (Option Value) := xEl0 as ++ List.replicate (nL - (xEl0 as).length) none
theorem xEl0_args (bs : Nat) : ∀ (as : List Value) (o i : Nat) (v : Value), (xEl0 as)[i]? = some (some v) → (o + i, xv bs v) ∈ lv_args o (as.map (xv bs)) := by
  intro as
  induction as with
  | nil => intro o i v h; simp [xEl0] at h
  | cons a as ih =>
    intro o i v h
    have e : xEl0 (a :: as) = (if a.category = 2 then [some a, none] else [some a]) ++ xEl0 as := by simp [xEl0]
    rw [e] at h
    show (o + i, xv bs v) ∈ (o, xv bs a) :: lv_args (if (xv bs a).category = 2 then o + 2 else o + 1) (as.map (xv bs))
    rw [xv_cat]
    by_cases hc : a.category = 2
    · rw [if_pos hc] at h ⊢
      match i, h with
      | 0, h => simp at h; subst h; exact List.mem_cons_self
      | 1, h => simp at h
      | i + 2, h =>
        have h2 : (xEl0 as)[i]? = some (some v) := by simpa using h
        have := ih (o + 2) i v h2
        rw [show o + (i + 2) = o + 2 + i by omega]
        exact List.mem_cons_of_mem _ this
    · rw [if_neg hc] at h ⊢
      match i, h with
      | 0, h => simp at h; subst h; exact List.mem_cons_self
      | i + 1, h =>
        have h2 : (xEl0 as)[i]? = some (some v) := by simpa using h
        have := ih (o + 1) i v h2
        rw [show o + (i + 1) = o + 1 + i by omega]
        exact List.mem_cons_of_mem _ this
theorem xEl0_len (bs : Nat) (as : List Value) : (lg_sl (as.map (xv bs))).length = (xEl0 as).length := by
  induction as with
  | nil => rfl
  | cons a as ih =>
    have e : xEl0 (a :: as) = (if a.category = 2 then [some a, none] else [some a]) ++ xEl0 as := by simp [xEl0]
    have e2 : lg_sl ((a :: as).map (xv bs)) = (if (xv bs a).category = 2 then [.val (xv bs a), .second] else [.val (xv bs a)]) ++ lg_sl (as.map (xv bs)) := by simp [lg_sl]
    rw [e, e2, List.length_append, List.length_append, ih, xv_cat]
    by_cases hc : a.category = 2 <;> simp [hc]
theorem xl_entry (bs : Nat) {as : List Value} {nL : Nat} (h : (xEl0 as).length ≤ nL) : xl bs (xEnt as nL) ((lg_sl (as.map (xv bs)) ++ List.replicate (nL - (lg_sl (as.map (xv bs))).length) Slot.unset).toArray) := by
  have h1 := lv_entry (as.map (xv bs)) (n := nL) (by rw [xEl0_len]; exact h)
  refine ⟨by rw [h1.1]; simp [xEnt]; omega, h1.2.1, fun i v hi => ?_⟩
  by_cases hlt : i < (xEl0 as).length
  · have h2 : (xEl0 as)[i]? = some (some v) := by
      unfold xEnt at hi
      rwa [List.getElem?_append_left hlt] at hi
    have := xEl0_args bs as 0 i v h2
    rw [Nat.zero_add] at this
    exact h1.2.2 _ this
  · unfold xEnt at hi
    rw [List.getElem?_append_right (by omega)] at hi
    have := List.eq_of_mem_replicate (List.mem_of_getElem? hi)
    cases this
theorem xCx {p : Program} {l : Launch} {e : Env} {s : State} {m : MethodId} {args : Array Value} {below : List Frame} {meth : Method} {c : Code} {s₁ : State} {M : xM} {bs : Nat} {D : va_G} {cA : Nat → ClassId} {σ : xS} {τ : xT}
    (B : BodyLoose p l M.1 (headSpec M.2.2.2.2.1 M.2.2.2.2.2) M.2.1 M.2.2.1 M.2.2.2.1 e s m args below meth c s₁) (hml : c.maxLocals = M.2.2.1) (hv : xRep bs D cA σ τ s) : Cx (p, l, e, M.2.2.2.2.2, s, m, args, below, meth, c, bs, D, cA) M := by
  obtain ⟨hP, hK, hst⟩ := hv
  have h165 : bs + 165 ≤ s.heap.size := by
    have := (hP 164 _ (xws_get (by decide))).lt
    exact this
  exact ⟨B.exec, B.bytes, B.returns, hml, findClass_of_methodNamed B.named, atoms_spec (ws := M.2.2.2.2.1) B.pre, B.notSynchronized, hK, rfl, hst, Nat.le_trans (Nat.le_add_right bs 165) h165⟩

theorem Xi_mk {M : xM} {ws' : List Cond} {as : List Value} {σ : xS} {τ : xT} {Q : Int32 → xS → xT → Prop} {L : List (Option Value)} (hy : plainName M.1.cls = true) (hw : M.2.2.2.2.1 = Cond.code M.1 M.2.1 M.2.2.1 M.2.2.2.1 :: ws') (hlen : (xEl0 as).length ≤ M.2.2.1) (hL : xEnt as M.2.2.1 = L) (body : ∀ x : xC, Cx x M → Y x 0 L [] σ τ 0 0 (xEi x Q)) : Xi M as σ τ Q := by
  intro l bs D cA
  refine Met.ofW hy hw ?_
  intro p e s m args below meth c s₁ B hml hv
  obtain ⟨rfl, hv⟩ := hv
  have C := xCx B hml hv
  have hb := body _ C s.heap [] _ hv.1 va_S.rf (by rw [← hL]; exact xl_entry bs hlen)
  rw [lg_entry_eq]
  exact hb

theorem Xl_mk {M : xM} {ws' : List Cond} {as : List Value} {σ : xS} {τ : xT} {Q : Int64 → xS → xT → Prop} {L : List (Option Value)} (hy : plainName M.1.cls = true) (hw : M.2.2.2.2.1 = Cond.code M.1 M.2.1 M.2.2.1 M.2.2.2.1 :: ws') (hlen : (xEl0 as).length ≤ M.2.2.1) (hL : xEnt as M.2.2.1 = L) (body : ∀ x : xC, Cx x M → Y x 0 L [] σ τ 0 0 (xEl x Q)) : Xl M as σ τ Q := by
  intro l bs D cA
  refine Met.ofW hy hw ?_
  intro p e s m args below meth c s₁ B hml hv
  obtain ⟨rfl, hv⟩ := hv
  have C := xCx B hml hv
  have hb := body _ C s.heap [] _ hv.1 va_S.rf (by rw [← hL]; exact xl_entry bs hlen)
  rw [lg_entry_eq]
  exact hb

theorem Xv_mk {M : xM} {ws' : List Cond} {as : List Value} {σ : xS} {τ : xT} {Q : xS → xT → Prop} {L : List (Option Value)} (hy : plainName M.1.cls = true) (hw : M.2.2.2.2.1 = Cond.code M.1 M.2.1 M.2.2.1 M.2.2.2.1 :: ws') (hlen : (xEl0 as).length ≤ M.2.2.1) (hL : xEnt as M.2.2.1 = L) (body : ∀ x : xC, Cx x M → Y x 0 L [] σ τ 0 0 (xEv x Q)) : Xv M as σ τ Q := by
  intro l bs D cA
  refine Met.ofW hy hw ?_
  intro p e s m args below meth c s₁ B hml hv
  obtain ⟨rfl, hv⟩ := hv
  have C := xCx B hml hv
  have hb := body _ C s.heap [] _ hv.1 va_S.rf (by rw [← hL]; exact xl_entry bs hlen)
  rw [lg_entry_eq]
  exact hb

theorem Xr_mk {M : xM} {ws' : List Cond} {as : List Value} {σ : xS} {τ : xT} {Q : Nat → xS → xT → Prop} {L : List (Option Value)} (hy : plainName M.1.cls = true) (hw : M.2.2.2.2.1 = Cond.code M.1 M.2.1 M.2.2.1 M.2.2.2.1 :: ws') (hlen : (xEl0 as).length ≤ M.2.2.1) (hL : xEnt as M.2.2.1 = L) (body : ∀ x : xC, Cx x M → Y x 0 L [] σ τ 0 0 (xEr x Q)) : Xr M as σ τ Q := by
  intro l bs D cA
  refine Met.ofW hy hw ?_
  intro p e s m args below meth c s₁ B hml hv
  obtain ⟨rfl, hv⟩ := hv
  have C := xCx B hml hv
  have hb := body _ C s.heap [] _ hv.1 va_S.rf (by rw [← hL]; exact xl_entry bs hlen)
  rw [lg_entry_eq]
  exact hb

theorem xcat_map (bs : Nat) : ((fun v : Value => v.category) ∘ xv bs) = fun v => v.category := by
  funext v
  exact xv_cat bs v
section YR
variable {x : xC} {M : xM} {pc k n : Nat} {L : List (Option Value)} {st : List Value} {σ : xS} {τ : xT} {Z : State → Prop}
theorem y_iload (C : Cx x M) {i : Nat} {v : Int32} (hdg : decode M.2.1 pc = .ok (.iload i, 2)) (hl : L[i]? = some (some (.int v))) (kk : Y x (pc + 2) L (.int v :: st) σ τ k n Z) : Y x pc L (st) σ τ k n Z := by
  obtain ⟨p, l, e, R, s, m, args, below, meth, c, bs, D, cA⟩ := x
  obtain ⟨hx, hb, hr, hml, hown, hts, hlk, hK, hR, hst, hsz⟩ := C
  intro H locs ls hP hS hL
  exact lv_iload hx hb hdg (hL.2.2 _ _ hl) (kk H locs ls hP hS hL)
theorem y_iload_n (C : Cx x M) {q : Fin 4} {v : Int32} (hdg : decode M.2.1 pc = .ok (.iload_n q, 1)) (hl : L[(q : Nat)]? = some (some (.int v))) (kk : Y x (pc + 1) L (.int v :: st) σ τ k n Z) : Y x pc L (st) σ τ k n Z := by
  obtain ⟨p, l, e, R, s, m, args, below, meth, c, bs, D, cA⟩ := x
  obtain ⟨hx, hb, hr, hml, hown, hts, hlk, hK, hR, hst, hsz⟩ := C
  intro H locs ls hP hS hL
  exact lv_iload_n hx hb hdg rfl (hL.2.2 _ _ hl) (kk H locs ls hP hS hL)
theorem y_aload (C : Cx x M) {i a : Nat} (hdg : decode M.2.1 pc = .ok (.aload i, 2)) (hl : L[i]? = some (some (.ref a))) (kk : Y x (pc + 2) L (.ref a :: st) σ τ k n Z) : Y x pc L (st) σ τ k n Z := by
  obtain ⟨p, l, e, R, s, m, args, below, meth, c, bs, D, cA⟩ := x
  obtain ⟨hx, hb, hr, hml, hown, hts, hlk, hK, hR, hst, hsz⟩ := C
  intro H locs ls hP hS hL
  exact lv_aload hx hb hdg (hL.2.2 _ _ hl) (kk H locs ls hP hS hL)
theorem y_aload_n (C : Cx x M) {q : Fin 4} {a : Nat} (hdg : decode M.2.1 pc = .ok (.aload_n q, 1)) (hl : L[(q : Nat)]? = some (some (.ref a))) (kk : Y x (pc + 1) L (.ref a :: st) σ τ k n Z) : Y x pc L (st) σ τ k n Z := by
  obtain ⟨p, l, e, R, s, m, args, below, meth, c, bs, D, cA⟩ := x
  obtain ⟨hx, hb, hr, hml, hown, hts, hlk, hK, hR, hst, hsz⟩ := C
  intro H locs ls hP hS hL
  exact lv_aload_n hx hb hdg rfl (hL.2.2 _ _ hl) (kk H locs ls hP hS hL)
theorem y_lload_n (C : Cx x M) {q : Fin 4} {v : Int64} (hdg : decode M.2.1 pc = .ok (.lload_n q, 1)) (hl : L[(q : Nat)]? = some (some (.long v))) (kk : Y x (pc + 1) L (.long v :: st) σ τ k n Z) : Y x pc L (st) σ τ k n Z := by
  obtain ⟨p, l, e, R, s, m, args, below, meth, c, bs, D, cA⟩ := x
  obtain ⟨hx, hb, hr, hml, hown, hts, hlk, hK, hR, hst, hsz⟩ := C
  intro H locs ls hP hS hL
  exact lv_lload_n hx hb hdg rfl (hL.2.2 _ _ hl) (kk H locs ls hP hS hL)
theorem y_iconst (C : Cx x M) {i : Int} {v : Int32} (hdg : decode M.2.1 pc = .ok (.iconst i, 1)) (hv : Int32.ofInt i = v) (kk : Y x (pc + 1) L (.int v :: st) σ τ k n Z) : Y x pc L (st) σ τ k n Z := by
  obtain ⟨p, l, e, R, s, m, args, below, meth, c, bs, D, cA⟩ := x
  obtain ⟨hx, hb, hr, hml, hown, hts, hlk, hK, hR, hst, hsz⟩ := C
  intro H locs ls hP hS hL
  exact lv_iconst hx hb hdg hv (kk H locs ls hP hS hL)
theorem y_bipush (C : Cx x M) {i : Int} {v : Int32} (hdg : decode M.2.1 pc = .ok (.bipush i, 2)) (hv : (Int8.ofInt i).toInt32 = v) (kk : Y x (pc + 2) L (.int v :: st) σ τ k n Z) : Y x pc L (st) σ τ k n Z := by
  obtain ⟨p, l, e, R, s, m, args, below, meth, c, bs, D, cA⟩ := x
  obtain ⟨hx, hb, hr, hml, hown, hts, hlk, hK, hR, hst, hsz⟩ := C
  intro H locs ls hP hS hL
  exact lv_bipush hx hb hdg hv (kk H locs ls hP hS hL)
theorem y_sipush (C : Cx x M) {i : Int} {v : Int32} (hdg : decode M.2.1 pc = .ok (.sipush i, 3)) (hv : (Int16.ofInt i).toInt32 = v) (kk : Y x (pc + 3) L (.int v :: st) σ τ k n Z) : Y x pc L (st) σ τ k n Z := by
  obtain ⟨p, l, e, R, s, m, args, below, meth, c, bs, D, cA⟩ := x
  obtain ⟨hx, hb, hr, hml, hown, hts, hlk, hK, hR, hst, hsz⟩ := C
  intro H locs ls hP hS hL
  exact lv_sipush hx hb hdg hv (kk H locs ls hP hS hL)
theorem y_lconst (C : Cx x M) {i : Fin 2} {v : Int64} (hdg : decode M.2.1 pc = .ok (.lconst i, 1)) (hv : Int64.ofNat (i : Nat) = v) (kk : Y x (pc + 1) L (.long v :: st) σ τ k n Z) : Y x pc L (st) σ τ k n Z := by
  obtain ⟨p, l, e, R, s, m, args, below, meth, c, bs, D, cA⟩ := x
  obtain ⟨hx, hb, hr, hml, hown, hts, hlk, hK, hR, hst, hsz⟩ := C
  intro H locs ls hP hS hL
  exact lv_lconst hx hb hdg hv (kk H locs ls hP hS hL)
theorem y_ldc (C : Cx x M) {i : Nat} {v : Int32} (hdg : decode M.2.1 pc = .ok (.ldc i, 2)) (hc : Cond.constant M.1.cls i v ∈ M.2.2.2.2.1) (kk : Y x (pc + 2) L (.int v :: st) σ τ k n Z) : Y x pc L (st) σ τ k n Z := by
  obtain ⟨p, l, e, R, s, m, args, below, meth, c, bs, D, cA⟩ := x
  obtain ⟨hx, hb, hr, hml, hown, hts, hlk, hK, hR, hst, hsz⟩ := C
  intro H locs ls hP hS hL
  exact lv_ldc hx hb hown (hts _ hc) hdg (kk H locs ls hP hS hL)
theorem y_ldc2 (C : Cx x M) {i : Nat} {v : Int64} (hdg : decode M.2.1 pc = .ok (.ldc2_w i, 3)) (hc : Cond.constantLong M.1.cls i v ∈ M.2.2.2.2.1) (kk : Y x (pc + 3) L (.long v :: st) σ τ k n Z) : Y x pc L (st) σ τ k n Z := by
  obtain ⟨p, l, e, R, s, m, args, below, meth, c, bs, D, cA⟩ := x
  obtain ⟨hx, hb, hr, hml, hown, hts, hlk, hK, hR, hst, hsz⟩ := C
  intro H locs ls hP hS hL
  exact lv_ldc2 hx hb hown (hts _ hc) hdg (kk H locs ls hP hS hL)
theorem y_iadd (C : Cx x M) {u v : Int32} (hdg : decode M.2.1 pc = .ok (.iadd, 1)) (kk : Y x (pc + 1) L (.int (u + v) :: st) σ τ k n Z) : Y x pc L (.int v :: .int u :: st) σ τ k n Z := by
  obtain ⟨p, l, e, R, s, m, args, below, meth, c, bs, D, cA⟩ := x
  obtain ⟨hx, hb, hr, hml, hown, hts, hlk, hK, hR, hst, hsz⟩ := C
  intro H locs ls hP hS hL
  exact lv_iadd hx hb hdg (kk H locs ls hP hS hL)
theorem y_isub (C : Cx x M) {u v : Int32} (hdg : decode M.2.1 pc = .ok (.isub, 1)) (kk : Y x (pc + 1) L (.int (u - v) :: st) σ τ k n Z) : Y x pc L (.int v :: .int u :: st) σ τ k n Z := by
  obtain ⟨p, l, e, R, s, m, args, below, meth, c, bs, D, cA⟩ := x
  obtain ⟨hx, hb, hr, hml, hown, hts, hlk, hK, hR, hst, hsz⟩ := C
  intro H locs ls hP hS hL
  exact lv_isub hx hb hdg (kk H locs ls hP hS hL)
theorem y_imul (C : Cx x M) {u v : Int32} (hdg : decode M.2.1 pc = .ok (.imul, 1)) (kk : Y x (pc + 1) L (.int (u * v) :: st) σ τ k n Z) : Y x pc L (.int v :: .int u :: st) σ τ k n Z := by
  obtain ⟨p, l, e, R, s, m, args, below, meth, c, bs, D, cA⟩ := x
  obtain ⟨hx, hb, hr, hml, hown, hts, hlk, hK, hR, hst, hsz⟩ := C
  intro H locs ls hP hS hL
  exact lv_imul hx hb hdg (kk H locs ls hP hS hL)
theorem y_iand (C : Cx x M) {u v : Int32} (hdg : decode M.2.1 pc = .ok (.iand, 1)) (kk : Y x (pc + 1) L (.int (u &&& v) :: st) σ τ k n Z) : Y x pc L (.int v :: .int u :: st) σ τ k n Z := by
  obtain ⟨p, l, e, R, s, m, args, below, meth, c, bs, D, cA⟩ := x
  obtain ⟨hx, hb, hr, hml, hown, hts, hlk, hK, hR, hst, hsz⟩ := C
  intro H locs ls hP hS hL
  exact lv_iand hx hb hdg (kk H locs ls hP hS hL)
theorem y_ior (C : Cx x M) {u v : Int32} (hdg : decode M.2.1 pc = .ok (.ior, 1)) (kk : Y x (pc + 1) L (.int (u ||| v) :: st) σ τ k n Z) : Y x pc L (.int v :: .int u :: st) σ τ k n Z := by
  obtain ⟨p, l, e, R, s, m, args, below, meth, c, bs, D, cA⟩ := x
  obtain ⟨hx, hb, hr, hml, hown, hts, hlk, hK, hR, hst, hsz⟩ := C
  intro H locs ls hP hS hL
  exact lv_ior hx hb hdg (kk H locs ls hP hS hL)
theorem y_ixor (C : Cx x M) {u v : Int32} (hdg : decode M.2.1 pc = .ok (.ixor, 1)) (kk : Y x (pc + 1) L (.int (u ^^^ v) :: st) σ τ k n Z) : Y x pc L (.int v :: .int u :: st) σ τ k n Z := by
  obtain ⟨p, l, e, R, s, m, args, below, meth, c, bs, D, cA⟩ := x
  obtain ⟨hx, hb, hr, hml, hown, hts, hlk, hK, hR, hst, hsz⟩ := C
  intro H locs ls hP hS hL
  exact lv_ixor hx hb hdg (kk H locs ls hP hS hL)
theorem y_ishl (C : Cx x M) {u v : Int32} (hdg : decode M.2.1 pc = .ok (.ishl, 1)) (kk : Y x (pc + 1) L (.int (u <<< (v &&& 31)) :: st) σ τ k n Z) : Y x pc L (.int v :: .int u :: st) σ τ k n Z := by
  obtain ⟨p, l, e, R, s, m, args, below, meth, c, bs, D, cA⟩ := x
  obtain ⟨hx, hb, hr, hml, hown, hts, hlk, hK, hR, hst, hsz⟩ := C
  intro H locs ls hP hS hL
  exact lv_ishl hx hb hdg (kk H locs ls hP hS hL)
theorem y_ishr (C : Cx x M) {u v : Int32} (hdg : decode M.2.1 pc = .ok (.ishr, 1)) (kk : Y x (pc + 1) L (.int (u >>> (v &&& 31)) :: st) σ τ k n Z) : Y x pc L (.int v :: .int u :: st) σ τ k n Z := by
  obtain ⟨p, l, e, R, s, m, args, below, meth, c, bs, D, cA⟩ := x
  obtain ⟨hx, hb, hr, hml, hown, hts, hlk, hK, hR, hst, hsz⟩ := C
  intro H locs ls hP hS hL
  exact lv_ishr hx hb hdg (kk H locs ls hP hS hL)
theorem y_idiv (C : Cx x M) {u v : Int32} (hdg : decode M.2.1 pc = .ok (.idiv, 1)) (hne : ¬ v = 0) (kk : Y x (pc + 1) L (.int (u / v) :: st) σ τ k n Z) : Y x pc L (.int v :: .int u :: st) σ τ k n Z := by
  obtain ⟨p, l, e, R, s, m, args, below, meth, c, bs, D, cA⟩ := x
  obtain ⟨hx, hb, hr, hml, hown, hts, hlk, hK, hR, hst, hsz⟩ := C
  intro H locs ls hP hS hL
  exact lv_idiv hx hb hdg hne (kk H locs ls hP hS hL)
theorem y_irem (C : Cx x M) {u v : Int32} (hdg : decode M.2.1 pc = .ok (.irem, 1)) (hne : ¬ v = 0) (kk : Y x (pc + 1) L (.int (u - u / v * v) :: st) σ τ k n Z) : Y x pc L (.int v :: .int u :: st) σ τ k n Z := by
  obtain ⟨p, l, e, R, s, m, args, below, meth, c, bs, D, cA⟩ := x
  obtain ⟨hx, hb, hr, hml, hown, hts, hlk, hK, hR, hst, hsz⟩ := C
  intro H locs ls hP hS hL
  exact lv_irem hx hb hdg hne (kk H locs ls hP hS hL)
theorem y_ladd (C : Cx x M) {u v : Int64} (hdg : decode M.2.1 pc = .ok (.ladd, 1)) (kk : Y x (pc + 1) L (.long (u + v) :: st) σ τ k n Z) : Y x pc L (.long v :: .long u :: st) σ τ k n Z := by
  obtain ⟨p, l, e, R, s, m, args, below, meth, c, bs, D, cA⟩ := x
  obtain ⟨hx, hb, hr, hml, hown, hts, hlk, hK, hR, hst, hsz⟩ := C
  intro H locs ls hP hS hL
  exact lv_ladd hx hb hdg (kk H locs ls hP hS hL)
theorem y_lmul (C : Cx x M) {u v : Int64} (hdg : decode M.2.1 pc = .ok (.lmul, 1)) (kk : Y x (pc + 1) L (.long (u * v) :: st) σ τ k n Z) : Y x pc L (.long v :: .long u :: st) σ τ k n Z := by
  obtain ⟨p, l, e, R, s, m, args, below, meth, c, bs, D, cA⟩ := x
  obtain ⟨hx, hb, hr, hml, hown, hts, hlk, hK, hR, hst, hsz⟩ := C
  intro H locs ls hP hS hL
  exact lv_lmul hx hb hdg (kk H locs ls hP hS hL)
theorem y_lcmp (C : Cx x M) {u v : Int64} (hdg : decode M.2.1 pc = .ok (.lcmp, 1)) (kk : Y x (pc + 1) L (.int (lg_cmp u v) :: st) σ τ k n Z) : Y x pc L (.long v :: .long u :: st) σ τ k n Z := by
  obtain ⟨p, l, e, R, s, m, args, below, meth, c, bs, D, cA⟩ := x
  obtain ⟨hx, hb, hr, hml, hown, hts, hlk, hK, hR, hst, hsz⟩ := C
  intro H locs ls hP hS hL
  exact W.lcmp hx hb hdg (kk H locs ls hP hS hL)
theorem y_i2l (C : Cx x M) {u : Int32} (hdg : decode M.2.1 pc = .ok (.i2l, 1)) (kk : Y x (pc + 1) L (.long u.toInt64 :: st) σ τ k n Z) : Y x pc L (.int u :: st) σ τ k n Z := by
  obtain ⟨p, l, e, R, s, m, args, below, meth, c, bs, D, cA⟩ := x
  obtain ⟨hx, hb, hr, hml, hown, hts, hlk, hK, hR, hst, hsz⟩ := C
  intro H locs ls hP hS hL
  exact lv_i2l hx hb hdg rfl (kk H locs ls hP hS hL)
theorem y_dup (C : Cx x M) {u : Value} (hdg : decode M.2.1 pc = .ok (.dup, 1)) (hu : u.category = 1) (kk : Y x (pc + 1) L (u :: u :: st) σ τ k n Z) : Y x pc L (u :: st) σ τ k n Z := by
  obtain ⟨p, l, e, R, s, m, args, below, meth, c, bs, D, cA⟩ := x
  obtain ⟨hx, hb, hr, hml, hown, hts, hlk, hK, hR, hst, hsz⟩ := C
  intro H locs ls hP hS hL
  exact lv_dup hx hb hdg ((xv_cat _ _).trans hu) (kk H locs ls hP hS hL)
theorem y_pop (C : Cx x M) {u : Value} (hdg : decode M.2.1 pc = .ok (.pop, 1)) (hu : u.category = 1) (kk : Y x (pc + 1) L (st) σ τ k n Z) : Y x pc L (u :: st) σ τ k n Z := by
  obtain ⟨p, l, e, R, s, m, args, below, meth, c, bs, D, cA⟩ := x
  obtain ⟨hx, hb, hr, hml, hown, hts, hlk, hK, hR, hst, hsz⟩ := C
  intro H locs ls hP hS hL
  exact lv_pop hx hb hdg ((xv_cat _ _).trans hu) (kk H locs ls hP hS hL)
theorem y_dup2 (C : Cx x M) {u v : Value} (hdg : decode M.2.1 pc = .ok (.dup2, 1)) (hu : u.category = 1) (hv : v.category = 1) (kk : Y x (pc + 1) L (u :: v :: u :: v :: st) σ τ k n Z) : Y x pc L (u :: v :: st) σ τ k n Z := by
  obtain ⟨p, l, e, R, s, m, args, below, meth, c, bs, D, cA⟩ := x
  obtain ⟨hx, hb, hr, hml, hown, hts, hlk, hK, hR, hst, hsz⟩ := C
  intro H locs ls hP hS hL
  exact lv_dup2_11 hx hb hdg ((xv_cat _ _).trans hu) ((xv_cat _ _).trans hv) (kk H locs ls hP hS hL)
theorem y_goto (C : Cx x M) {o : Int} {t : Nat} (hdg : decode M.2.1 pc = .ok (.goto o, 3)) (ht : (pc : Int) + o = (t : Int)) (kk : Y x (t) L (st) σ τ k n Z) : Y x pc L (st) σ τ k n Z := by
  obtain ⟨p, l, e, R, s, m, args, below, meth, c, bs, D, cA⟩ := x
  obtain ⟨hx, hb, hr, hml, hown, hts, hlk, hK, hR, hst, hsz⟩ := C
  intro H locs ls hP hS hL
  exact lv_goto hx hb hdg ht (kk H locs ls hP hS hL)
/-- one place changes; a long that stood across it goes -/
def xst (L : List (Option Value)) (i : Nat) (v : Option Value) : List (Option Value) := match i with
  | 0 => L.set 0 v
  | j + 1 => (match L[j]? with
    | some (some (.long _)) => (L.set j none).set (j + 1) v
    | some (some (.double _)) => (L.set j none).set (j + 1) v
    | _ => L.set (j + 1) v)
theorem xst_len (L : List (Option Value)) (i : Nat) (v : Option Value) : (xst L i v).length = L.length := by
  cases i with
  | zero => simp [xst]
  | succ j =>
    simp only [xst]
    split <;> simp
theorem xst_at {L : List (Option Value)} {i j : Nat} {v : Option Value} {u : Value} (h : (xst L i v)[j]? = some (some u)) : (j = i ∧ v = some u) ∨ (j ≠ i ∧ L[j]? = some (some u) ∧ ¬ (j + 1 = i ∧ u.category = 2)) := by
  cases i with
  | zero =>
    simp only [xst, List.getElem?_set] at h
    by_cases e : 0 = j
    · subst e
      rw [if_pos rfl] at h
      by_cases hl : 0 < L.length
      · rw [if_pos hl] at h; exact Or.inl ⟨rfl, Option.some.inj h⟩
      · rw [if_neg hl] at h; cases h
    · rw [if_neg e] at h
      exact Or.inr ⟨fun q => e q.symm, h, fun q => by omega⟩
  | succ i =>
    have hA : ∀ w : Option Value, ((L.set i w).set (i + 1) v)[j]? = some (some u) → w = none → (j = i + 1 ∧ v = some u) ∨ (j ≠ i + 1 ∧ L[j]? = some (some u) ∧ ¬ (j + 1 = i + 1 ∧ u.category = 2)) := by
      intro w h hw
      subst hw
      rw [List.getElem?_set] at h
      by_cases e : i + 1 = j
      · subst e
        rw [if_pos rfl] at h
        by_cases hl : i + 1 < (L.set i none).length
        · rw [if_pos hl] at h; exact Or.inl ⟨rfl, Option.some.inj h⟩
        · rw [if_neg hl] at h; cases h
      · rw [if_neg e, List.getElem?_set] at h
        by_cases e2 : i = j
        · subst e2
          rw [if_pos rfl] at h
          by_cases hl : i < L.length
          · rw [if_pos hl] at h; cases h
          · rw [if_neg hl] at h; cases h
        · rw [if_neg e2] at h
          exact Or.inr ⟨fun q => e q.symm, h, fun q => e2 (by omega)⟩
    simp only [xst] at h
    split at h
    · exact hA none h rfl
    · exact hA none h rfl
    · rename_i h1 h2
      rw [List.getElem?_set] at h
      by_cases e : i + 1 = j
      · subst e
        rw [if_pos rfl] at h
        by_cases hl : i + 1 < L.length
        · rw [if_pos hl] at h; exact Or.inl ⟨rfl, Option.some.inj h⟩
        · rw [if_neg hl] at h; cases h
      · rw [if_neg e] at h
        refine Or.inr ⟨fun q => e q.symm, h, fun q => ?_⟩
        have e3 : j = i := by omega
        subst e3
        cases u with
        | long z => exact h1 z h
        | double z => exact h2 z h
        | int z => simp [Value.category] at q
        | float z => simp [Value.category] at q
        | null => simp [Value.category] at q
        | ref z => simp [Value.category] at q
        | retAddr z => simp [Value.category] at q
def xpl (bs : Nat) (L : List (Option Value)) : List (Nat × Value) := (List.range L.length).filterMap fun i => match L[i]? with
  | some (some v) => some (i, xv bs v)
  | _ => none
theorem xpl_mem {bs : Nat} {L : List (Option Value)} {i : Nat} {v : Value} (h : L[i]? = some (some v)) : (i, xv bs v) ∈ xpl bs L := by
  refine List.mem_filterMap.mpr ⟨i, List.mem_range.mpr (List.getElem?_eq_some_iff.mp h).1, ?_⟩
  simp only [h]
theorem xpl_of {bs : Nat} {L : List (Option Value)} {q : Nat × Value} (h : q ∈ xpl bs L) : ∃ v, L[q.1]? = some (some v) ∧ q.2 = xv bs v := by
  obtain ⟨i, -, hi⟩ := List.mem_filterMap.mp h
  split at hi
  · rename_i v hv
    cases hi
    exact ⟨v, hv, rfl⟩
  · cases hi
theorem xl_has {bs : Nat} {L : List (Option Value)} {ls : Array Slot} (h : xl bs L ls) : lv_has ls L.length (xpl bs L) := by
  refine ⟨h.1, h.2.1, fun q hq => ?_⟩
  obtain ⟨v, hv, e⟩ := xpl_of hq
  rw [e]
  exact h.2.2 _ _ hv
theorem xl_st1 {bs i : Nat} {L : List (Option Value)} {ls' : Array Slot} {v : Value} (hlt : i < L.length) (h : lv_has ls' L.length ((i, xv bs v) :: (xpl bs L).filter (fun q => !(q.1 == i) && !(q.1 + 1 == i && q.2.category == 2)))) : xl bs (xst L i (some v)) ls' := by
  refine ⟨by rw [xst_len]; exact h.1, h.2.1, fun j u hj => ?_⟩
  rcases xst_at hj with ⟨e, e2⟩ | ⟨e, e2, e3⟩
  · subst e; cases e2
    exact h.2.2 _ List.mem_cons_self
  · refine h.2.2 (j, xv bs u) (List.mem_cons_of_mem _ (List.mem_filter.mpr ⟨xpl_mem e2, ?_⟩))
    rw [xv_cat]
    by_cases h1 : j + 1 = i
    · have : ¬ u.category = 2 := fun q => e3 ⟨h1, q⟩
      simp [e, this]
    · simp [e, h1]
theorem xl_st2 {bs i : Nat} {L : List (Option Value)} {ls' : Array Slot} {v : Value} (hlt : i + 1 < L.length) (h : lv_has ls' L.length ((i, xv bs v) :: (xpl bs L).filter (fun q => !(q.1 == i) && (!(q.1 == i + 1) && !(q.1 + 1 == i && q.2.category == 2))))) : xl bs ((xst L i (some v)).set (i + 1) none) ls' := by
  refine ⟨by rw [List.length_set, xst_len]; exact h.1, h.2.1, fun j u hj => ?_⟩
  rw [List.getElem?_set] at hj
  by_cases e0 : i + 1 = j
  · subst e0
    rw [if_pos rfl] at hj
    by_cases hl : i + 1 < (xst L i (some v)).length
    · rw [if_pos hl] at hj; cases hj
    · rw [if_neg hl] at hj; cases hj
  · rw [if_neg e0] at hj
    rcases xst_at hj with ⟨e, e2⟩ | ⟨e, e2, e3⟩
    · subst e; cases e2
      exact h.2.2 _ List.mem_cons_self
    · refine h.2.2 (j, xv bs u) (List.mem_cons_of_mem _ (List.mem_filter.mpr ⟨xpl_mem e2, ?_⟩))
      rw [xv_cat]
      have e4 : ¬ j = i + 1 := fun q => e0 q.symm
      by_cases h1 : j + 1 = i
      · have : ¬ u.category = 2 := fun q => e3 ⟨h1, q⟩
        simp [e, e4, this]
      · simp [e, e4, h1]
theorem y_istore (C : Cx x M) {i : Nat} {v : Int32} (hdg : decode M.2.1 pc = .ok (.istore i, 2)) {L' : List (Option Value)} (hlt : i < L.length) (hL' : xst L (i) (some (.int v)) = L') (kk : Y x (pc + 2) L' st σ τ k n Z) : Y x pc L ((.int v) :: st) σ τ k n Z := by
  obtain ⟨p, l, e, R, s, m, args, below, meth, c, bs, D, cA⟩ := x
  obtain ⟨hx, hb, hr, hml, hown, hts, hlk, hK, hR, hst, hsz⟩ := C
  intro H locs ls hP hS hL
  exact lv_istore hx hb hdg (xl_has hL) hlt rfl (fun ls' hl' => kk H locs ls' hP hS (by rw [← hL']; exact xl_st1 hlt hl'))
theorem y_istore_n (C : Cx x M) {q : Fin 4} {v : Int32} (hdg : decode M.2.1 pc = .ok (.istore_n q, 1)) {L' : List (Option Value)} (hlt : (q : Nat) < L.length) (hL' : xst L ((q : Nat)) (some (.int v)) = L') (kk : Y x (pc + 1) L' st σ τ k n Z) : Y x pc L ((.int v) :: st) σ τ k n Z := by
  obtain ⟨p, l, e, R, s, m, args, below, meth, c, bs, D, cA⟩ := x
  obtain ⟨hx, hb, hr, hml, hown, hts, hlk, hK, hR, hst, hsz⟩ := C
  intro H locs ls hP hS hL
  exact lv_istore_n hx hb hdg rfl (xl_has hL) hlt rfl (fun ls' hl' => kk H locs ls' hP hS (by rw [← hL']; exact xl_st1 hlt hl'))
theorem y_astore (C : Cx x M) {i : Nat} {v : Nat} (hdg : decode M.2.1 pc = .ok (.astore i, 2)) {L' : List (Option Value)} (hlt : i < L.length) (hL' : xst L (i) (some (.ref v)) = L') (kk : Y x (pc + 2) L' st σ τ k n Z) : Y x pc L ((.ref v) :: st) σ τ k n Z := by
  obtain ⟨p, l, e, R, s, m, args, below, meth, c, bs, D, cA⟩ := x
  obtain ⟨hx, hb, hr, hml, hown, hts, hlk, hK, hR, hst, hsz⟩ := C
  intro H locs ls hP hS hL
  exact lv_astore hx hb hdg (xl_has hL) hlt rfl (fun ls' hl' => kk H locs ls' hP hS (by rw [← hL']; exact xl_st1 hlt hl'))
theorem y_astore_n (C : Cx x M) {q : Fin 4} {v : Nat} (hdg : decode M.2.1 pc = .ok (.astore_n q, 1)) {L' : List (Option Value)} (hlt : (q : Nat) < L.length) (hL' : xst L ((q : Nat)) (some (.ref v)) = L') (kk : Y x (pc + 1) L' st σ τ k n Z) : Y x pc L ((.ref v) :: st) σ τ k n Z := by
  obtain ⟨p, l, e, R, s, m, args, below, meth, c, bs, D, cA⟩ := x
  obtain ⟨hx, hb, hr, hml, hown, hts, hlk, hK, hR, hst, hsz⟩ := C
  intro H locs ls hP hS hL
  exact lv_astore_n hx hb hdg rfl (xl_has hL) hlt rfl (fun ls' hl' => kk H locs ls' hP hS (by rw [← hL']; exact xl_st1 hlt hl'))
theorem y_lstore_n (C : Cx x M) {q : Fin 4} {v : Int64} (hdg : decode M.2.1 pc = .ok (.lstore_n q, 1)) {L' : List (Option Value)} (hlt : (q : Nat) + 1 < L.length) (hL' : (xst L (q : Nat) (some (.long v))).set ((q : Nat) + 1) none = L') (kk : Y x (pc + 1) L' st σ τ k n Z) : Y x pc L ((.long v) :: st) σ τ k n Z := by
  obtain ⟨p, l, e, R, s, m, args, below, meth, c, bs, D, cA⟩ := x
  obtain ⟨hx, hb, hr, hml, hown, hts, hlk, hK, hR, hst, hsz⟩ := C
  intro H locs ls hP hS hL
  exact lv_lstore_n hx hb hdg rfl (xl_has hL) hlt rfl (fun ls' hl' => kk H locs ls' hP hS (by rw [← hL']; exact xl_st2 hlt hl'))
theorem y_iinc (C : Cx x M) {i : Nat} {d : Int} {u v : Int32} (hdg : decode M.2.1 pc = .ok (.iinc i d, 3)) {L' : List (Option Value)} (hl : L[i]? = some (some (.int u))) (hv : u + Int32.ofInt d = v) (hL' : xst L i (some (.int v)) = L') (kk : Y x (pc + 3) L' st σ τ k n Z) : Y x pc L st σ τ k n Z := by
  obtain ⟨p, l, e, R, s, m, args, below, meth, c, bs, D, cA⟩ := x
  obtain ⟨hx, hb, hr, hml, hown, hts, hlk, hK, hR, hst, hsz⟩ := C
  intro H locs ls hP hS hL
  obtain ⟨j, hj⟩ := List.mem_iff_getElem?.mp (xpl_mem (bs := bs) hl)
  have hlt : i < L.length := (List.getElem?_eq_some_iff.mp hl).1
  exact lv_iinc hx hb hdg (xl_has hL) (k := j) hj hv hlt rfl (fun ls' hl' => kk H locs ls' hP hS (by rw [← hL']; exact xl_st1 hlt hl'))
theorem y_if_eq (C : Cx x M) {u : Int32} {o : Int} {t : Nat} (hdg : decode M.2.1 pc = .ok (.ifCond .eq o, 3)) (ht : (pc : Int) + o = (t : Int)) (kt : u = 0 → Y x t L st σ τ k n Z) (kf : ¬ (u = 0) → Y x (pc + 3) L st σ τ k n Z) : Y x pc L (.int u :: st) σ τ k n Z := by
  obtain ⟨p, l, e, R, s, m, args, below, meth, c, bs, D, cA⟩ := x
  obtain ⟨hx, hb, hr, hml, hown, hts, hlk, hK, hR, hst, hsz⟩ := C
  intro H locs ls hP hS hL
  exact lv_if_eq hx hb hdg ht (fun q => kt q H locs ls hP hS hL) (fun q => kf q H locs ls hP hS hL)
theorem y_if_ne (C : Cx x M) {u : Int32} {o : Int} {t : Nat} (hdg : decode M.2.1 pc = .ok (.ifCond .ne o, 3)) (ht : (pc : Int) + o = (t : Int)) (kt : ¬ u = 0 → Y x t L st σ τ k n Z) (kf : u = 0 → Y x (pc + 3) L st σ τ k n Z) : Y x pc L (.int u :: st) σ τ k n Z := by
  obtain ⟨p, l, e, R, s, m, args, below, meth, c, bs, D, cA⟩ := x
  obtain ⟨hx, hb, hr, hml, hown, hts, hlk, hK, hR, hst, hsz⟩ := C
  intro H locs ls hP hS hL
  exact lv_if_ne hx hb hdg ht (fun q => kt q H locs ls hP hS hL) (fun q => kf q H locs ls hP hS hL)
theorem y_if_lt (C : Cx x M) {u : Int32} {o : Int} {t : Nat} (hdg : decode M.2.1 pc = .ok (.ifCond .lt o, 3)) (ht : (pc : Int) + o = (t : Int)) (kt : u < 0 → Y x t L st σ τ k n Z) (kf : ¬ (u < 0) → Y x (pc + 3) L st σ τ k n Z) : Y x pc L (.int u :: st) σ τ k n Z := by
  obtain ⟨p, l, e, R, s, m, args, below, meth, c, bs, D, cA⟩ := x
  obtain ⟨hx, hb, hr, hml, hown, hts, hlk, hK, hR, hst, hsz⟩ := C
  intro H locs ls hP hS hL
  exact lv_if_lt hx hb hdg ht (fun q => kt q H locs ls hP hS hL) (fun q => kf q H locs ls hP hS hL)
theorem y_if_ge (C : Cx x M) {u : Int32} {o : Int} {t : Nat} (hdg : decode M.2.1 pc = .ok (.ifCond .ge o, 3)) (ht : (pc : Int) + o = (t : Int)) (kt : 0 ≤ u → Y x t L st σ τ k n Z) (kf : ¬ (0 ≤ u) → Y x (pc + 3) L st σ τ k n Z) : Y x pc L (.int u :: st) σ τ k n Z := by
  obtain ⟨p, l, e, R, s, m, args, below, meth, c, bs, D, cA⟩ := x
  obtain ⟨hx, hb, hr, hml, hown, hts, hlk, hK, hR, hst, hsz⟩ := C
  intro H locs ls hP hS hL
  exact lv_if_ge hx hb hdg ht (fun q => kt q H locs ls hP hS hL) (fun q => kf q H locs ls hP hS hL)
theorem y_if_gt (C : Cx x M) {u : Int32} {o : Int} {t : Nat} (hdg : decode M.2.1 pc = .ok (.ifCond .gt o, 3)) (ht : (pc : Int) + o = (t : Int)) (kt : 0 < u → Y x t L st σ τ k n Z) (kf : ¬ (0 < u) → Y x (pc + 3) L st σ τ k n Z) : Y x pc L (.int u :: st) σ τ k n Z := by
  obtain ⟨p, l, e, R, s, m, args, below, meth, c, bs, D, cA⟩ := x
  obtain ⟨hx, hb, hr, hml, hown, hts, hlk, hK, hR, hst, hsz⟩ := C
  intro H locs ls hP hS hL
  exact lv_if_gt hx hb hdg ht (fun q => kt q H locs ls hP hS hL) (fun q => kf q H locs ls hP hS hL)
theorem y_if_le (C : Cx x M) {u : Int32} {o : Int} {t : Nat} (hdg : decode M.2.1 pc = .ok (.ifCond .le o, 3)) (ht : (pc : Int) + o = (t : Int)) (kt : u ≤ 0 → Y x t L st σ τ k n Z) (kf : ¬ (u ≤ 0) → Y x (pc + 3) L st σ τ k n Z) : Y x pc L (.int u :: st) σ τ k n Z := by
  obtain ⟨p, l, e, R, s, m, args, below, meth, c, bs, D, cA⟩ := x
  obtain ⟨hx, hb, hr, hml, hown, hts, hlk, hK, hR, hst, hsz⟩ := C
  intro H locs ls hP hS hL
  exact lv_if_le hx hb hdg ht (fun q => kt q H locs ls hP hS hL) (fun q => kf q H locs ls hP hS hL)
theorem y_icmp_eq (C : Cx x M) {u v : Int32} {o : Int} {t : Nat} (hdg : decode M.2.1 pc = .ok (.if_icmp .eq o, 3)) (ht : (pc : Int) + o = (t : Int)) (kt : u = v → Y x t L st σ τ k n Z) (kf : ¬ (u = v) → Y x (pc + 3) L st σ τ k n Z) : Y x pc L (.int v :: .int u :: st) σ τ k n Z := by
  obtain ⟨p, l, e, R, s, m, args, below, meth, c, bs, D, cA⟩ := x
  obtain ⟨hx, hb, hr, hml, hown, hts, hlk, hK, hR, hst, hsz⟩ := C
  intro H locs ls hP hS hL
  exact lv_icmp_eq hx hb hdg ht (fun q => kt q H locs ls hP hS hL) (fun q => kf q H locs ls hP hS hL)
theorem y_icmp_ne (C : Cx x M) {u v : Int32} {o : Int} {t : Nat} (hdg : decode M.2.1 pc = .ok (.if_icmp .ne o, 3)) (ht : (pc : Int) + o = (t : Int)) (kt : ¬ u = v → Y x t L st σ τ k n Z) (kf : u = v → Y x (pc + 3) L st σ τ k n Z) : Y x pc L (.int v :: .int u :: st) σ τ k n Z := by
  obtain ⟨p, l, e, R, s, m, args, below, meth, c, bs, D, cA⟩ := x
  obtain ⟨hx, hb, hr, hml, hown, hts, hlk, hK, hR, hst, hsz⟩ := C
  intro H locs ls hP hS hL
  exact lv_icmp_ne hx hb hdg ht (fun q => kt q H locs ls hP hS hL) (fun q => kf q H locs ls hP hS hL)
theorem y_icmp_lt (C : Cx x M) {u v : Int32} {o : Int} {t : Nat} (hdg : decode M.2.1 pc = .ok (.if_icmp .lt o, 3)) (ht : (pc : Int) + o = (t : Int)) (kt : u < v → Y x t L st σ τ k n Z) (kf : ¬ (u < v) → Y x (pc + 3) L st σ τ k n Z) : Y x pc L (.int v :: .int u :: st) σ τ k n Z := by
  obtain ⟨p, l, e, R, s, m, args, below, meth, c, bs, D, cA⟩ := x
  obtain ⟨hx, hb, hr, hml, hown, hts, hlk, hK, hR, hst, hsz⟩ := C
  intro H locs ls hP hS hL
  exact lv_icmp_lt hx hb hdg ht (fun q => kt q H locs ls hP hS hL) (fun q => kf q H locs ls hP hS hL)
theorem y_icmp_ge (C : Cx x M) {u v : Int32} {o : Int} {t : Nat} (hdg : decode M.2.1 pc = .ok (.if_icmp .ge o, 3)) (ht : (pc : Int) + o = (t : Int)) (kt : v ≤ u → Y x t L st σ τ k n Z) (kf : ¬ (v ≤ u) → Y x (pc + 3) L st σ τ k n Z) : Y x pc L (.int v :: .int u :: st) σ τ k n Z := by
  obtain ⟨p, l, e, R, s, m, args, below, meth, c, bs, D, cA⟩ := x
  obtain ⟨hx, hb, hr, hml, hown, hts, hlk, hK, hR, hst, hsz⟩ := C
  intro H locs ls hP hS hL
  exact lv_icmp_ge hx hb hdg ht (fun q => kt q H locs ls hP hS hL) (fun q => kf q H locs ls hP hS hL)
theorem y_icmp_gt (C : Cx x M) {u v : Int32} {o : Int} {t : Nat} (hdg : decode M.2.1 pc = .ok (.if_icmp .gt o, 3)) (ht : (pc : Int) + o = (t : Int)) (kt : v < u → Y x t L st σ τ k n Z) (kf : ¬ (v < u) → Y x (pc + 3) L st σ τ k n Z) : Y x pc L (.int v :: .int u :: st) σ τ k n Z := by
  obtain ⟨p, l, e, R, s, m, args, below, meth, c, bs, D, cA⟩ := x
  obtain ⟨hx, hb, hr, hml, hown, hts, hlk, hK, hR, hst, hsz⟩ := C
  intro H locs ls hP hS hL
  exact lv_icmp_gt hx hb hdg ht (fun q => kt q H locs ls hP hS hL) (fun q => kf q H locs ls hP hS hL)
theorem y_icmp_le (C : Cx x M) {u v : Int32} {o : Int} {t : Nat} (hdg : decode M.2.1 pc = .ok (.if_icmp .le o, 3)) (ht : (pc : Int) + o = (t : Int)) (kt : u ≤ v → Y x t L st σ τ k n Z) (kf : ¬ (u ≤ v) → Y x (pc + 3) L st σ τ k n Z) : Y x pc L (.int v :: .int u :: st) σ τ k n Z := by
  obtain ⟨p, l, e, R, s, m, args, below, meth, c, bs, D, cA⟩ := x
  obtain ⟨hx, hb, hr, hml, hown, hts, hlk, hK, hR, hst, hsz⟩ := C
  intro H locs ls hP hS hL
  exact lv_icmp_le hx hb hdg ht (fun q => kt q H locs ls hP hS hL) (fun q => kf q H locs ls hP hS hL)
theorem y_ifnull (C : Cx x M) {a : Nat} {o : Int} (hdg : decode M.2.1 pc = .ok (.ifnull o, 3)) (kk : Y x (pc + 3) L st σ τ k n Z) : Y x pc L (.ref a :: st) σ τ k n Z := by
  obtain ⟨p, l, e, R, s, m, args, below, meth, c, bs, D, cA⟩ := x
  obtain ⟨hx, hb, hr, hml, hown, hts, hlk, hK, hR, hst, hsz⟩ := C
  intro H locs ls hP hS hL
  exact lv_ifnull hx hb hdg (kk H locs ls hP hS hL)
theorem y_tableIn (C : Cx x M) {dflt lo hi : Int} {offs : Array Int} {len : Nat} {u : Int32} {o : Int} {t : Nat} (hdg : decode M.2.1 pc = .ok (.tableswitch dflt lo hi offs, len)) (h1 : ¬ u.toInt < lo) (h2 : ¬ hi < u.toInt) (ho : offs[(u.toInt - lo).toNat]? = some o) (ht : (pc : Int) + o = (t : Int)) (kk : Y x t L st σ τ k n Z) : Y x pc L (.int u :: st) σ τ k n Z := by
  obtain ⟨p, l, e, R, s, m, args, below, meth, c, bs, D, cA⟩ := x
  obtain ⟨hx, hb, hr, hml, hown, hts, hlk, hK, hR, hst, hsz⟩ := C
  intro H locs ls hP hS hL
  exact lv_tableIn hx hb hdg h1 h2 ho ht (kk H locs ls hP hS hL)
theorem y_tableOut (C : Cx x M) {dflt lo hi : Int} {offs : Array Int} {len : Nat} {u : Int32} {t : Nat} (hdg : decode M.2.1 pc = .ok (.tableswitch dflt lo hi offs, len)) (h : u.toInt < lo ∨ hi < u.toInt) (ht : (pc : Int) + dflt = (t : Int)) (kk : Y x t L st σ τ k n Z) : Y x pc L (.int u :: st) σ τ k n Z := by
  obtain ⟨p, l, e, R, s, m, args, below, meth, c, bs, D, cA⟩ := x
  obtain ⟨hx, hb, hr, hml, hown, hts, hlk, hK, hR, hst, hsz⟩ := C
  intro H locs ls hP hS hL
  exact lv_tableOut hx hb hdg h ht (kk H locs ls hP hS hL)
theorem y_lookup (C : Cx x M) {dflt : Int} {ps : Array (Int × Int)} {len : Nat} {u : Int32} {o : Int} {t : Nat} (hdg : decode M.2.1 pc = .ok (.lookupswitch dflt ps, len)) (hp : (ps.toList.zip (ps.toList.drop 1)).all (fun (a, next) => a.1 < next.1) = true) (ho : Op.lookupswitch.offset ps.toList dflt u.toInt = o) (ht : (pc : Int) + o = (t : Int)) (kk : Y x t L st σ τ k n Z) : Y x pc L (.int u :: st) σ τ k n Z := by
  obtain ⟨p, l, e, R, s, m, args, below, meth, c, bs, D, cA⟩ := x
  obtain ⟨hx, hb, hr, hml, hown, hts, hlk, hK, hR, hst, hsz⟩ := C
  intro H locs ls hP hS hL
  exact lv_lookup hx hb hdg hp ho ht (kk H locs ls hP hS hL)
theorem y_top {u : Int32} (kk : ∀ v : Int32, v = u → Y x pc L (.int v :: st) σ τ k n Z) : Y x pc L (.int u :: st) σ τ k n Z := kk u rfl
theorem y_topE {u : Int32} (v : Int32) (h : u = v) (kk : Y x pc L (.int v :: st) σ τ k n Z) : Y x pc L (.int u :: st) σ τ k n Z := h ▸ kk
theorem y_st {σ' : xS} (h : σ = σ') (kk : Y x pc L st σ' τ k n Z) : Y x pc L st σ τ k n Z := h ▸ kk
theorem y_loc {L' : List (Option Value)} (h : L = L') (kk : Y x pc L' st σ τ k n Z) : Y x pc L st σ τ k n Z := h ▸ kk
theorem y_get (C : Cx x M) {a i idx ci N : Nat} {fs : List (Option (Option Nat))} {f : Option (Option Nat)} {Cn : String} {T : u_T} (hdg : decode M.2.1 pc = .ok (.getfield idx, 3)) (ha : a < 165) (hsh : xSH a = .inl (ci, fs)) (hf : fs[i]? = some f) (hc : vwCl[ci]? = some (Cn, T, N)) (hi : i < N) (hin : ∀ w ∈ u_ws Cn T N, w ∈ M.2.2.2.2.1) (hlink : Cond.fieldLink M.1.cls idx (T i).1 (T i).2.1 (T i).2.2.1 ∈ M.2.2.2.2.1) (kk : Y x (pc + 3) L (xFa σ τ a i f :: st) σ τ k n Z) : Y x pc L (.ref a :: st) σ τ k n Z := by
  obtain ⟨p, l, e, R, s, m, args, below, meth, c, bs, D, cA⟩ := x
  obtain ⟨hx, hb, hr, hml, hown, hts, hlk, hK, hR, hst, hsz⟩ := C
  intro H locs ls hP hS hL
  have he := xws_get (σ := σ) (τ := τ) (bs := bs) (cA := cA) ha
  rw [hsh] at he
  refine va_get (D := D) (ci := ci) (v := xFld σ τ bs a i f) hx hb hts hin hown hK hP a he hc i hi (hts _ hlink) (fun _ h9 => h9) (by simp [hf]) hdg ?_
  have := kk H locs ls hP hS hL
  rw [List.map_cons, xv_fa] at this
  exact this
theorem y_put (C : Cx x M) {a i idx ci N : Nat} {fs : List (Option (Option Nat))} {Cn : String} {T : u_T} {u : Int32} {ty : FieldType} (ty0 : Nat → FieldType) (hdg : decode M.2.1 pc = .ok (.putfield idx, 3)) (ha : a < 165) (hsh : xSH a = .inl (ci, fs)) (hf : fs[i]? = some none) (hc : vwCl[ci]? = some (Cn, T, N)) (hi : i < N) (hin : ∀ w ∈ u_ws Cn T N, w ∈ M.2.2.2.2.1) (hty : ∀ k, k < N → parseFieldDescriptor (T k).2.2.1 = some (ty0 k)) (hnm : ∀ a, a < N → ∀ b, b < N → a ≠ b → (T a).2.1 ≠ (T b).2.1) (hfin : (T i).2.2.2 = false) (hd : parseFieldDescriptor (T i).2.2.1 = some ty) (hn : narrow ty (.int u) = .int u) (hfit : fits ty (.int u) = true) (hlink : Cond.fieldLink M.1.cls idx (T i).1 (T i).2.1 (T i).2.2.1 ∈ M.2.2.2.2.1) (kk : Y x (pc + 3) L st (ups σ a (upd (σ a) i u)) τ k n Z) : Y x pc L (.int u :: .ref a :: st) σ τ k n Z := by
  obtain ⟨p, l, e, R, s, m, args, below, meth, c, bs, D, cA⟩ := x
  obtain ⟨hx, hb, hr, hml, hown, hts, hlk, hK, hR, hst, hsz⟩ := C
  intro H locs ls hP hS hL
  have he := xws_get (σ := σ) (τ := τ) (bs := bs) (cA := cA) ha
  rw [hsh] at he
  have hlen : i < fs.length := (List.getElem?_eq_some_iff.mp hf).1
  refine va_put (D := D) (ci := ci) (v := .int u) (ty := ty) hx hb hts hin ty0 hty hnm hown hK hP xws_D hS a he hc i hi (hts _ hlink) (fun _ h9 => h9) hfin hd hn hfit (by simpa using hlen) hdg (fun H1 locs1 hP1 hD1 hS1 => ?_)
  have h9 : (xws σ τ bs cA).set a (bs + a, .inr (ci, (fs.mapIdx (fun i f => xFld σ τ bs a i f)).set i (.int u))) = xws (ups σ a (upd (σ a) i u)) τ bs cA := by
    rw [← xws_set (k := a) (σ := σ) (τ := τ) (fun q hq => ups_ne hq) (fun _ _ => rfl), hsh]
    congr 3
    show (ci, _) = (ci, fs.mapIdx (fun j f => xFld (ups σ a (upd (σ a) i u)) τ bs a j f))
    congr 1
    apply List.ext_getElem?
    intro j
    rw [List.getElem?_set, List.getElem?_mapIdx, List.getElem?_mapIdx]
    by_cases e : i = j
    · subst e
      rw [if_pos rfl, hf]
      simp [hlen, xFld, ups_eq, upd]
    · rw [if_neg e]
      cases hj : fs[j]? with
      | none => rfl
      | some f =>
        have e2 : ¬ j = i := fun q => e q.symm
        simp only [Option.map_some, Option.some.injEq]
        unfold xFld
        rw [ups_eq]
        simp [upd, e2]
  exact kk H1 locs1 ls (h9 ▸ hP1) hS1 hL
theorem y_putl (C : Cx x M) {a i idx ci N : Nat} {fs : List (Option (Option Nat))} {Cn : String} {T : u_T} {u : Int64} (ty0 : Nat → FieldType) (hdg : decode M.2.1 pc = .ok (.putfield idx, 3)) (ha : a < 165) (hsh : xSH a = .inl (ci, fs)) (hf : fs[i]? = some (some none)) (hc : vwCl[ci]? = some (Cn, T, N)) (hi : i < N) (hin : ∀ w ∈ u_ws Cn T N, w ∈ M.2.2.2.2.1) (hty : ∀ k, k < N → parseFieldDescriptor (T k).2.2.1 = some (ty0 k)) (hnm : ∀ a, a < N → ∀ b, b < N → a ≠ b → (T a).2.1 ≠ (T b).2.1) (hfin : (T i).2.2.2 = false) (hd : parseFieldDescriptor (T i).2.2.1 = some .long) (hlink : Cond.fieldLink M.1.cls idx (T i).1 (T i).2.1 (T i).2.2.1 ∈ M.2.2.2.2.1) (kk : Y x (pc + 3) L st σ (upt τ a (vp_updL (τ a) i u)) k n Z) : Y x pc L (.long u :: .ref a :: st) σ τ k n Z := by
  obtain ⟨p, l, e, R, s, m, args, below, meth, c, bs, D, cA⟩ := x
  obtain ⟨hx, hb, hr, hml, hown, hts, hlk, hK, hR, hst, hsz⟩ := C
  intro H locs ls hP hS hL
  have he := xws_get (σ := σ) (τ := τ) (bs := bs) (cA := cA) ha
  rw [hsh] at he
  have hlen : i < fs.length := (List.getElem?_eq_some_iff.mp hf).1
  refine va_put (D := D) (ci := ci) (v := .long u) (ty := .long) hx hb hts hin ty0 hty hnm hown hK hP xws_D hS a he hc i hi (hts _ hlink) (fun _ h9 => h9) hfin hd rfl rfl (by simpa using hlen) hdg (fun H1 locs1 hP1 hD1 hS1 => ?_)
  have h9 : (xws σ τ bs cA).set a (bs + a, .inr (ci, (fs.mapIdx (fun i f => xFld σ τ bs a i f)).set i (.long u))) = xws σ (upt τ a (vp_updL (τ a) i u)) bs cA := by
    rw [← xws_set (k := a) (σ := σ) (τ := τ) (fun _ _ => rfl) (fun q hq => upt_ne hq), hsh]
    congr 3
    show (ci, _) = (ci, fs.mapIdx (fun j f => xFld σ (upt τ a (vp_updL (τ a) i u)) bs a j f))
    congr 1
    apply List.ext_getElem?
    intro j
    rw [List.getElem?_set, List.getElem?_mapIdx, List.getElem?_mapIdx]
    by_cases e : i = j
    · subst e
      rw [if_pos rfl, hf]
      simp [hlen, xFld, upt_eq, vp_updL]
    · rw [if_neg e]
      cases hj : fs[j]? with
      | none => rfl
      | some f =>
        have e2 : ¬ j = i := fun q => e q.symm
        simp only [Option.map_some, Option.some.injEq]
        unfold xFld
        rw [upt_eq]
        simp [vp_updL, e2]
  exact kk H1 locs1 ls (h9 ▸ hP1) hS1 hL
theorem y_ia (C : Cx x M) {a N : Nat} {i : Int32} (j : Nat) (hdg : decode M.2.1 pc = .ok (.iaload, 1)) (ha : a < 165) (hsh : xSH a = .inr (0, N)) (hN : N < 2 ^ 31) (hi : i = nI j) (hj : j < N) (kk : Y x (pc + 1) L (.int (σ a j) :: st) σ τ k n Z) : Y x pc L (.int i :: .ref a :: st) σ τ k n Z := by
  obtain ⟨p, l, e, R, s, m, args, below, meth, c, bs, D, cA⟩ := x
  obtain ⟨hx, hb, hr, hml, hown, hts, hlk, hK, hR, hst, hsz⟩ := C
  intro H locs ls hP hS hL
  have he := xws_get (σ := σ) (τ := τ) (bs := bs) (cA := cA) ha
  have ht := xtys_get (cA := cA) ha
  rw [hsh] at he ht
  subst hi
  refine va_iald (n := N) (f := σ a) hx hb hK hP a a he ht (vp_in_nI hj hN) hdg ?_
  rw [nI_clamp (by omega)]
  exact kk H locs ls hP hS hL
theorem y_is (C : Cx x M) {a N : Nat} {i u : Int32} (j : Nat) (hdg : decode M.2.1 pc = .ok (.iastore, 1)) (ha : a < 165) (hsh : xSH a = .inr (0, N)) (hN : N < 2 ^ 31) (hi : i = nI j) (hj : j < N) (kk : Y x (pc + 1) L st (ups σ a (upd (σ a) j u)) τ k n Z) : Y x pc L (.int u :: .int i :: .ref a :: st) σ τ k n Z := by
  obtain ⟨p, l, e, R, s, m, args, below, meth, c, bs, D, cA⟩ := x
  obtain ⟨hx, hb, hr, hml, hown, hts, hlk, hK, hR, hst, hsz⟩ := C
  intro H locs ls hP hS hL
  have he := xws_get (σ := σ) (τ := τ) (bs := bs) (cA := cA) ha
  have ht := xtys_get (cA := cA) ha
  rw [hsh] at he ht
  subst hi
  refine va_iast (n := N) (f := σ a) hx hb hK hP xws_D hS a a he ht (vp_in_nI hj hN) hdg (fun H1 locs1 hP1 hD1 hS1 => ?_)
  rw [nI_clamp (by omega)] at hP1
  have h9 : (xws σ τ bs cA).set a (bs + a, .inl (cA a, N, .inl (upd (σ a) j u))) = xws (ups σ a (upd (σ a) j u)) τ bs cA := by
    rw [← xws_set (k := a) (σ := σ) (τ := τ) (fun q hq => ups_ne hq) (fun _ _ => rfl), hsh]
    simp only [xCell, xRow, ups_eq]
  exact kk H1 locs1 ls (h9 ▸ hP1) hS1 hL
theorem y_la (C : Cx x M) {a N : Nat} {i : Int32} (j : Nat) (hdg : decode M.2.1 pc = .ok (.laload, 1)) (ha : a < 165) (hsh : xSH a = .inr (1, N)) (hN : N < 2 ^ 31) (hi : i = nI j) (hj : j < N) (kk : Y x (pc + 1) L (.long (τ a j) :: st) σ τ k n Z) : Y x pc L (.int i :: .ref a :: st) σ τ k n Z := by
  obtain ⟨p, l, e, R, s, m, args, below, meth, c, bs, D, cA⟩ := x
  obtain ⟨hx, hb, hr, hml, hown, hts, hlk, hK, hR, hst, hsz⟩ := C
  intro H locs ls hP hS hL
  have he := xws_get (σ := σ) (τ := τ) (bs := bs) (cA := cA) ha
  have ht := xtys_get (cA := cA) ha
  rw [hsh] at he ht
  subst hi
  refine va_lald (n := N) (f := τ a) hx hb hK hP a a he ht (vp_in_nI hj hN) hdg ?_
  rw [nI_clamp (by omega)]
  exact kk H locs ls hP hS hL
theorem y_ls (C : Cx x M) {a N : Nat} {i : Int32} {u : Int64} (j : Nat) (hdg : decode M.2.1 pc = .ok (.lastore, 1)) (ha : a < 165) (hsh : xSH a = .inr (1, N)) (hN : N < 2 ^ 31) (hi : i = nI j) (hj : j < N) (kk : Y x (pc + 1) L st σ (upt τ a (vp_updL (τ a) j u)) k n Z) : Y x pc L (.long u :: .int i :: .ref a :: st) σ τ k n Z := by
  obtain ⟨p, l, e, R, s, m, args, below, meth, c, bs, D, cA⟩ := x
  obtain ⟨hx, hb, hr, hml, hown, hts, hlk, hK, hR, hst, hsz⟩ := C
  intro H locs ls hP hS hL
  have he := xws_get (σ := σ) (τ := τ) (bs := bs) (cA := cA) ha
  have ht := xtys_get (cA := cA) ha
  rw [hsh] at he ht
  subst hi
  refine va_last (n := N) (f := τ a) hx hb hK hP xws_D hS a a he ht (vp_in_nI hj hN) hdg (fun H1 locs1 hP1 hD1 hS1 => ?_)
  rw [nI_clamp (by omega)] at hP1
  have h9 : (xws σ τ bs cA).set a (bs + a, .inl (cA a, N, .inr (.inl (vp_updL (τ a) j u)))) = xws σ (upt τ a (vp_updL (τ a) j u)) bs cA := by
    rw [← xws_set (k := a) (σ := σ) (τ := τ) (fun _ _ => rfl) (fun q hq => upt_ne hq), hsh]
    simp only [xCell, xRow, upt_eq]
  exact kk H1 locs1 ls (h9 ▸ hP1) hS1 hL
theorem y_alen (C : Cx x M) {a kd N : Nat} (hdg : decode M.2.1 pc = .ok (.arraylength, 1)) (ha : a < 165) (hsh : xSH a = .inr (kd, N)) (kk : Y x (pc + 1) L (.int (nI N) :: st) σ τ k n Z) : Y x pc L (.ref a :: st) σ τ k n Z := by
  obtain ⟨p, l, e, R, s, m, args, below, meth, c, bs, D, cA⟩ := x
  obtain ⟨hx, hb, hr, hml, hown, hts, hlk, hK, hR, hst, hsz⟩ := C
  intro H locs ls hP hS hL
  have he := xws_get (σ := σ) (τ := τ) (bs := bs) (cA := cA) ha
  have ht := xtys_get (cA := cA) ha
  rw [hsh] at he
  exact va_alen hx hb hK hP a a he ht rfl hdg (kk H locs ls hP hS hL)
theorem y_aa (C : Cx x M) {a N : Nat} {i : Int32} (j : Nat) (hdg : decode M.2.1 pc = .ok (.aaload, 1)) (ha : a < 165) (hsh : xSH a = .inr (2, N)) (hN : N < 2 ^ 31) (hi : i = nI j) (hj : j < N) (kk : Y x (pc + 1) L (.ref (57 + 27 * j) :: st) σ τ k n Z) : Y x pc L (.int i :: .ref a :: st) σ τ k n Z := by
  obtain ⟨p, l, e, R, s, m, args, below, meth, c, bs, D, cA⟩ := x
  obtain ⟨hx, hb, hr, hml, hown, hts, hlk, hK, hR, hst, hsz⟩ := C
  intro H locs ls hP hS hL
  have he := xws_get (σ := σ) (τ := τ) (bs := bs) (cA := cA) ha
  have ht := xtys_get (cA := cA) ha
  rw [hsh] at he ht
  subst hi
  refine va_aldq (n := N) (f := fun i => some (bs + (57 + 27 * i))) hx hb hK hP a a he ht (vp_in_nI hj hN) hdg ?_
  rw [nI_clamp (by omega)]
  exact kk H locs ls hP hS hL
theorem y_iret (C : Cx x M) {v : Int32} {Q : Int32 → xS → xT → Prop} (hrt : M.2.2.2.1 = some .int) (hdg : decode M.2.1 pc = .ok (.ireturn, 1)) (hQ : Q v σ τ) : Y x pc L [.int v] σ τ 0 0 (xEi x Q) := by
  obtain ⟨p, l, e, R, s, m, args, below, meth, c, bs, D, cA⟩ := x
  obtain ⟨hx, hb, hr, hml, hown, hts, hlk, hK, hR, hst, hsz⟩ := C
  intro H locs ls hP hS hL
  exact W.iret hx hb (hr.trans hrt) (fun t ht hW => ⟨⟨v, (σ, τ), rfl, hQ, by show va_P D vwCl (xws σ τ bs cA) t.heap; rw [ht]; exact hP⟩, hS.F ht⟩) hS.2.2 hdg hlk
theorem y_zret (C : Cx x M) {v : Int32} {Q : Int32 → xS → xT → Prop} (hrt : M.2.2.2.1 = some .boolean) (hdg : decode M.2.1 pc = .ok (.ireturn, 1)) (hv : v = 0 ∨ v = 1) (hQ : Q v σ τ) : Y x pc L [.int v] σ τ 0 0 (xEi x Q) := by
  obtain ⟨p, l, e, R, s, m, args, below, meth, c, bs, D, cA⟩ := x
  obtain ⟨hx, hb, hr, hml, hown, hts, hlk, hK, hR, hst, hsz⟩ := C
  intro H locs ls hP hS hL
  exact W.zret hx hb (hr.trans hrt) (by rcases hv with rfl | rfl <;> rfl) (fun t ht hW => ⟨⟨v, (σ, τ), rfl, hQ, by show va_P D vwCl (xws σ τ bs cA) t.heap; rw [ht]; exact hP⟩, hS.F ht⟩) hS.2.2 hdg hlk
theorem y_lret (C : Cx x M) {v : Int64} {Q : Int64 → xS → xT → Prop} (hrt : M.2.2.2.1 = some .long) (hdg : decode M.2.1 pc = .ok (.lreturn, 1)) (hQ : Q v σ τ) : Y x pc L [.long v] σ τ 0 0 (xEl x Q) := by
  obtain ⟨p, l, e, R, s, m, args, below, meth, c, bs, D, cA⟩ := x
  obtain ⟨hx, hb, hr, hml, hown, hts, hlk, hK, hR, hst, hsz⟩ := C
  intro H locs ls hP hS hL
  exact W.lret hx hb (hr.trans hrt) (fun t ht hW => ⟨⟨v, (σ, τ), rfl, hQ, by show va_P D vwCl (xws σ τ bs cA) t.heap; rw [ht]; exact hP⟩, hS.F ht⟩) hS.2.2 hdg hlk
theorem y_vret (C : Cx x M) {Q : xS → xT → Prop} (hrt : M.2.2.2.1 = none) (hdg : decode M.2.1 pc = .ok (.return_, 1)) (hQ : Q σ τ) : Y x pc L [] σ τ 0 0 (xEv x Q) := by
  obtain ⟨p, l, e, R, s, m, args, below, meth, c, bs, D, cA⟩ := x
  obtain ⟨hx, hb, hr, hml, hown, hts, hlk, hK, hR, hst, hsz⟩ := C
  intro H locs ls hP hS hL
  exact W.vret hx hb (hr.trans hrt) (fun t ht hW => ⟨⟨(σ, τ), rfl, hQ, by show va_P D vwCl (xws σ τ bs cA) t.heap; rw [ht]; exact hP⟩, hS.F ht⟩) hS.2.2 hdg hlk
theorem y_aret (C : Cx x M) {a : Nat} {nm : String} {Q : Nat → xS → xT → Prop} (hrt : M.2.2.2.1 = some (.object nm)) (hdg : decode M.2.1 pc = .ok (.areturn, 1)) (hQ : Q a σ τ) : Y x pc L [.ref a] σ τ 0 0 (xEr x Q) := by
  obtain ⟨p, l, e, R, s, m, args, below, meth, c, bs, D, cA⟩ := x
  obtain ⟨hx, hb, hr, hml, hown, hts, hlk, hK, hR, hst, hsz⟩ := C
  intro H locs ls hP hS hL
  exact W.aret hx hb (hr.trans hrt) (Or.inl ⟨_, rfl⟩) (Or.inr ⟨_, rfl⟩) (fun t ht hW => ⟨⟨(a, σ, τ), bs + a, rfl, hQ, rfl, by show va_P D vwCl (xws σ τ bs cA) t.heap; rw [ht]; exact hP⟩, hS.F ht⟩) hS.2.2 hdg hlk
theorem y_mmin (C : Cx x M) {idx : Nat} {u v : Int32} (hdg : decode M.2.1 pc = .ok (.invokestatic idx, 3)) (hl : Cond.methodLink M.1.cls idx Lib.Math.min.name ∈ M.2.2.2.2.1) (hs : Cond.static Lib.Math.min.name ∈ M.2.2.2.2.1) (hi : Cond.initialized "java/lang/Math" ∈ M.2.2.2.2.1) (hc : Cond.code Lib.Math.min.name Lib.Math.min.code 2 (some .int) ∈ M.2.2.2.2.1) (hLn : L.length = M.2.2.1) (hf : 1 ≤ M.2.2.2.2.2.frames) (hlo : (st.map fun v => v.category).sum + 13 ≤ M.2.2.2.2.2.locals) (hkn : k ≤ M.2.2.2.2.2.cells ∧ n ≤ M.2.2.2.2.2.slots) (kk : Y x (pc + 3) L (.int (if v < u then v else u) :: st) σ τ k n Z) : Y x pc L (.int v :: .int u :: st) σ τ k n Z := by
  obtain ⟨p, l, e, R, s, m, args, below, meth, c, bs, D, cA⟩ := x
  obtain ⟨hx, hb, hr, hml, hown, hts, hlk, hK, hR, hst, hsz⟩ := C
  intro H locs ls hP hS hL
  subst hR
  refine va_mmin hx hb (hml.trans (hLn.symm.trans hL.1.symm)) hown (hts _ hl) (hts _ hs) (hts _ hi) (hts _ hc) hf (by rw [List.map_map, xcat_map]; exact hlo) hkn.1 hkn.2 hdg ?_
  exact kk H locs ls hP hS hL
theorem y_mmax (C : Cx x M) {idx : Nat} {u v : Int32} (hdg : decode M.2.1 pc = .ok (.invokestatic idx, 3)) (hl : Cond.methodLink M.1.cls idx Lib.Math.max.name ∈ M.2.2.2.2.1) (hs : Cond.static Lib.Math.max.name ∈ M.2.2.2.2.1) (hi : Cond.initialized "java/lang/Math" ∈ M.2.2.2.2.1) (hc : Cond.code Lib.Math.max.name Lib.Math.max.code 2 (some .int) ∈ M.2.2.2.2.1) (hLn : L.length = M.2.2.1) (hf : 1 ≤ M.2.2.2.2.2.frames) (hlo : (st.map fun v => v.category).sum + 13 ≤ M.2.2.2.2.2.locals) (hkn : k ≤ M.2.2.2.2.2.cells ∧ n ≤ M.2.2.2.2.2.slots) (kk : Y x (pc + 3) L (.int (if u < v then v else u) :: st) σ τ k n Z) : Y x pc L (.int v :: .int u :: st) σ τ k n Z := by
  obtain ⟨p, l, e, R, s, m, args, below, meth, c, bs, D, cA⟩ := x
  obtain ⟨hx, hb, hr, hml, hown, hts, hlk, hK, hR, hst, hsz⟩ := C
  intro H locs ls hP hS hL
  subst hR
  refine va_mmax hx hb (hml.trans (hLn.symm.trans hL.1.symm)) hown (hts _ hl) (hts _ hs) (hts _ hi) (hts _ hc) hf (by rw [List.map_map, xcat_map]; exact hlo) hkn.1 hkn.2 hdg ?_
  exact kk H locs ls hP hS hL
theorem y_copy (C : Cx x M) {idx a a' N : Nat} {c : Int32} (j : Nat) (hdg : decode M.2.1 pc = .ok (.invokestatic idx, 3)) (hl : Cond.methodLink M.1.cls idx arraycopyName ∈ M.2.2.2.2.1) (hna : Cond.native arraycopyName ∈ M.2.2.2.2.1) (hs : Cond.static arraycopyName ∈ M.2.2.2.2.1) (hi : Cond.initialized "java/lang/System" ∈ M.2.2.2.2.1) (hLn : L.length = M.2.2.1) (hf : 1 ≤ M.2.2.2.2.2.frames) (hlo : (st.map fun v => v.category).sum + (nativeFrameWords "java/lang/System" "arraycopy" 5 + 11) ≤ M.2.2.2.2.2.locals) (ha : a < 165) (ha' : a' < 165) (hsh : xSH a = .inr (0, N)) (hsh' : xSH a' = .inr (0, N)) (hN : N < 2 ^ 31) (hc : c = nI j) (hj : j ≤ N) (kk : Y x (pc + 3) L st (ups σ a' (va_cpy (σ a) (σ a') 0 0 j)) τ k n Z) : Y x pc L (.int c :: .int 0 :: .ref a' :: .int 0 :: .ref a :: st) σ τ k n Z := by
  obtain ⟨p, l, e, R, s, m, args, below, meth, c, bs, D, cA⟩ := x
  obtain ⟨hx, hb, hr, hml, hown, hts, hlk, hK, hR, hst, hsz⟩ := C
  intro H locs ls hP hS hL
  subst hR
  have he := xws_get (σ := σ) (τ := τ) (bs := bs) (cA := cA) ha
  have ht := xtys_get (cA := cA) ha
  have he' := xws_get (σ := σ) (τ := τ) (bs := bs) (cA := cA) ha'
  have ht' := xtys_get (cA := cA) ha'
  rw [hsh] at he ht
  rw [hsh'] at he' ht'
  subst hc
  have hz : (0 : Int32).toNatClampNeg = 0 := by decide
  have hq : (nI j).toNatClampNeg = j := nI_clamp (by omega)
  refine va_copyi (n0 := N) (n1 := N) (f := σ a) (g := σ a') (ty := .int) hx hb (hml.trans (hLn.symm.trans hL.1.symm)) hown (hts _ hl) (hts _ hna) (hts _ hs) (hts _ hi) hK hP xws_D hS a a' a a' he he' ht ht' rfl (by decide) (by decide) (nI_pos (by omega)) (by rw [hz, hq]; omega) (by rw [hz, hq]; omega) (fun _ _ => rfl) hf (by rw [List.map_map, xcat_map]; exact hlo) hdg (fun H1 locs1 hP1 hD1 hS1 => ?_)
  rw [hz, hq] at hP1
  have h9 : (xws σ τ bs cA).set a' (bs + a', .inl (cA a', N, .inl (va_cpy (σ a) (σ a') 0 0 j))) = xws (ups σ a' (va_cpy (σ a) (σ a') 0 0 j)) τ bs cA := by
    rw [← xws_set (k := a') (σ := σ) (τ := τ) (fun q hq => ups_ne hq) (fun _ _ => rfl), hsh']
    simp only [xCell, xRow, ups_eq]
  exact kk H1 locs1 ls (h9 ▸ hP1) hS1 hL
theorem xStat.same {bs : Nat} {u U : State} (h : xStat bs u) (hvm : U.vm = u.vm) (hh : U.heap = u.heap) : xStat bs U := by
  have hal : u.vm.Alike U.vm := by rw [hvm]; exact Vm.Alike.refl _
  have hq : ∀ (P : Nat → Prop) (a : Nat), a < u.heap.size → P a → U.heap[a]? = u.heap[a]? := fun _ a _ _ => by rw [hh]
  obtain ⟨h1, ⟨t0, h2, h3⟩, ⟨t1, h4, h5⟩, h6, h7, h8⟩ := h
  refine ⟨fun q hq => va_Nw.same rfl hvm.symm (h1 q hq), ⟨t0, (h2.moved hal).kept (hq _), (h3.moved hal).kept (hq _)⟩, ⟨t1, (h4.moved hal).kept (hq _), (h5.moved hal).kept (hq _)⟩, (h6.moved hal).kept (hq _), (h7.moved hal).kept (hq _), fun q hq => ?_⟩
  obtain ⟨sa, h9⟩ := h8 q hq
  exact ⟨sa, vk_R.same hvm h9⟩
theorem xblind {bs : Nat} {D : va_G} {cA : Nat → ClassId} {av : List Value} : FrameBlind (va_Pc av (fun U => xRep bs D cA σ τ U)) := by
  intro a U g mk q
  obtain ⟨q0, q1, q2, q3⟩ := q
  exact ⟨q0, q1, va_K.moved (u := U) (U := U.calling g mk a) (Vm.Alike.refl U.vm) q2, xStat.same (u := U) (U := U.calling g mk a) q3 rfl rfl⟩
/-- the cell a holds an object of the class C -/
def xIs (C : String) (a : Nat) : Prop := ∃ (ci : Nat) (fs : List (Option (Option Nat))) (T : u_T) (N : Nat), a < 165 ∧ xSH a = .inl (ci, fs) ∧ vwCl[ci]? = some (C, T, N)
theorem y_callVi (C : Cx x M) {M2 : xM} {as rest : List Value} {Q : Int32 → xS → xT → Prop} {idx b : Nat} {ws' : List Cond} (hX : Xi M2 (.ref b :: as) σ τ Q) (hdg : decode M.2.1 pc = .ok (.invokevirtual idx, 3)) (hst0 : st = as.reverse ++ (.ref b :: rest)) (hG : GoodIn M.2.2.2.2.1 (wsV M.1.cls idx M2.1.cls M2.1 M2.2.2.2.2.1)) (hw : M2.2.2.2.2.1 = Cond.code M2.1 M2.2.1 M2.2.2.1 M2.2.2.2.1 :: ws') (hrc : xIs M2.1.cls b) (hd : M2.1.cls = M2.1.cls ∧ M2.1.cls ≠ "java/lang/invoke/MethodHandle" ∧ M2.1.cls ≠ "java/lang/invoke/VarHandle" ∧ (parseMethodDescriptor M2.1.desc).map (fun d => d.parameters.length) = some as.length) (hrm : M2.2.2.2.2.2.cells = 0 ∧ M2.2.2.2.2.2.slots = 0) (hRM : M2.2.2.2.2.2.frames + 1 ≤ M.2.2.2.2.2.frames ∧ 8 + (M2.2.2.1 + 11) + M2.2.2.2.2.2.locals ≤ M.2.2.2.2.2.locals) (hLn : L.length = M.2.2.1) (hro : (rest.map fun v => v.category).sum ≤ 8) (hkn : k ≤ M.2.2.2.2.2.cells ∧ n ≤ M.2.2.2.2.2.slots) (kk : ∀ (r : Int32) (σ1 : xS) (τ1 : xT), Q r σ1 τ1 → Y x (pc + 3) L (.int r :: rest) σ1 τ1 k n Z) : Y x pc L st σ τ k n Z := by
  obtain ⟨p, l, e, R, s, m, args, below, meth, c, bs, D, cA⟩ := x
  obtain ⟨hx, hb, hr, hml, hown, hts, hlk, hK, hR, hst, hsz⟩ := C
  intro H locs ls hP hS hL
  subst hR
  have hst1 : st.map (xv bs) = (as.map (xv bs)).reverse ++ (.ref (bs + b) :: rest.map (xv bs)) := by rw [hst0]; simp [xv]
  rw [hst1]
  obtain ⟨ci, fs, T, N, hb1, hb2, hb3⟩ := hrc
  have he := xws_get (σ := σ) (τ := τ) (bs := bs) (cA := cA) hb1
  rw [hb2] at he
  refine va_calli (va_runV (nL := M.2.2.1) (As := as.map (xv bs)) (rest := rest.map (xv bs)) ⟨hx, hb, hml, hown, hts⟩ (hX l bs D cA) (cwV as.length hts hG hw hrm.1 hrm.2 hd hRM) ⟨xblind, va_recv hK hP hb3 he, fun U hU hW => ⟨rfl, by rw [hU]; exact hP, va_K.moved hW.alike hK, hst.move hS hU hW⟩⟩ rfl (by simp) (hL.1.trans hLn) rfl (lv_room (by rw [List.map_map, xcat_map]; exact hro)) hdg hkn) hS (fun q _ h => h) (fun q h => h) (fun r u t H1 locs1 ht _ hpost hB _ _ hS1 => kk r u.1 u.2 hpost H1 locs1 ls (ht ▸ hB) hS1 hL)
theorem y_callVv (C : Cx x M) {M2 : xM} {as rest : List Value} {Q : xS → xT → Prop} {idx b : Nat} {ws' : List Cond} (hX : Xv M2 (.ref b :: as) σ τ Q) (hdg : decode M.2.1 pc = .ok (.invokevirtual idx, 3)) (hst0 : st = as.reverse ++ (.ref b :: rest)) (hG : GoodIn M.2.2.2.2.1 (wsV M.1.cls idx M2.1.cls M2.1 M2.2.2.2.2.1)) (hw : M2.2.2.2.2.1 = Cond.code M2.1 M2.2.1 M2.2.2.1 M2.2.2.2.1 :: ws') (hrc : xIs M2.1.cls b) (hd : M2.1.cls = M2.1.cls ∧ M2.1.cls ≠ "java/lang/invoke/MethodHandle" ∧ M2.1.cls ≠ "java/lang/invoke/VarHandle" ∧ (parseMethodDescriptor M2.1.desc).map (fun d => d.parameters.length) = some as.length) (hrm : M2.2.2.2.2.2.cells = 0 ∧ M2.2.2.2.2.2.slots = 0) (hRM : M2.2.2.2.2.2.frames + 1 ≤ M.2.2.2.2.2.frames ∧ 8 + (M2.2.2.1 + 11) + M2.2.2.2.2.2.locals ≤ M.2.2.2.2.2.locals) (hLn : L.length = M.2.2.1) (hro : (rest.map fun v => v.category).sum ≤ 8) (hkn : k ≤ M.2.2.2.2.2.cells ∧ n ≤ M.2.2.2.2.2.slots) (kk : ∀ (σ1 : xS) (τ1 : xT), Q σ1 τ1 → Y x (pc + 3) L rest σ1 τ1 k n Z) : Y x pc L st σ τ k n Z := by
  obtain ⟨p, l, e, R, s, m, args, below, meth, c, bs, D, cA⟩ := x
  obtain ⟨hx, hb, hr, hml, hown, hts, hlk, hK, hR, hst, hsz⟩ := C
  intro H locs ls hP hS hL
  subst hR
  have hst1 : st.map (xv bs) = (as.map (xv bs)).reverse ++ (.ref (bs + b) :: rest.map (xv bs)) := by rw [hst0]; simp [xv]
  rw [hst1]
  obtain ⟨ci, fs, T, N, hb1, hb2, hb3⟩ := hrc
  have he := xws_get (σ := σ) (τ := τ) (bs := bs) (cA := cA) hb1
  rw [hb2] at he
  refine va_callv (va_runV (nL := M.2.2.1) (As := as.map (xv bs)) (rest := rest.map (xv bs)) ⟨hx, hb, hml, hown, hts⟩ (hX l bs D cA) (cwV as.length hts hG hw hrm.1 hrm.2 hd hRM) ⟨xblind, va_recv hK hP hb3 he, fun U hU hW => ⟨rfl, by rw [hU]; exact hP, va_K.moved hW.alike hK, hst.move hS hU hW⟩⟩ rfl (by simp) (hL.1.trans hLn) rfl (lv_room (by rw [List.map_map, xcat_map]; exact hro)) hdg hkn) hS (fun q _ h => h) (fun q h => h) (fun u t H1 locs1 ht _ hpost hB _ _ hS1 => kk u.1 u.2 hpost H1 locs1 ls (ht ▸ hB) hS1 hL)
theorem y_callVl (C : Cx x M) {M2 : xM} {as rest : List Value} {Q : Int64 → xS → xT → Prop} {idx b : Nat} {ws' : List Cond} (hX : Xl M2 (.ref b :: as) σ τ Q) (hdg : decode M.2.1 pc = .ok (.invokevirtual idx, 3)) (hst0 : st = as.reverse ++ (.ref b :: rest)) (hG : GoodIn M.2.2.2.2.1 (wsV M.1.cls idx M2.1.cls M2.1 M2.2.2.2.2.1)) (hw : M2.2.2.2.2.1 = Cond.code M2.1 M2.2.1 M2.2.2.1 M2.2.2.2.1 :: ws') (hrc : xIs M2.1.cls b) (hd : M2.1.cls = M2.1.cls ∧ M2.1.cls ≠ "java/lang/invoke/MethodHandle" ∧ M2.1.cls ≠ "java/lang/invoke/VarHandle" ∧ (parseMethodDescriptor M2.1.desc).map (fun d => d.parameters.length) = some as.length) (hrm : M2.2.2.2.2.2.cells = 0 ∧ M2.2.2.2.2.2.slots = 0) (hRM : M2.2.2.2.2.2.frames + 1 ≤ M.2.2.2.2.2.frames ∧ 8 + (M2.2.2.1 + 11) + M2.2.2.2.2.2.locals ≤ M.2.2.2.2.2.locals) (hLn : L.length = M.2.2.1) (hro : (rest.map fun v => v.category).sum ≤ 8) (hkn : k ≤ M.2.2.2.2.2.cells ∧ n ≤ M.2.2.2.2.2.slots) (kk : ∀ (r : Int64) (σ1 : xS) (τ1 : xT), Q r σ1 τ1 → Y x (pc + 3) L (.long r :: rest) σ1 τ1 k n Z) : Y x pc L st σ τ k n Z := by
  obtain ⟨p, l, e, R, s, m, args, below, meth, c, bs, D, cA⟩ := x
  obtain ⟨hx, hb, hr, hml, hown, hts, hlk, hK, hR, hst, hsz⟩ := C
  intro H locs ls hP hS hL
  subst hR
  have hst1 : st.map (xv bs) = (as.map (xv bs)).reverse ++ (.ref (bs + b) :: rest.map (xv bs)) := by rw [hst0]; simp [xv]
  rw [hst1]
  obtain ⟨ci, fs, T, N, hb1, hb2, hb3⟩ := hrc
  have he := xws_get (σ := σ) (τ := τ) (bs := bs) (cA := cA) hb1
  rw [hb2] at he
  refine va_calll (va_runV (nL := M.2.2.1) (As := as.map (xv bs)) (rest := rest.map (xv bs)) ⟨hx, hb, hml, hown, hts⟩ (hX l bs D cA) (cwV as.length hts hG hw hrm.1 hrm.2 hd hRM) ⟨xblind, va_recv hK hP hb3 he, fun U hU hW => ⟨rfl, by rw [hU]; exact hP, va_K.moved hW.alike hK, hst.move hS hU hW⟩⟩ rfl (by simp) (hL.1.trans hLn) rfl (lv_room (by rw [List.map_map, xcat_map]; exact hro)) hdg hkn) hS (fun q _ h => h) (fun q h => h) (fun r u t H1 locs1 ht _ hpost hB _ _ hS1 => kk r u.1 u.2 hpost H1 locs1 ls (ht ▸ hB) hS1 hL)
theorem y_callVr (C : Cx x M) {M2 : xM} {as rest : List Value} {Q : Nat → xS → xT → Prop} {idx b : Nat} {ws' : List Cond} (hX : Xr M2 (.ref b :: as) σ τ Q) (hdg : decode M.2.1 pc = .ok (.invokevirtual idx, 3)) (hst0 : st = as.reverse ++ (.ref b :: rest)) (hG : GoodIn M.2.2.2.2.1 (wsV M.1.cls idx M2.1.cls M2.1 M2.2.2.2.2.1)) (hw : M2.2.2.2.2.1 = Cond.code M2.1 M2.2.1 M2.2.2.1 M2.2.2.2.1 :: ws') (hrc : xIs M2.1.cls b) (hd : M2.1.cls = M2.1.cls ∧ M2.1.cls ≠ "java/lang/invoke/MethodHandle" ∧ M2.1.cls ≠ "java/lang/invoke/VarHandle" ∧ (parseMethodDescriptor M2.1.desc).map (fun d => d.parameters.length) = some as.length) (hrm : M2.2.2.2.2.2.cells = 0 ∧ M2.2.2.2.2.2.slots = 0) (hRM : M2.2.2.2.2.2.frames + 1 ≤ M.2.2.2.2.2.frames ∧ 8 + (M2.2.2.1 + 11) + M2.2.2.2.2.2.locals ≤ M.2.2.2.2.2.locals) (hLn : L.length = M.2.2.1) (hro : (rest.map fun v => v.category).sum ≤ 8) (hkn : k ≤ M.2.2.2.2.2.cells ∧ n ≤ M.2.2.2.2.2.slots) (kk : ∀ (r : Nat) (σ1 : xS) (τ1 : xT), Q r σ1 τ1 → Y x (pc + 3) L (.ref r :: rest) σ1 τ1 k n Z) : Y x pc L st σ τ k n Z := by
  obtain ⟨p, l, e, R, s, m, args, below, meth, c, bs, D, cA⟩ := x
  obtain ⟨hx, hb, hr, hml, hown, hts, hlk, hK, hR, hst, hsz⟩ := C
  intro H locs ls hP hS hL
  subst hR
  have hst1 : st.map (xv bs) = (as.map (xv bs)).reverse ++ (.ref (bs + b) :: rest.map (xv bs)) := by rw [hst0]; simp [xv]
  rw [hst1]
  obtain ⟨ci, fs, T, N, hb1, hb2, hb3⟩ := hrc
  have he := xws_get (σ := σ) (τ := τ) (bs := bs) (cA := cA) hb1
  rw [hb2] at he
  refine va_callr (va_runV (nL := M.2.2.1) (As := as.map (xv bs)) (rest := rest.map (xv bs)) ⟨hx, hb, hml, hown, hts⟩ (hX l bs D cA) (cwV as.length hts hG hw hrm.1 hrm.2 hd hRM) ⟨xblind, va_recv hK hP hb3 he, fun U hU hW => ⟨rfl, by rw [hU]; exact hP, va_K.moved hW.alike hK, hst.move hS hU hW⟩⟩ rfl (by simp) (hL.1.trans hLn) rfl (lv_room (by rw [List.map_map, xcat_map]; exact hro)) hdg hkn) hS (fun q _ h => h) (fun q h => h) (fun u ra t H1 locs1 ht _ hpost hB _ _ hS1 => by obtain ⟨rfl, hB⟩ := hB; exact kk u.1 u.2.1 u.2.2 hpost H1 locs1 ls (ht ▸ hB) hS1 hL)
theorem y_callSi (C : Cx x M) {M2 : xM} {as rest : List Value} {Q : Int32 → xS → xT → Prop} {idx : Nat} {ws' : List Cond} (hX : Xi M2 as σ τ Q) (hdg : decode M.2.1 pc = .ok (.invokestatic idx, 3)) (hst0 : st = as.reverse ++ rest) (hG : GoodIn M.2.2.2.2.1 (va_wsS M.1.cls idx M2.1 M2.2.2.2.2.1)) (hw : M2.2.2.2.2.1 = Cond.code M2.1 M2.2.1 M2.2.2.1 M2.2.2.2.1 :: ws') (hd : M2.1.cls ≠ "java/lang/invoke/MethodHandle" ∧ M2.1.cls ≠ "java/lang/invoke/VarHandle" ∧ (parseMethodDescriptor M2.1.desc).map (fun d => d.parameters.length) = some as.length) (hrm : M2.2.2.2.2.2.cells = 0 ∧ M2.2.2.2.2.2.slots = 0) (hRM : M2.2.2.2.2.2.frames + 1 ≤ M.2.2.2.2.2.frames ∧ 8 + (M2.2.2.1 + 11) + M2.2.2.2.2.2.locals ≤ M.2.2.2.2.2.locals) (hLn : L.length = M.2.2.1) (hro : (rest.map fun v => v.category).sum ≤ 8) (hkn : k ≤ M.2.2.2.2.2.cells ∧ n ≤ M.2.2.2.2.2.slots) (kk : ∀ (r : Int32) (σ1 : xS) (τ1 : xT), Q r σ1 τ1 → Y x (pc + 3) L (.int r :: rest) σ1 τ1 k n Z) : Y x pc L st σ τ k n Z := by
  obtain ⟨p, l, e, R, s, m, args, below, meth, c, bs, D, cA⟩ := x
  obtain ⟨hx, hb, hr, hml, hown, hts, hlk, hK, hR, hst, hsz⟩ := C
  intro H locs ls hP hS hL
  subst hR
  have hst1 : st.map (xv bs) = (as.map (xv bs)).reverse ++ rest.map (xv bs) := by rw [hst0]; simp [xv]
  rw [hst1]
  refine va_calli (va_runS (nL := M.2.2.1) (As := as.map (xv bs)) (rest := rest.map (xv bs)) ⟨hx, hb, hml, hown, hts⟩ (hX l bs D cA) (va_cwS as.length hts hG hw hrm.1 hrm.2 hd hRM) ⟨xblind, fun U hU hW => ⟨rfl, by rw [hU]; exact hP, va_K.moved hW.alike hK, hst.move hS hU hW⟩⟩ rfl (by simp) (hL.1.trans hLn) rfl (lv_room (by rw [List.map_map, xcat_map]; exact hro)) hdg hkn) hS (fun q _ h => h) (fun q h => h) (fun r u t H1 locs1 ht _ hpost hB _ _ hS1 => kk r u.1 u.2 hpost H1 locs1 ls (ht ▸ hB) hS1 hL)
theorem y_callSv (C : Cx x M) {M2 : xM} {as rest : List Value} {Q : xS → xT → Prop} {idx : Nat} {ws' : List Cond} (hX : Xv M2 as σ τ Q) (hdg : decode M.2.1 pc = .ok (.invokestatic idx, 3)) (hst0 : st = as.reverse ++ rest) (hG : GoodIn M.2.2.2.2.1 (va_wsS M.1.cls idx M2.1 M2.2.2.2.2.1)) (hw : M2.2.2.2.2.1 = Cond.code M2.1 M2.2.1 M2.2.2.1 M2.2.2.2.1 :: ws') (hd : M2.1.cls ≠ "java/lang/invoke/MethodHandle" ∧ M2.1.cls ≠ "java/lang/invoke/VarHandle" ∧ (parseMethodDescriptor M2.1.desc).map (fun d => d.parameters.length) = some as.length) (hrm : M2.2.2.2.2.2.cells = 0 ∧ M2.2.2.2.2.2.slots = 0) (hRM : M2.2.2.2.2.2.frames + 1 ≤ M.2.2.2.2.2.frames ∧ 8 + (M2.2.2.1 + 11) + M2.2.2.2.2.2.locals ≤ M.2.2.2.2.2.locals) (hLn : L.length = M.2.2.1) (hro : (rest.map fun v => v.category).sum ≤ 8) (hkn : k ≤ M.2.2.2.2.2.cells ∧ n ≤ M.2.2.2.2.2.slots) (kk : ∀ (σ1 : xS) (τ1 : xT), Q σ1 τ1 → Y x (pc + 3) L rest σ1 τ1 k n Z) : Y x pc L st σ τ k n Z := by
  obtain ⟨p, l, e, R, s, m, args, below, meth, c, bs, D, cA⟩ := x
  obtain ⟨hx, hb, hr, hml, hown, hts, hlk, hK, hR, hst, hsz⟩ := C
  intro H locs ls hP hS hL
  subst hR
  have hst1 : st.map (xv bs) = (as.map (xv bs)).reverse ++ rest.map (xv bs) := by rw [hst0]; simp [xv]
  rw [hst1]
  refine va_callv (va_runS (nL := M.2.2.1) (As := as.map (xv bs)) (rest := rest.map (xv bs)) ⟨hx, hb, hml, hown, hts⟩ (hX l bs D cA) (va_cwS as.length hts hG hw hrm.1 hrm.2 hd hRM) ⟨xblind, fun U hU hW => ⟨rfl, by rw [hU]; exact hP, va_K.moved hW.alike hK, hst.move hS hU hW⟩⟩ rfl (by simp) (hL.1.trans hLn) rfl (lv_room (by rw [List.map_map, xcat_map]; exact hro)) hdg hkn) hS (fun q _ h => h) (fun q h => h) (fun u t H1 locs1 ht _ hpost hB _ _ hS1 => kk u.1 u.2 hpost H1 locs1 ls (ht ▸ hB) hS1 hL)
theorem y_callSl (C : Cx x M) {M2 : xM} {as rest : List Value} {Q : Int64 → xS → xT → Prop} {idx : Nat} {ws' : List Cond} (hX : Xl M2 as σ τ Q) (hdg : decode M.2.1 pc = .ok (.invokestatic idx, 3)) (hst0 : st = as.reverse ++ rest) (hG : GoodIn M.2.2.2.2.1 (va_wsS M.1.cls idx M2.1 M2.2.2.2.2.1)) (hw : M2.2.2.2.2.1 = Cond.code M2.1 M2.2.1 M2.2.2.1 M2.2.2.2.1 :: ws') (hd : M2.1.cls ≠ "java/lang/invoke/MethodHandle" ∧ M2.1.cls ≠ "java/lang/invoke/VarHandle" ∧ (parseMethodDescriptor M2.1.desc).map (fun d => d.parameters.length) = some as.length) (hrm : M2.2.2.2.2.2.cells = 0 ∧ M2.2.2.2.2.2.slots = 0) (hRM : M2.2.2.2.2.2.frames + 1 ≤ M.2.2.2.2.2.frames ∧ 8 + (M2.2.2.1 + 11) + M2.2.2.2.2.2.locals ≤ M.2.2.2.2.2.locals) (hLn : L.length = M.2.2.1) (hro : (rest.map fun v => v.category).sum ≤ 8) (hkn : k ≤ M.2.2.2.2.2.cells ∧ n ≤ M.2.2.2.2.2.slots) (kk : ∀ (r : Int64) (σ1 : xS) (τ1 : xT), Q r σ1 τ1 → Y x (pc + 3) L (.long r :: rest) σ1 τ1 k n Z) : Y x pc L st σ τ k n Z := by
  obtain ⟨p, l, e, R, s, m, args, below, meth, c, bs, D, cA⟩ := x
  obtain ⟨hx, hb, hr, hml, hown, hts, hlk, hK, hR, hst, hsz⟩ := C
  intro H locs ls hP hS hL
  subst hR
  have hst1 : st.map (xv bs) = (as.map (xv bs)).reverse ++ rest.map (xv bs) := by rw [hst0]; simp [xv]
  rw [hst1]
  refine va_calll (va_runS (nL := M.2.2.1) (As := as.map (xv bs)) (rest := rest.map (xv bs)) ⟨hx, hb, hml, hown, hts⟩ (hX l bs D cA) (va_cwS as.length hts hG hw hrm.1 hrm.2 hd hRM) ⟨xblind, fun U hU hW => ⟨rfl, by rw [hU]; exact hP, va_K.moved hW.alike hK, hst.move hS hU hW⟩⟩ rfl (by simp) (hL.1.trans hLn) rfl (lv_room (by rw [List.map_map, xcat_map]; exact hro)) hdg hkn) hS (fun q _ h => h) (fun q h => h) (fun r u t H1 locs1 ht _ hpost hB _ _ hS1 => kk r u.1 u.2 hpost H1 locs1 ls (ht ▸ hB) hS1 hL)
theorem y_callNi (C : Cx x M) {M2 : xM} {as rest : List Value} {Q : Int32 → xS → xT → Prop} {idx : Nat} {ws' : List Cond} (hX : Xi M2 as σ τ Q) (hdg : decode M.2.1 pc = .ok (.invokestatic idx, 3)) (hst0 : st = as.reverse ++ rest) (hG : GoodIn M.2.2.2.2.1 M2.2.2.2.2.1) (hw : M2.2.2.2.2.1 = Cond.code M2.1 M2.2.1 M2.2.2.1 M2.2.2.2.1 :: ws') (hne : (M.1.cls, idx, M2.1) ∈ xNest) (hini : Cond.initialized M2.1.cls ∈ M.2.2.2.2.1) (hsta : Cond.static M2.1 ∈ M.2.2.2.2.1) (hd : M2.1.cls ≠ "java/lang/invoke/MethodHandle" ∧ M2.1.cls ≠ "java/lang/invoke/VarHandle" ∧ (parseMethodDescriptor M2.1.desc).map (fun d => d.parameters.length) = some as.length) (hrm : M2.2.2.2.2.2.cells = 0 ∧ M2.2.2.2.2.2.slots = 0) (hRM : M2.2.2.2.2.2.frames + 1 ≤ M.2.2.2.2.2.frames ∧ 8 + (M2.2.2.1 + 11) + M2.2.2.2.2.2.locals ≤ M.2.2.2.2.2.locals) (hLn : L.length = M.2.2.1) (hro : (rest.map fun v => v.category).sum ≤ 8) (hkn : k ≤ M.2.2.2.2.2.cells ∧ n ≤ M.2.2.2.2.2.slots) (kk : ∀ (r : Int32) (σ1 : xS) (τ1 : xT), Q r σ1 τ1 → Y x (pc + 3) L (.int r :: rest) σ1 τ1 k n Z) : Y x pc L st σ τ k n Z := by
  obtain ⟨p, l, e, R, s, m, args, below, meth, c, bs, D, cA⟩ := x
  obtain ⟨hx, hb, hr, hml, hown, hts, hlk, hK, hR, hst, hsz⟩ := C
  intro H locs ls hP hS hL
  subst hR
  have hst1 : st.map (xv bs) = (as.map (xv bs)).reverse ++ rest.map (xv bs) := by rw [hst0]; simp [xv]
  rw [hst1]
  refine va_calli (va_runSN (nL := M.2.2.1) (As := as.map (xv bs)) (rest := rest.map (xv bs)) ⟨hx, hb, hml, hown, hts⟩ (hX l bs D cA) ⟨va_cnB as.length hts hG hw hrm.1 hrm.2 (hst.1 _ hne) (hts _ hini) hd hRM, hts _ hsta, trivial⟩ ⟨xblind, fun U hU hW => ⟨rfl, by rw [hU]; exact hP, va_K.moved hW.alike hK, hst.move hS hU hW⟩⟩ rfl (by simp) (hL.1.trans hLn) rfl (lv_room (by rw [List.map_map, xcat_map]; exact hro)) hdg hkn) hS (fun q _ h => h) (fun q h => h) (fun r u t H1 locs1 ht _ hpost hB _ _ hS1 => kk r u.1 u.2 hpost H1 locs1 ls (ht ▸ hB) hS1 hL)
theorem y_callNv (C : Cx x M) {M2 : xM} {as rest : List Value} {Q : xS → xT → Prop} {idx : Nat} {ws' : List Cond} (hX : Xv M2 as σ τ Q) (hdg : decode M.2.1 pc = .ok (.invokestatic idx, 3)) (hst0 : st = as.reverse ++ rest) (hG : GoodIn M.2.2.2.2.1 M2.2.2.2.2.1) (hw : M2.2.2.2.2.1 = Cond.code M2.1 M2.2.1 M2.2.2.1 M2.2.2.2.1 :: ws') (hne : (M.1.cls, idx, M2.1) ∈ xNest) (hini : Cond.initialized M2.1.cls ∈ M.2.2.2.2.1) (hsta : Cond.static M2.1 ∈ M.2.2.2.2.1) (hd : M2.1.cls ≠ "java/lang/invoke/MethodHandle" ∧ M2.1.cls ≠ "java/lang/invoke/VarHandle" ∧ (parseMethodDescriptor M2.1.desc).map (fun d => d.parameters.length) = some as.length) (hrm : M2.2.2.2.2.2.cells = 0 ∧ M2.2.2.2.2.2.slots = 0) (hRM : M2.2.2.2.2.2.frames + 1 ≤ M.2.2.2.2.2.frames ∧ 8 + (M2.2.2.1 + 11) + M2.2.2.2.2.2.locals ≤ M.2.2.2.2.2.locals) (hLn : L.length = M.2.2.1) (hro : (rest.map fun v => v.category).sum ≤ 8) (hkn : k ≤ M.2.2.2.2.2.cells ∧ n ≤ M.2.2.2.2.2.slots) (kk : ∀ (σ1 : xS) (τ1 : xT), Q σ1 τ1 → Y x (pc + 3) L rest σ1 τ1 k n Z) : Y x pc L st σ τ k n Z := by
  obtain ⟨p, l, e, R, s, m, args, below, meth, c, bs, D, cA⟩ := x
  obtain ⟨hx, hb, hr, hml, hown, hts, hlk, hK, hR, hst, hsz⟩ := C
  intro H locs ls hP hS hL
  subst hR
  have hst1 : st.map (xv bs) = (as.map (xv bs)).reverse ++ rest.map (xv bs) := by rw [hst0]; simp [xv]
  rw [hst1]
  refine va_callv (va_runSN (nL := M.2.2.1) (As := as.map (xv bs)) (rest := rest.map (xv bs)) ⟨hx, hb, hml, hown, hts⟩ (hX l bs D cA) ⟨va_cnB as.length hts hG hw hrm.1 hrm.2 (hst.1 _ hne) (hts _ hini) hd hRM, hts _ hsta, trivial⟩ ⟨xblind, fun U hU hW => ⟨rfl, by rw [hU]; exact hP, va_K.moved hW.alike hK, hst.move hS hU hW⟩⟩ rfl (by simp) (hL.1.trans hLn) rfl (lv_room (by rw [List.map_map, xcat_map]; exact hro)) hdg hkn) hS (fun q _ h => h) (fun q h => h) (fun u t H1 locs1 ht _ hpost hB _ _ hS1 => kk u.1 u.2 hpost H1 locs1 ls (ht ▸ hB) hS1 hL)
theorem y_callNl (C : Cx x M) {M2 : xM} {as rest : List Value} {Q : Int64 → xS → xT → Prop} {idx : Nat} {ws' : List Cond} (hX : Xl M2 as σ τ Q) (hdg : decode M.2.1 pc = .ok (.invokestatic idx, 3)) (hst0 : st = as.reverse ++ rest) (hG : GoodIn M.2.2.2.2.1 M2.2.2.2.2.1) (hw : M2.2.2.2.2.1 = Cond.code M2.1 M2.2.1 M2.2.2.1 M2.2.2.2.1 :: ws') (hne : (M.1.cls, idx, M2.1) ∈ xNest) (hini : Cond.initialized M2.1.cls ∈ M.2.2.2.2.1) (hsta : Cond.static M2.1 ∈ M.2.2.2.2.1) (hd : M2.1.cls ≠ "java/lang/invoke/MethodHandle" ∧ M2.1.cls ≠ "java/lang/invoke/VarHandle" ∧ (parseMethodDescriptor M2.1.desc).map (fun d => d.parameters.length) = some as.length) (hrm : M2.2.2.2.2.2.cells = 0 ∧ M2.2.2.2.2.2.slots = 0) (hRM : M2.2.2.2.2.2.frames + 1 ≤ M.2.2.2.2.2.frames ∧ 8 + (M2.2.2.1 + 11) + M2.2.2.2.2.2.locals ≤ M.2.2.2.2.2.locals) (hLn : L.length = M.2.2.1) (hro : (rest.map fun v => v.category).sum ≤ 8) (hkn : k ≤ M.2.2.2.2.2.cells ∧ n ≤ M.2.2.2.2.2.slots) (kk : ∀ (r : Int64) (σ1 : xS) (τ1 : xT), Q r σ1 τ1 → Y x (pc + 3) L (.long r :: rest) σ1 τ1 k n Z) : Y x pc L st σ τ k n Z := by
  obtain ⟨p, l, e, R, s, m, args, below, meth, c, bs, D, cA⟩ := x
  obtain ⟨hx, hb, hr, hml, hown, hts, hlk, hK, hR, hst, hsz⟩ := C
  intro H locs ls hP hS hL
  subst hR
  have hst1 : st.map (xv bs) = (as.map (xv bs)).reverse ++ rest.map (xv bs) := by rw [hst0]; simp [xv]
  rw [hst1]
  refine va_calll (va_runSN (nL := M.2.2.1) (As := as.map (xv bs)) (rest := rest.map (xv bs)) ⟨hx, hb, hml, hown, hts⟩ (hX l bs D cA) ⟨va_cnB as.length hts hG hw hrm.1 hrm.2 (hst.1 _ hne) (hts _ hini) hd hRM, hts _ hsta, trivial⟩ ⟨xblind, fun U hU hW => ⟨rfl, by rw [hU]; exact hP, va_K.moved hW.alike hK, hst.move hS hU hW⟩⟩ rfl (by simp) (hL.1.trans hLn) rfl (lv_room (by rw [List.map_map, xcat_map]; exact hro)) hdg hkn) hS (fun q _ h => h) (fun q h => h) (fun r u t H1 locs1 ht _ hpost hB _ _ hS1 => kk r u.1 u.2 hpost H1 locs1 ls (ht ▸ hB) hS1 hL)
theorem y_join {t : Nat} {v : Value} (K : Y x t L (v :: st) σ τ k n Z) (F : Y x t L (v :: st) σ τ k n Z → Y x pc L st σ τ k n Z) : Y x pc L st σ τ k n Z := F K
theorem y_kE {u v : Int32} (K : Y x pc L (.int v :: st) σ τ k n Z) (h : u = v) : Y x pc L (.int u :: st) σ τ k n Z := h ▸ K
end YR
