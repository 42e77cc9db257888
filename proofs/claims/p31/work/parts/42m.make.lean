/-! THE MAKING: the first g cells of the family stand; φ says which references are set -/
abbrev xP : Type := Nat → Nat → Bool
def upp (φ : xP) (k i : Nat) : xP := fun a b => if a = k ∧ b = i then true else φ a b
def pFld (σ : xS) (φ : xP) (bs k i : Nat) (f : Option (Option Nat)) : Value := match f with
  | none => .int (σ k i)
  | some none => .long 0
  | some (some r) => if φ k i = true then .ref (bs + r) else .null
def pRow (σ : xS) (φ : xP) (bs k kd : Nat) : (Nat → Int32) ⊕ (Nat → Int64) ⊕ (Nat → UInt32) ⊕ (Nat → UInt64) ⊕ (Nat → Option Nat) := match kd with
  | 0 => .inl (σ k)
  | 1 => .inr (.inl (fun _ => 0))
  | _ => .inr (.inr (.inr (.inr (fun i => if φ k i = true then some (bs + (57 + 27 * i)) else none))))
def pCell (σ : xS) (φ : xP) (bs : Nat) (cA : Nat → ClassId) (k : Nat) (h : xShp) : va_E := match h with
  | .inl o => .inr (o.1, o.2.mapIdx (fun i f => pFld σ φ bs k i f))
  | .inr o => .inl (cA k, (o.2, pRow σ φ bs k o.1))
def pws (σ : xS) (φ : xP) (bs : Nat) (cA : Nat → ClassId) (g : Nat) : va_W := (List.range g).map fun k => (bs + k, pCell σ φ bs cA k (xSH k))
theorem pws_get {σ : xS} {φ : xP} {bs : Nat} {cA : Nat → ClassId} {g k : Nat} (h : k < g) : (pws σ φ bs cA g)[k]? = some (bs + k, pCell σ φ bs cA k (xSH k)) := by
  simp [pws, h]
theorem pCell_congr {σ σ' : xS} {φ φ' : xP} {bs : Nat} {cA : Nat → ClassId} {k : Nat} {h : xShp} (e : σ' k = σ k) (ep : φ' k = φ k) : pCell σ' φ' bs cA k h = pCell σ φ bs cA k h := by
  have e1 : ∀ i f, pFld σ' φ' bs k i f = pFld σ φ bs k i f := by
    intro i f
    unfold pFld
    rw [e, ep]
  have e2 : ∀ kd, pRow σ' φ' bs k kd = pRow σ φ bs k kd := by
    intro kd
    unfold pRow
    rw [e, ep]
  cases h with
  | inl o => simp only [pCell, e1]
  | inr o => simp only [pCell, e2]
theorem pws_set {σ σ' : xS} {φ φ' : xP} {bs : Nat} {cA : Nat → ClassId} {g k : Nat} (h : ∀ a, a ≠ k → σ' a = σ a) (hp : ∀ a, a ≠ k → φ' a = φ a) : (pws σ φ bs cA g).set k (bs + k, pCell σ' φ' bs cA k (xSH k)) = pws σ' φ' bs cA g := by
  apply List.ext_getElem?
  intro j
  by_cases hj : j < g
  · rw [pws_get hj, List.getElem?_set]
    by_cases e : k = j
    · subst e
      have hl : k < (pws σ φ bs cA g).length := by simp [pws, hj]
      simp [hl]
    · rw [if_neg e, pws_get hj, pCell_congr (h j (fun q => e q.symm)) (hp j (fun q => e q.symm))]
  · have h1 : (pws σ' φ' bs cA g).length ≤ j := by simp [pws]; omega
    have h2 : ((pws σ φ bs cA g).set k (bs + k, pCell σ' φ' bs cA k (xSH k))).length ≤ j := by simp [pws]; omega
    rw [List.getElem?_eq_none h1, List.getElem?_eq_none h2]
theorem pws_at {σ : xS} {φ : xP} {bs : Nat} {cA : Nat → ClassId} {g j : Nat} {q : Nat × va_E} (h : (pws σ φ bs cA g)[j]? = some q) : j < g ∧ q.1 = bs + j := by
  have hj : j < g := by
    have := (List.getElem?_eq_some_iff.mp h).1
    simpa [pws] using this
  rw [pws_get hj] at h
  cases h
  exact ⟨hj, rfl⟩
theorem pws_D {σ : xS} {φ : xP} {bs : Nat} {cA : Nat → ClassId} {g : Nat} : va_D (fun q => bs ≤ q) (pws σ φ bs cA g) := by
  refine ⟨fun i j p q h1 h2 e => ?_, fun k q h => ?_⟩
  · have a1 := (pws_at h1).2
    have a2 := (pws_at h2).2
    omega
  · have a1 := (pws_at h).2
    show bs ≤ q.1
    omega
theorem pws_succ (σ : xS) (φ : xP) (bs : Nat) (cA : Nat → ClassId) (g : Nat) : pws σ φ bs cA (g + 1) = pws σ φ bs cA g ++ [(bs + g, pCell σ φ bs cA g (xSH g))] := by
  unfold pws
  rw [List.range_succ, List.map_append]
  rfl
theorem pP_push {D : va_G} {cl : List vw_C} {σ : xS} {φ : xP} {bs : Nat} {cA : Nat → ClassId} {g : Nat} {H H1 : Heap} (hP : va_P D cl (pws σ φ bs cA g) H) (o1 : ∀ q : Nat, q < bs + g → H1[q]? = H[q]?) (hn : va_at D cl (bs + g, pCell σ φ bs cA g (xSH g)) H1) : va_P D cl (pws σ φ bs cA (g + 1)) H1 := by
  rw [pws_succ]
  refine (hP.kept (fun k q hk => ?_)).app (fun k x hx => ?_)
  · have h9 := pws_at hk
    exact o1 q.1 (by omega)
  · have hz : k < 1 := (List.getElem?_eq_some_iff.mp hx).1
    rw [show k = 0 by omega] at hx
    cases hx
    exact hn
def pNest : List (String × Nat × MethodName) := [(RX8, 9, yX7_init), (RX7, 11, yX3_init), (RX7, 20, yX2_init), (RX7, 27, yX6_init), (RX7, 34, yX0_init), (RX7, 41, yX5_init), (RX7, 48, yX1_init), (RX4, 17, yX7_init)]
def pStat (U : State) : Prop := (∀ q ∈ pNest, va_Nw (.methodLinkNest q.1 q.2.1 q.2.2 RX8) U) ∧ va_AO RX7 U
theorem pStat.move {s U : State} (h : pStat s) (hW : s.WarmedH U.vm) : pStat U := ⟨fun q hq => va_Nw.warmM hW (h.1 q hq), h.2.moved hW.alike⟩
theorem pStat.same {u U : State} (h : pStat u) (hvm : U.vm = u.vm) : pStat U := ⟨fun q hq => va_Nw.same rfl hvm.symm (h.1 q hq), h.2.moved (by rw [hvm]; exact Vm.Alike.refl _)⟩
/-- the frame of a method that makes -/
def Cp (x : xC) (M : xM) : Prop := match x with
  | (p, _, _, R, s, m, args, _, meth, c, bs, D, cA) => p.tables.exec = Jvm.exec ∧ c.code = M.2.1 ∧ meth.sig.returnType = M.2.2.2.1 ∧ c.maxLocals = M.2.2.1 ∧ s.vm.findClass M.1.cls = some m.cls ∧ (∀ w ∈ M.2.2.2.2.1, w.before args s = true) ∧ meth.locks = false ∧ va_K D vwCl (xtys cA) s ∧ R = M.2.2.2.2.2 ∧ pStat s ∧ bs ≤ s.heap.size ∧ (M.1.name = "<init>" → meth.name = "<init>")
def Yp (x : xC) (pc : Nat) (L : List (Option Value)) (st : List Value) (σ : xS) (φ : xP) (g k n : Nat) (Z : State → Prop) : Prop := match x with
  | (p, l, e, R, s, m, args, below, meth, c, bs, D, cA) => ∀ (H : Heap) (locs : List Loc) (ls : Array Slot), va_P D vwCl (pws σ φ bs cA g) H → H.size = bs + g → va_S (fun q => bs ≤ q) s.heap H locs → xl bs L ls → W p l e R s m args below meth c H locs k n Z (F0 m pc ls (st.map (xv bs)))
def pRep (bs : Nat) (D : va_G) (cA : Nat → ClassId) (σ : xS) (φ : xP) (g : Nat) (U : State) : Prop := va_P D vwCl (pws σ φ bs cA g) U.heap ∧ U.heap.size = bs + g ∧ va_K D vwCl (xtys cA) U ∧ pStat U
def xEp (x : xC) (σ : xS) (φ : xP) (g mc ms : Nat) : State → Prop := match x with
  | (_, _, _, _, s, _, args, below, _, _, bs, D, cA) => MQ below (va_Qv (S := Unit) (fun _ => True) (fun _ t => va_P D vwCl (pws σ φ bs cA g) t.heap ∧ t.heap.size = bs + g) (fun q => bs ≤ q)) args s mc ms (fun q => bs ≤ q)
/-- a constructor's contract: from g cells with σ, φ to g1 cells with σ1, φ1 -/
def Xp (M : xM) (as : List Value) (σ : xS) (φ : xP) (g : Nat) (σ1 : xS) (φ1 : xP) (g1 mc ms : Nat) : Prop := ∀ (l : Launch) (bs : Nat) (D : va_G) (cA : Nat → ClassId), Met l M.1 M.2.2.2.2.1 M.2.2.2.2.2 (va_Pc (as.map (xv bs)) (fun U => pRep bs D cA σ φ g U)) (va_Qv (S := Unit) (fun _ => True) (fun _ t => va_P D vwCl (pws σ1 φ1 bs cA g1) t.heap ∧ t.heap.size = bs + g1) (fun q => bs ≤ q)) mc ms (fun q => bs ≤ q)
theorem Xp_mk {M : xM} {ws' : List Cond} {as : List Value} {σ σ1 : xS} {φ φ1 : xP} {g g1 mc ms : Nat} {L : List (Option Value)} (hy : plainName M.1.cls = true) (hw : M.2.2.2.2.1 = Cond.code M.1 M.2.1 M.2.2.1 M.2.2.2.1 :: ws') (hlen : (xEl0 as).length ≤ M.2.2.1) (hL : xEnt as M.2.2.1 = L) (body : ∀ x : xC, Cp x M → Yp x 0 L [] σ φ g 0 0 (xEp x σ1 φ1 g1 mc ms)) : Xp M as σ φ g σ1 φ1 g1 mc ms := by
  intro l bs D cA
  refine Met.ofW hy hw ?_
  intro p e s m args below meth c s₁ B hml hv
  obtain ⟨rfl, hP, hg, hK, hst⟩ := hv
  have C : Cp (p, l, e, M.2.2.2.2.2, s, m, (as.map (xv bs)).toArray, below, meth, c, bs, D, cA) M := ⟨B.exec, B.bytes, B.returns, hml, findClass_of_methodNamed B.named, atoms_spec (ws := M.2.2.2.2.1) B.pre, B.notSynchronized, hK, rfl, hst, by rw [hg]; exact Nat.le_add_right _ _, fun h => ((name_of_methodNamed B.named B.method).1).trans h⟩
  have hb := body _ C s.heap [] _ hP hg va_S.rf (by rw [← hL]; exact xl_entry bs hlen)
  rw [lg_entry_eq]
  exact hb
theorem pblind {bs : Nat} {D : va_G} {cA : Nat → ClassId} {av : List Value} {σ : xS} {φ : xP} {g : Nat} : FrameBlind (va_Pc av (fun U => pRep bs D cA σ φ g U)) := by
  intro a U gg mk q
  obtain ⟨q0, q1, q2, q3, q4⟩ := q
  exact ⟨q0, q1, q2, va_K.moved (u := U) (U := U.calling gg mk a) (Vm.Alike.refl U.vm) q3, pStat.same (u := U) (U := U.calling gg mk a) q4 rfl⟩
section YP
variable {x : xC} {M : xM} {pc g k n : Nat} {L : List (Option Value)} {st : List Value} {σ : xS} {φ : xP} {Z : State → Prop}
theorem p_iload_n (C : Cp x M) {q : Fin 4} {v : Int32} (hdg : decode M.2.1 pc = .ok (.iload_n q, 1)) (hl : L[(q : Nat)]? = some (some (.int v))) (kk : Yp x (pc + 1) L (.int v :: st) σ φ g k n Z) : Yp x pc L (st) σ φ g k n Z := by
  obtain ⟨p, l, e, R, s, m, args, below, meth, c, bs, D, cA⟩ := x
  obtain ⟨hx, hb, hr, hml, hown, hts, hlk, hK, hR, hst, hsz, hni⟩ := C
  intro H locs ls hP hg hS hL
  exact lv_iload_n hx hb hdg rfl (hL.2.2 _ _ hl) (kk H locs ls hP hg hS hL)
theorem p_aload_n (C : Cp x M) {q : Fin 4} {a : Nat} (hdg : decode M.2.1 pc = .ok (.aload_n q, 1)) (hl : L[(q : Nat)]? = some (some (.ref a))) (kk : Yp x (pc + 1) L (.ref a :: st) σ φ g k n Z) : Yp x pc L (st) σ φ g k n Z := by
  obtain ⟨p, l, e, R, s, m, args, below, meth, c, bs, D, cA⟩ := x
  obtain ⟨hx, hb, hr, hml, hown, hts, hlk, hK, hR, hst, hsz, hni⟩ := C
  intro H locs ls hP hg hS hL
  exact lv_aload_n hx hb hdg rfl (hL.2.2 _ _ hl) (kk H locs ls hP hg hS hL)
theorem p_iconst (C : Cp x M) {i : Int} {v : Int32} (hdg : decode M.2.1 pc = .ok (.iconst i, 1)) (hv : Int32.ofInt i = v) (kk : Yp x (pc + 1) L (.int v :: st) σ φ g k n Z) : Yp x pc L (st) σ φ g k n Z := by
  obtain ⟨p, l, e, R, s, m, args, below, meth, c, bs, D, cA⟩ := x
  obtain ⟨hx, hb, hr, hml, hown, hts, hlk, hK, hR, hst, hsz, hni⟩ := C
  intro H locs ls hP hg hS hL
  exact lv_iconst hx hb hdg hv (kk H locs ls hP hg hS hL)
theorem p_bipush (C : Cp x M) {i : Int} {v : Int32} (hdg : decode M.2.1 pc = .ok (.bipush i, 2)) (hv : (Int8.ofInt i).toInt32 = v) (kk : Yp x (pc + 2) L (.int v :: st) σ φ g k n Z) : Yp x pc L (st) σ φ g k n Z := by
  obtain ⟨p, l, e, R, s, m, args, below, meth, c, bs, D, cA⟩ := x
  obtain ⟨hx, hb, hr, hml, hown, hts, hlk, hK, hR, hst, hsz, hni⟩ := C
  intro H locs ls hP hg hS hL
  exact lv_bipush hx hb hdg hv (kk H locs ls hP hg hS hL)
theorem p_sipush (C : Cp x M) {i : Int} {v : Int32} (hdg : decode M.2.1 pc = .ok (.sipush i, 3)) (hv : (Int16.ofInt i).toInt32 = v) (kk : Yp x (pc + 3) L (.int v :: st) σ φ g k n Z) : Yp x pc L (st) σ φ g k n Z := by
  obtain ⟨p, l, e, R, s, m, args, below, meth, c, bs, D, cA⟩ := x
  obtain ⟨hx, hb, hr, hml, hown, hts, hlk, hK, hR, hst, hsz, hni⟩ := C
  intro H locs ls hP hg hS hL
  exact lv_sipush hx hb hdg hv (kk H locs ls hP hg hS hL)
theorem p_dup (C : Cp x M) {u : Value} (hdg : decode M.2.1 pc = .ok (.dup, 1)) (hu : u.category = 1) (kk : Yp x (pc + 1) L (u :: u :: st) σ φ g k n Z) : Yp x pc L (u :: st) σ φ g k n Z := by
  obtain ⟨p, l, e, R, s, m, args, below, meth, c, bs, D, cA⟩ := x
  obtain ⟨hx, hb, hr, hml, hown, hts, hlk, hK, hR, hst, hsz, hni⟩ := C
  intro H locs ls hP hg hS hL
  exact lv_dup hx hb hdg ((xv_cat _ _).trans hu) (kk H locs ls hP hg hS hL)
theorem p_goto (C : Cp x M) {o : Int} {t : Nat} (hdg : decode M.2.1 pc = .ok (.goto o, 3)) (ht : (pc : Int) + o = (t : Int)) (kk : Yp x (t) L (st) σ φ g k n Z) : Yp x pc L (st) σ φ g k n Z := by
  obtain ⟨p, l, e, R, s, m, args, below, meth, c, bs, D, cA⟩ := x
  obtain ⟨hx, hb, hr, hml, hown, hts, hlk, hK, hR, hst, hsz, hni⟩ := C
  intro H locs ls hP hg hS hL
  exact lv_goto hx hb hdg ht (kk H locs ls hP hg hS hL)
theorem p_istore_n (C : Cp x M) {q : Fin 4} {v : Int32} (hdg : decode M.2.1 pc = .ok (.istore_n q, 1)) {L' : List (Option Value)} (hlt : (q : Nat) < L.length) (hL' : xst L ((q : Nat)) (some (.int v)) = L') (kk : Yp x (pc + 1) L' st σ φ g k n Z) : Yp x pc L ((.int v) :: st) σ φ g k n Z := by
  obtain ⟨p, l, e, R, s, m, args, below, meth, c, bs, D, cA⟩ := x
  obtain ⟨hx, hb, hr, hml, hown, hts, hlk, hK, hR, hst, hsz, hni⟩ := C
  intro H locs ls hP hg hS hL
  exact lv_istore_n hx hb hdg rfl (xl_has hL) hlt rfl (fun ls' hl' => kk H locs ls' hP hg hS (by rw [← hL']; exact xl_st1 hlt hl'))
theorem p_iinc (C : Cp x M) {i : Nat} {d : Int} {u v : Int32} (hdg : decode M.2.1 pc = .ok (.iinc i d, 3)) {L' : List (Option Value)} (hl : L[i]? = some (some (.int u))) (hv : u + Int32.ofInt d = v) (hL' : xst L i (some (.int v)) = L') (kk : Yp x (pc + 3) L' st σ φ g k n Z) : Yp x pc L st σ φ g k n Z := by
  obtain ⟨p, l, e, R, s, m, args, below, meth, c, bs, D, cA⟩ := x
  obtain ⟨hx, hb, hr, hml, hown, hts, hlk, hK, hR, hst, hsz, hni⟩ := C
  intro H locs ls hP hg hS hL
  obtain ⟨j, hj⟩ := List.mem_iff_getElem?.mp (xpl_mem (bs := bs) hl)
  have hlt : i < L.length := (List.getElem?_eq_some_iff.mp hl).1
  exact lv_iinc hx hb hdg (xl_has hL) (k := j) hj hv hlt rfl (fun ls' hl' => kk H locs ls' hP hg hS (by rw [← hL']; exact xl_st1 hlt hl'))
theorem p_icmp_ge (C : Cp x M) {u v : Int32} {o : Int} {t : Nat} (hdg : decode M.2.1 pc = .ok (.if_icmp .ge o, 3)) (ht : (pc : Int) + o = (t : Int)) (kt : v ≤ u → Yp x t L st σ φ g k n Z) (kf : ¬ (v ≤ u) → Yp x (pc + 3) L st σ φ g k n Z) : Yp x pc L (.int v :: .int u :: st) σ φ g k n Z := by
  obtain ⟨p, l, e, R, s, m, args, below, meth, c, bs, D, cA⟩ := x
  obtain ⟨hx, hb, hr, hml, hown, hts, hlk, hK, hR, hst, hsz, hni⟩ := C
  intro H locs ls hP hg hS hL
  exact lv_icmp_ge hx hb hdg ht (fun q => kt q H locs ls hP hg hS hL) (fun q => kf q H locs ls hP hg hS hL)
theorem p_vret (C : Cp x M) (hrt : M.2.2.2.1 = none) (hdg : decode M.2.1 pc = .ok (.return_, 1)) : Yp x pc L [] σ φ g k n (xEp x σ φ g k n) := by
  obtain ⟨p, l, e, R, s, m, args, below, meth, c, bs, D, cA⟩ := x
  obtain ⟨hx, hb, hr, hml, hown, hts, hlk, hK, hR, hst, hsz, hni⟩ := C
  intro H locs ls hP hg hS hL
  exact W.vret hx hb (hr.trans hrt) (fun t ht hW => ⟨⟨(), rfl, trivial, by show va_P D vwCl (pws σ φ bs cA g) t.heap ∧ t.heap.size = bs + g; rw [ht]; exact ⟨hP, hg⟩⟩, hS.F ht⟩) hS.2.2 hdg hlk
theorem p_objinit (C : Cp x M) {idx a : Nat} (hdg : decode M.2.1 pc = .ok (.invokespecial idx, 3)) (hl : Cond.methodLink M.1.cls idx objectInit ∈ M.2.2.2.2.1) (hi : Cond.instanceMethod objectInit ∈ M.2.2.2.2.1) (hc : Cond.code objectInit ⟨#[0xb1]⟩ 1 none ∈ M.2.2.2.2.1) (hLn : L.length = M.2.2.1) (hf : 1 ≤ M.2.2.2.2.2.frames) (hlo : (st.map fun v => v.category).sum + 12 ≤ M.2.2.2.2.2.locals) (kk : Yp x (pc + 3) L st σ φ g k n Z) : Yp x pc L (.ref a :: st) σ φ g k n Z := by
  obtain ⟨p, l, e, R, s, m, args, below, meth, c, bs, D, cA⟩ := x
  obtain ⟨hx, hb, hr, hml, hown, hts, hlk, hK, hR, hst, hsz, hni⟩ := C
  intro H locs ls hP hg hS hL
  subst hR
  refine W.objInit hx hb hown (hts _ hl) (hts _ hi) (hts _ hc) rfl (by rw [hml]; exact hL.1.trans hLn) rfl hdg hf (by rw [List.map_map, xcat_map]; show 2 * 0 + _ + 12 ≤ _; omega) ?_
  exact kk H locs ls hP hg hS hL
theorem p_newa (C : Cp x M) {N : Nat} {nv : Int32} (hdg : decode M.2.1 pc = .ok (.newarray .int, 2)) (harr : Cond.arrayClass .int ∈ M.2.2.2.2.1) (hg9 : g < 165) (hsh : xSH g = .inr (0, N)) (hN : N < 1000) (hv : nv = nI N) (hz : ∀ i, σ g i = 0) (hkn : k + 1 ≤ M.2.2.2.2.2.cells ∧ n + N ≤ M.2.2.2.2.2.slots) (kk : Yp x (pc + 2) L (.ref g :: st) σ φ (g + 1) (k + 1) (n + N) Z) : Yp x pc L (.int nv :: st) σ φ g k n Z := by
  obtain ⟨p, l, e, R, s, m, args, below, meth, c, bs, D, cA⟩ := x
  obtain ⟨hx, hb, hr, hml, hown, hts, hlk, hK, hR, hst, hsz, hni⟩ := C
  intro H locs ls hP hg hS hL
  subst hR
  subst hv
  refine va_newaK hx hb (atype := .int) (hts _ harr) rfl hdg rfl (n := nI N) (N := N) (nI_pos (by omega)) (nI_clamp (by omega)) (by show N * 4 ≤ _; omega) hkn.1 hkn.2 (h := bs + g) hg (fun H1 cA1 e1 z1 o1 hAr hNm => ?_)
  have ht := (hK.2 g _ (xtys_get hg9)).2
  rw [hsh] at ht
  have hcA : cA1 = cA g := Option.some.inj (hNm.symm.trans ht)
  subst hcA
  refine kk H1 locs ls (pP_push hP (fun q hq => o1 q hq) ?_) z1 ⟨by have := hS.1; omega, fun q h1 h2 => ?_, hS.2.2⟩ hL
  · rw [hsh]
    show H1[bs + g]? = some (vp_cell (cA g) (N, .inl (σ g)))
    rw [e1, vp_cell_i]
    exact congrArg some (arrV_ext (fun i _ => by rw [hz i]; rfl))
  · have h3 := hS.1
    exact (o1 q (by omega)).trans (hS.2.1 q h1 h2)
def zF (f : Option (Option Nat)) : Value := match f with
  | none => .int 0
  | some none => .long 0
  | some (some _) => .null
theorem pFld_z {bs g : Nat} (hz : ∀ i, σ g i = 0) (hp : ∀ i, φ g i = false) (fs : List (Option (Option Nat))) : fs.mapIdx (fun i f => pFld σ φ bs g i f) = fs.map zF := by
  apply List.ext_getElem?
  intro j
  rw [List.getElem?_mapIdx, List.getElem?_map]
  cases fs[j]? with
  | none => rfl
  | some f =>
    simp only [Option.map_some, Option.some.injEq]
    cases f with
    | none => simp [pFld, zF, hz]
    | some f =>
      cases f with
      | none => rfl
      | some r => simp [pFld, zF, hp]
theorem p_new (C : Cp x M) {idx ci N : Nat} {fs : List (Option (Option Nat))} {Cn : String} {T : u_T} (ty : Nat → FieldType) (hdg : decode M.2.1 pc = .ok (.new idx, 3)) (hsh : xSH g = .inl (ci, fs)) (hc : vwCl[ci]? = some (Cn, T, N)) (hin : ∀ w ∈ u_ws Cn T N, w ∈ M.2.2.2.2.1) (hty : ∀ k, k < N → parseFieldDescriptor (T k).2.2.1 = some (ty k)) (hcl : Cond.classLink M.1.cls idx Cn ∈ M.2.2.2.2.1) (hinst : Cond.instantiable Cn N ∈ M.2.2.2.2.1) (hini : Cond.initialized Cn ∈ M.2.2.2.2.1) (hdef : ∀ j, j < N → defaultValue (ty j) = vp_V (fs.map zF) j) (hz : ∀ i, σ g i = 0) (hp : ∀ i, φ g i = false) (hkn : k + 1 ≤ M.2.2.2.2.2.cells ∧ n + N ≤ M.2.2.2.2.2.slots) (kk : Yp x (pc + 3) L (.ref g :: st) σ φ (g + 1) (k + 1) (n + N) Z) : Yp x pc L st σ φ g k n Z := by
  obtain ⟨p, l, e, R, s, m, args, below, meth, c, bs, D, cA⟩ := x
  obtain ⟨hx, hb, hr, hml, hown, hts, hlk, hK, hR, hst, hsz, hni⟩ := C
  intro H locs ls hP hg hS hL
  subst hR
  have hKn := hK.1 ci _ hc
  refine W.newcK hx hb hown (hts _ hcl) (hts _ hinst) (hts _ hini) rfl hdg hkn.1 hkn.2 hKn.2.1 rfl fun H1 kC hkC e1 z1 o1 => ?_
  rw [hg] at e1 z1 o1
  have h9 := kk H1 locs ls (pP_push hP (fun q hq => o1 q hq) ?_) z1 ⟨by have := hS.1; omega, fun q h1 h2 => (o1 q (by have := hS.1; omega)).trans (hS.2.1 q h1 h2), hS.2.2⟩ hL
  · rw [hg]
    exact h9
  · rw [hsh]
    refine ⟨_, hc, ?_⟩
    show t_OB (bs + g) (D.1 ci) N (D.2 ci) H1 (vp_V (fs.mapIdx (fun i f => pFld σ φ bs g i f)))
    rw [pFld_z hz hp]
    exact (u_born ty hts hin hKn hkC e1 hty).to hdef
theorem p_setI {cA : Nat → ClassId} {bs a i ci : Nat} {fs : List (Option (Option Nat))} {u : Int32} (hsh : xSH a = .inl (ci, fs)) (hf : fs[i]? = some none) : (pws σ φ bs cA g).set a (bs + a, .inr (ci, (fs.mapIdx (fun i f => pFld σ φ bs a i f)).set i (.int u))) = pws (ups σ a (upd (σ a) i u)) φ bs cA g := by
  have hlen : i < fs.length := (List.getElem?_eq_some_iff.mp hf).1
  rw [← pws_set (k := a) (σ := σ) (φ := φ) (fun q hq => ups_ne hq) (fun _ _ => rfl), hsh]
  congr 3
  show (ci, _) = (ci, fs.mapIdx (fun j f => pFld (ups σ a (upd (σ a) i u)) φ bs a j f))
  congr 1
  apply List.ext_getElem?
  intro j
  rw [List.getElem?_set, List.getElem?_mapIdx, List.getElem?_mapIdx]
  by_cases e : i = j
  · subst e
    rw [if_pos rfl, hf]
    simp [hlen, pFld, ups_eq, upd]
  · rw [if_neg e]
    cases hj : fs[j]? with
    | none => rfl
    | some f =>
      have e2 : ¬ j = i := fun q => e q.symm
      simp only [Option.map_some, Option.some.injEq]
      unfold pFld
      rw [ups_eq]
      simp [upd, e2]
theorem p_setR {cA : Nat → ClassId} {bs a i r ci : Nat} {fs : List (Option (Option Nat))} (hsh : xSH a = .inl (ci, fs)) (hf : fs[i]? = some (some (some r))) : (pws σ φ bs cA g).set a (bs + a, .inr (ci, (fs.mapIdx (fun i f => pFld σ φ bs a i f)).set i (.ref (bs + r)))) = pws σ (upp φ a i) bs cA g := by
  have hlen : i < fs.length := (List.getElem?_eq_some_iff.mp hf).1
  rw [← pws_set (k := a) (σ := σ) (σ' := σ) (φ := φ) (φ' := upp φ a i) (fun _ _ => rfl) (fun q hq => funext fun b => if_neg (fun z => hq z.1)), hsh]
  congr 3
  show (ci, _) = (ci, fs.mapIdx (fun j f => pFld σ (upp φ a i) bs a j f))
  congr 1
  apply List.ext_getElem?
  intro j
  rw [List.getElem?_set, List.getElem?_mapIdx, List.getElem?_mapIdx]
  by_cases e : i = j
  · subst e
    rw [if_pos rfl, hf]
    simp [hlen, pFld, upp]
  · rw [if_neg e]
    cases hj : fs[j]? with
    | none => rfl
    | some f =>
      have e2 : ¬ j = i := fun q => e q.symm
      simp only [Option.map_some, Option.some.injEq]
      unfold pFld
      simp [upp, e2]
theorem p_putI (C : Cp x M) {a i idx ci N : Nat} {fs : List (Option (Option Nat))} {Cn : String} {T : u_T} {u : Int32} {ty : FieldType} (ty0 : Nat → FieldType) (hdg : decode M.2.1 pc = .ok (.putfield idx, 3)) (ha : a < g) (hsh : xSH a = .inl (ci, fs)) (hf : fs[i]? = some none) (hc : vwCl[ci]? = some (Cn, T, N)) (hi : i < N) (hin : ∀ w ∈ u_ws Cn T N, w ∈ M.2.2.2.2.1) (hty : ∀ k, k < N → parseFieldDescriptor (T k).2.2.1 = some (ty0 k)) (hnm : ∀ a, a < N → ∀ b, b < N → a ≠ b → (T a).2.1 ≠ (T b).2.1) (hfin : (T i).2.2.2 = false) (hd : parseFieldDescriptor (T i).2.2.1 = some ty) (hn : narrow ty (.int u) = .int u) (hfit : fits ty (.int u) = true) (hlink : Cond.fieldLink M.1.cls idx (T i).1 (T i).2.1 (T i).2.2.1 ∈ M.2.2.2.2.1) (kk : Yp x (pc + 3) L st (ups σ a (upd (σ a) i u)) φ g k n Z) : Yp x pc L (.int u :: .ref a :: st) σ φ g k n Z := by
  obtain ⟨p, l, e, R, s, m, args, below, meth, c, bs, D, cA⟩ := x
  obtain ⟨hx, hb, hr, hml, hown, hts, hlk, hK, hR, hst, hsz, hni⟩ := C
  intro H locs ls hP hg hS hL
  have he : (pws σ φ bs cA g)[a]? = some (bs + a, .inr (ci, fs.mapIdx (fun i f => pFld σ φ bs a i f))) := by rw [pws_get ha, hsh]; rfl
  have hlen : i < fs.length := (List.getElem?_eq_some_iff.mp hf).1
  have hap := va_apart (own := M.1.cls) hts hin ty0 hty hnm hK hc
  obtain ⟨r, h1, cell, q1, q2, q3, q4⟩ := hP a _ he
  have hrr : r = (Cn, T, N) := Option.some.inj (h1.symm.trans hc)
  subst hrr
  obtain ⟨hSl, hfc, kC, hkC, hkind⟩ := hK.1 ci _ hc
  obtain ⟨cf, kf, fi, f, hif, hsl⟩ := hSl i hi
  have hlay := hts _ (hin _ (u_in_lay hi))
  unfold u_lay at hlay
  rw [if_neg (by rw [hfin]; decide)] at hlay
  have hst9 := (u_facts hfc hkC (u_lays hts hin hi) hif).1
  have h6 := u_store hfc hkC hkind hlay hif hd hn hfit
  refine W.putK hx hb (f := f) ⟨hown, hts _ hlink, ⟨_, _, _, hif⟩, hst9⟩ (by rw [q2]; exact h6) q1 q3 (by rw [hsl]; exact k2_hasslot (q4 i hi)) rfl rfl hdg fun H' e1 e2 e3 => ?_
  rw [hsl] at e1 ⊢
  have hP1 : va_P D vwCl ((pws σ φ bs cA g).set a (bs + a, .inr (ci, (fs.mapIdx (fun i f => pFld σ φ bs a i f)).set i (.int u)))) H' := hP.set pws_D he ⟨_, hc, t_OB.to (V := updV (vp_V (fs.mapIdx (fun i f => pFld σ φ bs a i f))) i (.int u)) ⟨_, e1, q2, q3, t_set q4 hap hi _⟩ (fun j _ => vp_updV_set (by simpa using hlen) _ j)⟩ e3
  exact kk H' _ ls ((p_setI hsh hf) ▸ hP1) (e2.trans hg) (hS.put e2 e3 (pws_D.2 a _ he)) hL
theorem p_putR (C : Cp x M) {a i r idx ci N : Nat} {fs : List (Option (Option Nat))} {Cn : String} {T : u_T} {ty : FieldType} (ty0 : Nat → FieldType) (hdg : decode M.2.1 pc = .ok (.putfield idx, 3)) (ha : a < g) (hsh : xSH a = .inl (ci, fs)) (hf : fs[i]? = some (some (some r))) (hc : vwCl[ci]? = some (Cn, T, N)) (hi : i < N) (hin : ∀ w ∈ u_ws Cn T N, w ∈ M.2.2.2.2.1) (hty : ∀ k, k < N → parseFieldDescriptor (T k).2.2.1 = some (ty0 k)) (hnm : ∀ a, a < N → ∀ b, b < N → a ≠ b → (T a).2.1 ≠ (T b).2.1) (hfin : (T i).2.2.2 = true) (hnmI : M.1.name = "<init>") (hdecl : (T i).1 = M.1.cls) (hd : parseFieldDescriptor (T i).2.2.1 = some ty) (hn : ∀ q : Nat, narrow ty (.ref q) = .ref q) (hfit : ∀ q : Nat, fits ty (.ref q) = true) (hlink : Cond.fieldLink M.1.cls idx (T i).1 (T i).2.1 (T i).2.2.1 ∈ M.2.2.2.2.1) (kk : Yp x (pc + 3) L st σ (upp φ a i) g k n Z) : Yp x pc L (.ref r :: .ref a :: st) σ φ g k n Z := by
  obtain ⟨p, l, e, R, s, m, args, below, meth, c, bs, D, cA⟩ := x
  obtain ⟨hx, hb, hr, hml, hown, hts, hlk, hK, hR, hst, hsz, hni⟩ := C
  intro H locs ls hP hg hS hL
  have he : (pws σ φ bs cA g)[a]? = some (bs + a, .inr (ci, fs.mapIdx (fun i f => pFld σ φ bs a i f))) := by rw [pws_get ha, hsh]; rfl
  have hlen : i < fs.length := (List.getElem?_eq_some_iff.mp hf).1
  have hap := va_apart (own := M.1.cls) hts hin ty0 hty hnm hK hc
  obtain ⟨r9, h1, cell, q1, q2, q3, q4⟩ := hP a _ he
  have hrr : r9 = (Cn, T, N) := Option.some.inj (h1.symm.trans hc)
  subst hrr
  obtain ⟨hSl, hfc, kC, hkC, hkind⟩ := hK.1 ci _ hc
  obtain ⟨cf, kf, fi, f, hif, hsl⟩ := hSl i hi
  have hlay := hts _ (hin _ (u_in_lay hi))
  unfold u_lay at hlay
  rw [if_pos hfin] at hlay
  have hst9 := (u_facts hfc hkC (u_lays hts hin hi) hif).1
  have hcf : m.cls = cf := by
    obtain ⟨_, _, c', _, _, _, -, -, hf', -, -, -, hown2, -⟩ := Cond.laysFinal_spec hlay
    have e1 : c' = cf := by have := hif.symm.trans hf'; simp at this; exact this.1.symm
    rw [hdecl] at hown2
    rw [← e1]; exact Option.some.inj (hown.symm.trans hown2)
  have h6 := u_fits hfc hkC hkind (Or.inr hlay) hif hd (hn (bs + r)) (hfit (bs + r))
  refine W.putFinK hx hb hown (hts _ hlink) hif hst9 hcf (hni hnmI) (by rw [q2]; exact h6) q1 q3 (by rw [hsl]; exact k2_hasslot (q4 i hi)) rfl rfl hdg fun H' e1 e2 e3 => ?_
  rw [hsl] at e1 ⊢
  have hP1 : va_P D vwCl ((pws σ φ bs cA g).set a (bs + a, .inr (ci, (fs.mapIdx (fun i f => pFld σ φ bs a i f)).set i (.ref (bs + r))))) H' := hP.set pws_D he ⟨_, hc, t_OB.to (V := updV (vp_V (fs.mapIdx (fun i f => pFld σ φ bs a i f))) i (.ref (bs + r))) ⟨_, e1, q2, q3, t_set q4 hap hi _⟩ (fun j _ => vp_updV_set (by simpa using hlen) _ j)⟩ e3
  exact kk H' _ ls ((p_setR hsh hf) ▸ hP1) (e2.trans hg) (hS.put e2 e3 (pws_D.2 a _ he)) hL
theorem p_getR (C : Cp x M) {a i r idx ci N : Nat} {fs : List (Option (Option Nat))} {Cn : String} {T : u_T} (hdg : decode M.2.1 pc = .ok (.getfield idx, 3)) (ha : a < g) (hsh : xSH a = .inl (ci, fs)) (hf : fs[i]? = some (some (some r))) (hp : φ a i = true) (hc : vwCl[ci]? = some (Cn, T, N)) (hi : i < N) (hin : ∀ w ∈ u_ws Cn T N, w ∈ M.2.2.2.2.1) (hlink : Cond.fieldLink M.1.cls idx (T i).1 (T i).2.1 (T i).2.2.1 ∈ M.2.2.2.2.1) (kk : Yp x (pc + 3) L (.ref r :: st) σ φ g k n Z) : Yp x pc L (.ref a :: st) σ φ g k n Z := by
  obtain ⟨p, l, e, R, s, m, args, below, meth, c, bs, D, cA⟩ := x
  obtain ⟨hx, hb, hr, hml, hown, hts, hlk, hK, hR, hst, hsz, hni⟩ := C
  intro H locs ls hP hg hS hL
  have he := pws_get (σ := σ) (φ := φ) (bs := bs) (cA := cA) ha
  rw [hsh] at he
  exact va_get (D := D) (ci := ci) (v := .ref (bs + r)) hx hb hts hin hown hK hP a he hc i hi (hts _ hlink) (fun _ h9 => h9) (by simp [hf, pFld, hp]) hdg (kk H locs ls hP hg hS hL)
theorem p_is (C : Cp x M) {a N : Nat} {i u : Int32} (j : Nat) (hdg : decode M.2.1 pc = .ok (.iastore, 1)) (ha : a < g) (ha9 : a < 165) (hsh : xSH a = .inr (0, N)) (hN : N < 2 ^ 31) (hi : i = nI j) (hj : j < N) (kk : Yp x (pc + 1) L st (ups σ a (upd (σ a) j u)) φ g k n Z) : Yp x pc L (.int u :: .int i :: .ref a :: st) σ φ g k n Z := by
  obtain ⟨p, l, e, R, s, m, args, below, meth, c, bs, D, cA⟩ := x
  obtain ⟨hx, hb, hr, hml, hown, hts, hlk, hK, hR, hst, hsz, hni⟩ := C
  intro H locs ls hP hg hS hL
  subst hi
  have he := pws_get (σ := σ) (φ := φ) (bs := bs) (cA := cA) ha
  rw [hsh] at he
  have ht := xtys_get (cA := cA) ha9
  rw [hsh] at ht
  have hcl : (nI j).toNatClampNeg = j := nI_clamp (by omega)
  refine W.iast hx hb (hP a _ he) ((hK.2 a _ ht).1 N (fun j => .int (σ a j))) (fun q => by cases q) (by show ¬ (nI j < 0 ∨ (arrV _ _ _).slots.size ≤ _); rw [arrV_size]; exact vp_in_nI hj hN) rfl rfl hdg fun H1 e z oq => ?_
  have h9 : (pws σ φ bs cA g).set a (bs + a, .inl (cA a, (N, .inl (upd (σ a) j u)))) = pws (ups σ a (upd (σ a) j u)) φ bs cA g := by
    rw [← pws_set (k := a) (σ := σ) (φ := φ) (fun q hq => ups_ne hq) (fun _ _ => rfl), hsh]
    show _ = (pws σ φ bs cA g).set a (bs + a, .inl (cA a, (N, .inl (ups σ a (upd (σ a) j u) a))))
    rw [ups_eq]
  refine kk H1 _ ls (h9 ▸ hP.set pws_D he ?_ oq) (z.trans hg) (hS.put z oq (pws_D.2 a _ he)) hL
  show H1[bs + a]? = some (vp_cell _ _)
  rw [e, vp_cell_i]
  show some ((arrV _ _ _).setSlot _ _) = _
  rw [arrV_store, hcl]
  congr 2
  funext q
  by_cases hq : q = j
  · subst hq
    simp [updV, upd]
  · simp [updV, upd, hq]
theorem p_callN (C : Cp x M) {M2 : xM} {rest : List Value} {σ1 : xS} {φ1 : xP} {g1 idx b mc ms : Nat} {ws' : List Cond} (hX : Xp M2 [.ref b] σ φ g σ1 φ1 g1 mc ms) (hdg : decode M.2.1 pc = .ok (.invokespecial idx, 3)) (hst0 : st = .ref b :: rest) (hG : GoodIn M.2.2.2.2.1 M2.2.2.2.2.1) (hw : M2.2.2.2.2.1 = Cond.code M2.1 M2.2.1 M2.2.2.1 none :: ws') (hne : (M.1.cls, idx, M2.1) ∈ pNest) (hini : Cond.initialized M2.1.cls ∈ M.2.2.2.2.1) (hinm : Cond.instanceMethod M2.1 ∈ M.2.2.2.2.1) (hnm : M2.1.name = "<init>") (hd : M2.1.cls ≠ "java/lang/invoke/MethodHandle" ∧ M2.1.cls ≠ "java/lang/invoke/VarHandle" ∧ (parseMethodDescriptor M2.1.desc).map (fun d => d.parameters.length) = some 0) (hrm : M2.2.2.2.2.2.cells = mc ∧ M2.2.2.2.2.2.slots = ms) (hRM : M2.2.2.2.2.2.frames + 1 ≤ M.2.2.2.2.2.frames ∧ 8 + (M2.2.2.1 + 11) + M2.2.2.2.2.2.locals ≤ M.2.2.2.2.2.locals) (hLn : L.length = M.2.2.1) (hro : (rest.map fun v => v.category).sum ≤ 8) (hkn : k + mc ≤ M.2.2.2.2.2.cells ∧ n + ms ≤ M.2.2.2.2.2.slots) (kk : Yp x (pc + 3) L rest σ1 φ1 g1 (k + mc) (n + ms) Z) : Yp x pc L st σ φ g k n Z := by
  obtain ⟨p, l, e, R, s, m, args, below, meth, c, bs, D, cA⟩ := x
  obtain ⟨hx, hb, hr, hml, hown, hts, hlk, hK, hR, hst, hsz, hni⟩ := C
  intro H locs ls hP hg hS hL
  subst hR
  have hst1 : st.map (xv bs) = .ref (bs + b) :: rest.map (xv bs) := by rw [hst0]; simp [xv]
  rw [hst1]
  refine va_callv (va_runIN (nL := M.2.2.1) (As := []) (rest := rest.map (xv bs)) ⟨hx, hb, hml, hown, hts⟩ (hX l bs D cA) ⟨va_cnB 0 hts hG hw hrm.1 hrm.2 (hst.1 _ hne) (hts _ hini) hd hRM, hnm, hts _ hinm⟩ ⟨pblind, fun U hU hW => ⟨rfl, by rw [hU]; exact hP, by rw [hU]; exact hg, va_K.moved hW.alike hK, hst.move hW⟩⟩ rfl rfl (hL.1.trans hLn) rfl (lv_room (by rw [List.map_map, xcat_map]; exact hro)) hdg hkn) hS (fun q _ h => h) (fun q h => h) (fun u t H1 locs1 ht _ hpost hB _ _ hS1 => kk H1 locs1 ls (ht ▸ hB.1) (ht ▸ hB.2) hS1 hL)
theorem p_callI (C : Cp x M) {M2 : xM} {rest : List Value} {σ1 : xS} {φ1 : xP} {g1 idx b mc ms : Nat} {ws' : List Cond} (hX : Xp M2 [.ref b] σ φ g σ1 φ1 g1 mc ms) (hdg : decode M.2.1 pc = .ok (.invokespecial idx, 3)) (hst0 : st = .ref b :: rest) (hG : GoodIn M.2.2.2.2.1 M2.2.2.2.2.1) (hw : M2.2.2.2.2.1 = Cond.code M2.1 M2.2.1 M2.2.2.1 none :: ws') (hl : Cond.methodLink M.1.cls idx M2.1 ∈ M.2.2.2.2.1) (hini : Cond.initialized M2.1.cls ∈ M.2.2.2.2.1) (hinm : Cond.instanceMethod M2.1 ∈ M.2.2.2.2.1) (hnm : M2.1.name = "<init>") (hd : M2.1.cls ≠ "java/lang/invoke/MethodHandle" ∧ M2.1.cls ≠ "java/lang/invoke/VarHandle" ∧ (parseMethodDescriptor M2.1.desc).map (fun d => d.parameters.length) = some 0) (hrm : M2.2.2.2.2.2.cells = mc ∧ M2.2.2.2.2.2.slots = ms) (hRM : M2.2.2.2.2.2.frames + 1 ≤ M.2.2.2.2.2.frames ∧ 8 + (M2.2.2.1 + 11) + M2.2.2.2.2.2.locals ≤ M.2.2.2.2.2.locals) (hLn : L.length = M.2.2.1) (hro : (rest.map fun v => v.category).sum ≤ 8) (hkn : k + mc ≤ M.2.2.2.2.2.cells ∧ n + ms ≤ M.2.2.2.2.2.slots) (kk : Yp x (pc + 3) L rest σ1 φ1 g1 (k + mc) (n + ms) Z) : Yp x pc L st σ φ g k n Z := by
  obtain ⟨p, l, e, R, s, m, args, below, meth, c, bs, D, cA⟩ := x
  obtain ⟨hx, hb, hr, hml, hown, hts, hlk, hK, hR, hst, hsz, hni⟩ := C
  intro H locs ls hP hg hS hL
  subst hR
  have hst1 : st.map (xv bs) = .ref (bs + b) :: rest.map (xv bs) := by rw [hst0]; simp [xv]
  rw [hst1]
  refine va_callv (va_runI (nL := M.2.2.1) (As := []) (rest := rest.map (xv bs)) ⟨hx, hb, hml, hown, hts⟩ (hX l bs D cA) (cwI 0 hts hG hw hrm.1 hrm.2 (hts _ hini) (hts _ hl) (hts _ hinm) hnm hd hRM) ⟨pblind, fun U hU hW => ⟨rfl, by rw [hU]; exact hP, by rw [hU]; exact hg, va_K.moved hW.alike hK, hst.move hW⟩⟩ rfl rfl (hL.1.trans hLn) rfl (lv_room (by rw [List.map_map, xcat_map]; exact hro)) hdg hkn) hS (fun q _ h => h) (fun q h => h) (fun u t H1 locs1 ht _ hpost hB _ _ hS1 => kk H1 locs1 ls (ht ▸ hB.1) (ht ▸ hB.2) hS1 hL)
theorem p_newq (C : Cp x M) {idx N : Nat} {nv : Int32} (hdg : decode M.2.1 pc = .ok (.anewarray idx, 3)) (hcl : Cond.classLink M.1.cls idx RX7 ∈ M.2.2.2.2.1) (hg9 : g < 165) (hsh : xSH g = .inr (2, N)) (hN : N < 1000) (hv : nv = nI N) (hp : ∀ i, φ g i = false) (hkn : k + 1 ≤ M.2.2.2.2.2.cells ∧ n + N ≤ M.2.2.2.2.2.slots) (kk : Yp x (pc + 3) L (.ref g :: st) σ φ (g + 1) (k + 1) (n + N) Z) : Yp x pc L (.int nv :: st) σ φ g k n Z := by
  obtain ⟨p, l, e, R, s, m, args, below, meth, c, bs, D, cA⟩ := x
  obtain ⟨hx, hb, hr, hml, hown, hts, hlk, hK, hR, hst, hsz, hni⟩ := C
  intro H locs ls hP hg hS hL
  subst hR
  subst hv
  have hcl9 : (nI N).toNatClampNeg = N := nI_clamp (by omega)
  refine W.anew hx hb hown (hts _ hcl) (va_AO.use hst.2) rfl hdg rfl (n := nI N) (nI_pos (by omega)) (by rw [hcl9]; omega) hkn.1 (by rw [hcl9]; exact hkn.2) fun cA1 kA comp f1 f2 f3 f4 => ?_
  rw [hcl9]
  have ht := (hK.2 g _ (xtys_get hg9)).2
  rw [hsh] at ht
  obtain ⟨kA2, comp2, t1, t2, t3, t4⟩ := ht
  have hcA : cA1 = cA g := Option.some.inj (f1.symm.trans t4)
  subst hcA
  generalize hH1 : H.push ({ cls := cA g, slots := Array.replicate N .null, vm := .none } : Cell) = H1
  have z1 : H1.size = H.size + 1 := by rw [← hH1, Array.size_push]
  have e1 : H1[H.size]? = some (arrV (cA g) N (fun _ => .null)) := by rw [← hH1, Array.getElem?_push_size, ← arrV_new]
  have o1 : ∀ q : Nat, q < H.size → H1[q]? = H[q]? := fun q hq => by rw [← hH1, Array.getElem?_push, if_neg (Nat.ne_of_lt hq)]
  rw [hg] at z1 e1 o1 ⊢
  refine kk H1 locs ls (pP_push hP (fun q hq => o1 q hq) ?_) z1 ⟨by have := hS.1; omega, fun q h1 h2 => ?_, hS.2.2⟩ hL
  · rw [hsh]
    show H1[bs + g]? = some (vp_cell (cA g) (N, .inr (.inr (.inr (.inr (fun i => if φ g i = true then some (bs + (57 + 27 * i)) else none))))))
    rw [e1, vp_cell_q]
    exact congrArg some (arrV_ext (fun i _ => by rw [if_neg (by rw [hp i]; decide)]; rfl))
  · have h3 := hS.1
    exact (o1 q (by omega)).trans (hS.2.1 q h1 h2)
theorem p_aas (C : Cp x M) {a b N ci : Nat} {fs : List (Option (Option Nat))} {i : Int32} (j : Nat) (hdg : decode M.2.1 pc = .ok (.aastore, 1)) (ha : a < g) (ha9 : a < 165) (hsh : xSH a = .inr (2, N)) (hN : N < 2 ^ 31) (hi : i = nI j) (hj : j < N) (hb9 : b < g) (hbe : b = 57 + 27 * j) (hshb : xSH b = .inl (7, fs)) (kk : Yp x (pc + 1) L st σ (upp φ a j) g k n Z) : Yp x pc L (.ref b :: .int i :: .ref a :: st) σ φ g k n Z := by
  obtain ⟨p, l, e, R, s, m, args, below, meth, c, bs, D, cA⟩ := x
  obtain ⟨hx, hb, hr, hml, hown, hts, hlk, hK, hR, hst, hsz, hni⟩ := C
  intro H locs ls hP hg hS hL
  subst hi
  have he := pws_get (σ := σ) (φ := φ) (bs := bs) (cA := cA) ha
  rw [hsh] at he
  have hv := pws_get (σ := σ) (φ := φ) (bs := bs) (cA := cA) hb9
  rw [hshb] at hv
  have ht := xtys_get (cA := cA) ha9
  rw [hsh] at ht
  have hcl : (nI j).toNatClampNeg = j := nI_clamp (by omega)
  obtain ⟨r', hr', cellV, g1, g2, g3, -⟩ := hP b _ hv
  have hr9 : r' = (RX7, TX7, 8) := (Option.some.inj hr').symm
  subst hr9
  have hcls := (hK.1 7 (RX7, TX7, 8) rfl).2
  obtain ⟨kA, comp, k1, k2, k3, -⟩ := (hK.2 a _ ht).2
  have hcomp : comp = D.1 7 := Option.some.inj (k3.symm.trans hcls.1)
  subst hcomp
  obtain ⟨kC, hkC, -⟩ := hcls.2
  refine W.aast hx hb (hP a _ he) (fun q h => by cases h) (fun h => by cases h) k1 k2 rfl hkC ⟨nI_pos (by omega), by show _ < (arrV _ _ _).slots.size; rw [arrV_size, hcl]; exact hj⟩ g1 (fun q h => by rw [g3] at h; cases h) (by rw [g2]; exact hkC) (by rw [g2]; exact va_assign hcls) rfl rfl hdg fun H1 e z oq => ?_
  have h9 : (pws σ φ bs cA g).set a (bs + a, .inl (cA a, (N, .inr (.inr (.inr (.inr (fun i => if upp φ a j a i = true then some (bs + (57 + 27 * i)) else none))))))) = pws σ (upp φ a j) bs cA g := by
    rw [← pws_set (k := a) (σ := σ) (σ' := σ) (φ := φ) (φ' := upp φ a j) (fun _ _ => rfl) (fun q hq => funext fun b => if_neg (fun z => hq z.1)), hsh]
    rfl
  refine kk H1 _ ls (h9 ▸ hP.set pws_D he ?_ oq) (z.trans hg) (hS.put z oq (pws_D.2 a _ he)) hL
  show H1[bs + a]? = some (vp_cell _ _)
  rw [e]
  show some ((vp_cell _ (N, .inr (.inr (.inr (.inr _))))).setSlot _ _) = _
  rw [vp_cell_q, vp_cell_q, arrV_store, hcl]
  congr 2
  funext q
  by_cases hq : q = j
  · subst hq
    simp [updV, upp, va_rf, hbe]
  · simp [updV, upp, hq]
theorem p_callVv (C : Cp x M) {M2 : xM} {as rest : List Value} {σ1 : xS} {φ1 : xP} {g1 idx b : Nat} {ws' : List Cond} {fs : List (Option (Option Nat))} {ci N : Nat} {T : u_T} (hX : Xp M2 (.ref b :: as) σ φ g σ1 φ1 g1 0 0) (hdg : decode M.2.1 pc = .ok (.invokevirtual idx, 3)) (hst0 : st = as.reverse ++ (.ref b :: rest)) (hG : GoodIn M.2.2.2.2.1 (wsV M.1.cls idx M2.1.cls M2.1 M2.2.2.2.2.1)) (hw : M2.2.2.2.2.1 = Cond.code M2.1 M2.2.1 M2.2.2.1 M2.2.2.2.1 :: ws') (hb9 : b < g) (hshb : xSH b = .inl (ci, fs)) (hcb : vwCl[ci]? = some (M2.1.cls, T, N)) (hd : M2.1.cls = M2.1.cls ∧ M2.1.cls ≠ "java/lang/invoke/MethodHandle" ∧ M2.1.cls ≠ "java/lang/invoke/VarHandle" ∧ (parseMethodDescriptor M2.1.desc).map (fun d => d.parameters.length) = some as.length) (hrm : M2.2.2.2.2.2.cells = 0 ∧ M2.2.2.2.2.2.slots = 0) (hRM : M2.2.2.2.2.2.frames + 1 ≤ M.2.2.2.2.2.frames ∧ 8 + (M2.2.2.1 + 11) + M2.2.2.2.2.2.locals ≤ M.2.2.2.2.2.locals) (hLn : L.length = M.2.2.1) (hro : (rest.map fun v => v.category).sum ≤ 8) (hkn : k ≤ M.2.2.2.2.2.cells ∧ n ≤ M.2.2.2.2.2.slots) (kk : Yp x (pc + 3) L rest σ1 φ1 g1 k n Z) : Yp x pc L st σ φ g k n Z := by
  obtain ⟨p, l, e, R, s, m, args, below, meth, c, bs, D, cA⟩ := x
  obtain ⟨hx, hb, hr, hml, hown, hts, hlk, hK, hR, hst, hsz, hni⟩ := C
  intro H locs ls hP hg hS hL
  subst hR
  have hst1 : st.map (xv bs) = (as.map (xv bs)).reverse ++ (.ref (bs + b) :: rest.map (xv bs)) := by rw [hst0]; simp [xv]
  rw [hst1]
  have he := pws_get (σ := σ) (φ := φ) (bs := bs) (cA := cA) hb9
  rw [hshb] at he
  refine va_callv (va_runV (nL := M.2.2.1) (As := as.map (xv bs)) (rest := rest.map (xv bs)) ⟨hx, hb, hml, hown, hts⟩ (hX l bs D cA) (cwV as.length hts hG hw hrm.1 hrm.2 hd hRM) ⟨pblind, va_recv hK hP hcb he, fun U hU hW => ⟨rfl, by rw [hU]; exact hP, by rw [hU]; exact hg, va_K.moved hW.alike hK, hst.move hW⟩⟩ rfl (by simp) (hL.1.trans hLn) rfl (lv_room (by rw [List.map_map, xcat_map]; exact hro)) hdg hkn) hS (fun q _ h => h) (fun q h => h) (fun u t H1 locs1 ht _ hpost hB _ _ hS1 => kk H1 locs1 ls (ht ▸ hB.1) (ht ▸ hB.2) hS1 hL)
end YP
