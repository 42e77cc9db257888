/-! THROWS: what the tables say of the three exceptions; a contract of a method that returns or throws (nothing changed); its call by a method that catches -/
def xCast : List String := ["java/lang/IllegalArgumentException", "java/lang/IndexOutOfBoundsException", "java/lang/IllegalStateException"]
def xNm : List String := ["java/lang/RuntimeException", "java/lang/Exception"]
def xDecl : List String := ["java/lang/RuntimeException", "java/lang/Exception", "java/lang/Throwable"]
def xThr (U : State) : Prop := (∀ a ∈ xCast, va_Nw (.castable a a) U) ∧ (∀ a ∈ xCast, ∀ b ∈ xCast, a ≠ b → va_Nc a b U) ∧ ∀ a ∈ xDecl, va_Nw (.declares (Bundle.initS a)) U
theorem xThr.move {s U : State} (h : xThr s) (hW : s.WarmedH U.vm) : xThr U := ⟨fun a ha => va_Nw.warmC hW (h.1 a ha), fun a ha b hb n => va_Nc.moved hW.alike (h.2.1 a ha b hb n), fun a ha => va_Nw.warmD hW (h.2.2 a ha)⟩
theorem xThr.same {u U : State} (h : xThr u) (hvm : U.vm = u.vm) : xThr U := ⟨fun a ha => va_Nw.same rfl hvm.symm (h.1 a ha), fun a ha b hb n => va_Nc.moved (by rw [hvm]; exact Vm.Alike.refl _) (h.2.1 a ha b hb n), fun a ha => va_Nw.same rfl hvm.symm (h.2.2 a ha)⟩
def xBad (cls : String) : List Cond := [Cond.castable cls cls, Cond.declares (Bundle.initS "java/lang/RuntimeException"), Cond.declares (Bundle.initS "java/lang/Exception"), Cond.declares (Bundle.initS "java/lang/Throwable")]
theorem xThr.bad {s : State} (h : xThr s) {cls : String} (hc : cls ∈ xCast) {args : Array Value} : ∀ w ∈ xBad cls, w.before args s = true :=
  vx_c (va_Nw.use rfl (h.1 cls hc)) (vx_c (va_Nw.use rfl (h.2.2 _ (by decide))) (vx_c (va_Nw.use rfl (h.2.2 _ (by decide))) (vx_c (va_Nw.use rfl (h.2.2 _ (by decide))) vx_n)))
/-- returns with Q, or throws with PX, the world as it was; one object, six slots -/
def Zi (M : xM) (as : List Value) (σ : xS) (τ : xT) (Q : Int32 → xS → xT → Prop) (PX : String → Prop) : Prop := ∀ (l : Launch), l.stackTraces = false → ∀ (bs : Nat) (D : va_G) (cA : Nat → ClassId), vx_Met l M.1 M.2.2.2.2.1 M.2.2.2.2.2 (va_Pc (as.map (xv bs)) (fun U => xRep bs D cA σ τ U ∧ xThr U)) (va_Qi (S := xS × xT) (fun r u => Q r u.1 u.2) (fun u t => va_P D vwCl (xws u.1 u.2 bs cA) t.heap) (fun q => bs ≤ q)) (vx_X (S := xS × xT) (fun u => u = (σ, τ)) (fun E u t => PX E ∧ va_P D vwCl (xws u.1 u.2 bs cA) t.heap) (fun q => bs ≤ q)) 1 6 (fun q => bs ≤ q)
/-- returns with Q; may make one object of six slots on the way -/
def Xw (M : xM) (as : List Value) (σ : xS) (τ : xT) (Q : Int32 → xS → xT → Prop) : Prop := ∀ (l : Launch), l.stackTraces = false → ∀ (bs : Nat) (D : va_G) (cA : Nat → ClassId), Met l M.1 M.2.2.2.2.1 M.2.2.2.2.2 (va_Pc (as.map (xv bs)) (fun U => xRep bs D cA σ τ U ∧ xThr U)) (va_Qi (S := xS × xT) (fun r u => Q r u.1 u.2) (fun u t => va_P D vwCl (xws u.1 u.2 bs cA) t.heap) (fun q => bs ≤ q)) 1 6 (fun q => bs ≤ q)
def Cz (x : xC) (M : xM) (hh : List ExceptionTableEntry) : Prop := Cx x M ∧ match x with
  | (_, l, _, _, s, _, _, _, _, c, _, _, _) => c.exceptionTable.toList = hh ∧ xThr s ∧ l.stackTraces = false
def xZi (x : xC) (Q : Int32 → xS → xT → Prop) (σ : xS) (τ : xT) (PX : String → Prop) : State → Prop := match x with
  | (_, _, _, _, s, _, args, below, _, _, bs, D, cA) => vx_MQ below (va_Qi (S := xS × xT) (fun r u => Q r u.1 u.2) (fun u t => va_P D vwCl (xws u.1 u.2 bs cA) t.heap) (fun q => bs ≤ q)) (vx_X (S := xS × xT) (fun u => u = (σ, τ)) (fun E u t => PX E ∧ va_P D vwCl (xws u.1 u.2 bs cA) t.heap) (fun q => bs ≤ q)) args s 1 6 (fun q => bs ≤ q)
def xWi (x : xC) (Q : Int32 → xS → xT → Prop) : State → Prop := match x with
  | (_, _, _, _, s, _, args, below, _, _, bs, D, cA) => MQ below (va_Qi (S := xS × xT) (fun r u => Q r u.1 u.2) (fun u t => va_P D vwCl (xws u.1 u.2 bs cA) t.heap) (fun q => bs ≤ q)) args s 1 6 (fun q => bs ≤ q)
theorem Zi_mk {M : xM} {ws' : List Cond} {as : List Value} {σ : xS} {τ : xT} {Q : Int32 → xS → xT → Prop} {PX : String → Prop} {L : List (Option Value)} (hy : plainName M.1.cls = true) (hw : M.2.2.2.2.1 = Cond.code M.1 M.2.1 M.2.2.1 M.2.2.2.1 :: ws') (hlen : (xEl0 as).length ≤ M.2.2.1) (hL : xEnt as M.2.2.1 = L) (body : ∀ x : xC, Cz x M [] → Y x 0 L [] σ τ 0 0 (xZi x Q σ τ PX)) : Zi M as σ τ Q PX := by
  intro l hl bs D cA
  refine vx_ofW hy hw ?_
  intro p e s m args below meth c s₁ B hml ht hv
  obtain ⟨rfl, hv, hthr⟩ := hv
  have C := xCx B hml hv
  have ht2 : c.exceptionTable.toList = [] := List.eq_nil_iff_forall_not_mem.mpr ht
  have hb := body _ ⟨C, ht2, hthr, hl⟩ s.heap [] _ hv.1 va_S.rf (by rw [← hL]; exact xl_entry bs hlen)
  rw [lg_entry_eq]
  exact hb
theorem Xw_mk {M : xM} {ws' : List Cond} {hh : List (Nat × Nat × Nat × Nat)} {as : List Value} {σ : xS} {τ : xT} {Q : Int32 → xS → xT → Prop} {L : List (Option Value)} (hy : plainName M.1.cls = true) (hw : M.2.2.2.2.1 = Cond.codeWith M.1 M.2.1 M.2.2.1 M.2.2.2.1 hh :: ws') (hlen : (xEl0 as).length ≤ M.2.2.1) (hL : xEnt as M.2.2.1 = L) (body : ∀ x : xC, Cz x M (tableOf hh) → Y x 0 L [] σ τ 0 0 (xWi x Q)) : Xw M as σ τ Q := by
  intro l hl bs D cA
  refine va_MetW hy hw ?_
  intro p e s m args below meth c s₁ B hml hv
  obtain ⟨rfl, hv, hthr⟩ := hv
  have C := xCx B hml hv
  have ht2 := vx_table (x := M.1) B (atoms_spec (ws := M.2.2.2.2.1) B.pre _ (by rw [hw]; exact List.mem_cons_self))
  have hb := body _ ⟨C, ht2, hthr, hl⟩ s.heap [] _ hv.1 va_S.rf (by rw [← hL]; exact xl_entry bs hlen)
  rw [lg_entry_eq]
  exact hb
section YZ
variable {x : xC} {M : xM} {pc k n : Nat} {L : List (Option Value)} {st : List Value} {σ σ0 : xS} {τ τ0 : xT} {Z : State → Prop} {PX : String → Prop} {hh : List ExceptionTableEntry}
theorem z_iret (C : Cx x M) {v : Int32} {Q : Int32 → xS → xT → Prop} (hrt : M.2.2.2.1 = some .int) (hdg : decode M.2.1 pc = .ok (.ireturn, 1)) (hQ : Q v σ τ) : Y x pc L [.int v] σ τ 0 0 (xZi x Q σ0 τ0 PX) := by
  obtain ⟨p, l, e, R, s, m, args, below, meth, c, bs, D, cA⟩ := x
  obtain ⟨hx, hb, hr, hml, hown, hts, hlk, hK, hR, hst, hsz⟩ := C
  intro H locs ls hP hS hL
  refine vx_ret (W.widen (k := 1) (n := 6) (Nat.zero_le _) (Nat.zero_le _) ?_)
  exact W.iret hx hb (hr.trans hrt) (fun t ht hW => ⟨⟨v, (σ, τ), rfl, hQ, by show va_P D vwCl (xws σ τ bs cA) t.heap; rw [ht]; exact hP⟩, hS.F ht⟩) hS.2.2 hdg hlk
theorem z_zret (C : Cx x M) {v : Int32} {Q : Int32 → xS → xT → Prop} (hrt : M.2.2.2.1 = some .boolean) (hdg : decode M.2.1 pc = .ok (.ireturn, 1)) (hv : v = 0 ∨ v = 1) (hQ : Q v σ τ) : Y x pc L [.int v] σ τ 0 0 (xZi x Q σ0 τ0 PX) := by
  obtain ⟨p, l, e, R, s, m, args, below, meth, c, bs, D, cA⟩ := x
  obtain ⟨hx, hb, hr, hml, hown, hts, hlk, hK, hR, hst, hsz⟩ := C
  intro H locs ls hP hS hL
  refine vx_ret (W.widen (k := 1) (n := 6) (Nat.zero_le _) (Nat.zero_le _) ?_)
  exact W.zret hx hb (hr.trans hrt) (by rcases hv with rfl | rfl <;> rfl) (fun t ht hW => ⟨⟨v, (σ, τ), rfl, hQ, by show va_P D vwCl (xws σ τ bs cA) t.heap; rw [ht]; exact hP⟩, hS.F ht⟩) hS.2.2 hdg hlk
theorem w_iret (C : Cx x M) {v : Int32} {Q : Int32 → xS → xT → Prop} (hrt : M.2.2.2.1 = some .int) (hdg : decode M.2.1 pc = .ok (.ireturn, 1)) (hQ : Q v σ τ) : Y x pc L [.int v] σ τ 1 6 (xWi x Q) := by
  obtain ⟨p, l, e, R, s, m, args, below, meth, c, bs, D, cA⟩ := x
  obtain ⟨hx, hb, hr, hml, hown, hts, hlk, hK, hR, hst, hsz⟩ := C
  intro H locs ls hP hS hL
  exact W.iret hx hb (hr.trans hrt) (fun t ht hW => ⟨⟨v, (σ, τ), rfl, hQ, by show va_P D vwCl (xws σ τ bs cA) t.heap; rw [ht]; exact hP⟩, hS.F ht⟩) hS.2.2 hdg hlk
theorem z_throw {Q : Int32 → xS → xT → Prop} (C : Cz x M []) {ik is ic : Nat} {cls text : String} (hw1 : Cond.classLink M.1.cls ik cls ∈ M.2.2.2.2.1) (hw2 : Cond.initialized cls ∈ M.2.2.2.2.1) (hcc : cls ∈ xCast) (hfit : Bundle.fit cls = true) (hstr : (M.1.cls, is, text) ∈ xStrs)
    (hat : ∀ w ∈ (vx_atS M.1.cls ic cls xNm).filter goodWord, w ∈ M.2.2.2.2.1) (hbad : ∀ w ∈ (vx_atS M.1.cls ic cls xNm).filter (fun w => !goodWord w), w ∈ xBad cls) (hgood : ∀ w ∈ Cond.classLink M.1.cls ik cls :: Cond.initialized cls :: vx_atS M.1.cls ic cls xNm, vx_ot w = true)
    (d0 : decode M.2.1 pc = .ok (.new ik, 3)) (d3 : decode M.2.1 (pc + 3) = .ok (.dup, 1)) (d4 : decode M.2.1 (pc + 4) = .ok (.ldc is, 2)) (d6 : decode M.2.1 (pc + 6) = .ok (.invokespecial ic, 3)) (d9 : decode M.2.1 (pc + 9) = .ok (.athrow, 1))
    (hRM : 5 < M.2.2.2.2.2.frames ∧ 82 ≤ M.2.2.2.2.2.locals ∧ 1 ≤ M.2.2.2.2.2.cells ∧ 6 ≤ M.2.2.2.2.2.slots) (hLn : L.length = M.2.2.1) (hPX : PX cls) : Y x pc L [] σ τ 0 0 (xZi x Q σ τ PX) := by
  obtain ⟨p, l, e, R, s, m, args, below, meth, c, bs, D, cA⟩ := x
  obtain ⟨⟨hx, hb, hr, hml, hown, hts, hlk, hK, hR, hst, hsz⟩, ht, hthr, hl⟩ := C
  intro H locs ls hP hS hL
  obtain ⟨-, -, -, hU, hN, hS8⟩ := hst
  obtain ⟨sa, hsa⟩ := hS8 _ hstr
  subst hR
  refine vx_throwS (A := fun q => bs ≤ q) (names := xNm) hx hb hl hown hfit (by decide +kernel) (hts _ hw1) (hts _ hw2) hsa (vx_hat (fun w hw => hts w (hat w hw)) hbad (hthr.bad hcc)) hgood hU hN hS (hL.1.trans (hLn.trans hml.symm)) d0 d3 d4 d6 d9 (fun y hy => by rw [ht] at hy; cases hy) hRM.1 hRM.2.1 hRM.2.2.1 hRM.2.2.2 hlk (fun t hal hz hq => ⟨(σ, τ), rfl, ⟨hPX, hP.kept (fun k q hk => hq _ (vx_lt hP hk))⟩, ⟨Nat.le_trans hS.1 hz, fun q h1 h2 => (hq q (Nat.lt_of_lt_of_le h1 hS.1)).trans (hS.2.1 q h1 h2)⟩⟩) hS.2.2 (Nat.le_refl _) (Nat.le_refl _)
theorem z_throwW {Q : Int32 → xS → xT → Prop} (C : Cz x M []) {ik is ic : Nat} {cls text : String} (hw1 : Cond.classLink M.1.cls ik cls ∈ M.2.2.2.2.1) (hw2 : Cond.initialized cls ∈ M.2.2.2.2.1) (hcc : cls ∈ xCast) (hfit : Bundle.fit cls = true) (hstr : (M.1.cls, is, text) ∈ xStrs)
    (hat : ∀ w ∈ (vx_atS M.1.cls ic cls xNm).filter goodWord, w ∈ M.2.2.2.2.1) (hbad : ∀ w ∈ (vx_atS M.1.cls ic cls xNm).filter (fun w => !goodWord w), w ∈ xBad cls) (hgood : ∀ w ∈ Cond.classLink M.1.cls ik cls :: Cond.initialized cls :: vx_atS M.1.cls ic cls xNm, vx_ot w = true)
    (d0 : decode M.2.1 pc = .ok (.new ik, 3)) (d3 : decode M.2.1 (pc + 3) = .ok (.dup, 1)) (d4 : decode M.2.1 (pc + 4) = .ok (.ldc_w is, 3)) (d7 : decode M.2.1 (pc + 7) = .ok (.invokespecial ic, 3)) (d10 : decode M.2.1 (pc + 10) = .ok (.athrow, 1))
    (hRM : 5 < M.2.2.2.2.2.frames ∧ 82 ≤ M.2.2.2.2.2.locals ∧ 1 ≤ M.2.2.2.2.2.cells ∧ 6 ≤ M.2.2.2.2.2.slots) (hLn : L.length = M.2.2.1) (hPX : PX cls) : Y x pc L [] σ τ 0 0 (xZi x Q σ τ PX) := by
  obtain ⟨p, l, e, R, s, m, args, below, meth, c, bs, D, cA⟩ := x
  obtain ⟨⟨hx, hb, hr, hml, hown, hts, hlk, hK, hR, hst, hsz⟩, ht, hthr, hl⟩ := C
  intro H locs ls hP hS hL
  obtain ⟨-, -, -, hU, hN, hS8⟩ := hst
  obtain ⟨sa, hsa⟩ := hS8 _ hstr
  subst hR
  refine vx_throwSW (A := fun q => bs ≤ q) (names := xNm) hx hb hl hown hfit (by decide +kernel) (hts _ hw1) (hts _ hw2) hsa (vx_hat (fun w hw => hts w (hat w hw)) hbad (hthr.bad hcc)) hgood hU hN hS (hL.1.trans (hLn.trans hml.symm)) d0 d3 d4 d7 d10 (fun y hy => by rw [ht] at hy; cases hy) hRM.1 hRM.2.1 hRM.2.2.1 hRM.2.2.2 hlk (fun t hal hz hq => ⟨(σ, τ), rfl, ⟨hPX, hP.kept (fun k q hk => hq _ (vx_lt hP hk))⟩, ⟨Nat.le_trans hS.1 hz, fun q h1 h2 => (hq q (Nat.lt_of_lt_of_le h1 hS.1)).trans (hS.2.1 q h1 h2)⟩⟩) hS.2.2 (Nat.le_refl _) (Nat.le_refl _)
/-- a handler's entry: on the stack some exception -/
def Yh (x : xC) (pc : Nat) (L : List (Option Value)) (σ : xS) (τ : xT) (k n : Nat) (Z : State → Prop) : Prop := match x with
  | (p, l, e, R, s, m, args, below, meth, c, bs, D, cA) => ∀ (H : Heap) (locs : List Loc) (ls : Array Slot) (q : Addr), va_P D vwCl (xws σ τ bs cA) H → va_S (fun q => bs ≤ q) s.heap H locs → xl bs L ls → W p l e R s m args below meth c H locs k n Z (F0 m pc ls [.ref q])
theorem xl_st0 {bs i : Nat} {L : List (Option Value)} {ls' : Array Slot} {u : Value} (hlt : i < L.length) (h : lv_has ls' L.length ((i, u) :: (xpl bs L).filter (fun q => !(q.1 == i) && !(q.1 + 1 == i && q.2.category == 2)))) : xl bs (xst L i none) ls' := by
  refine ⟨by rw [xst_len]; exact h.1, h.2.1, fun j u hj => ?_⟩
  rcases xst_at hj with ⟨e, e2⟩ | ⟨e, e2, e3⟩
  · cases e2
  · refine h.2.2 (j, xv bs u) (List.mem_cons_of_mem _ (List.mem_filter.mpr ⟨xpl_mem e2, ?_⟩))
    rw [xv_cat]
    by_cases h1 : j + 1 = i
    · have : ¬ u.category = 2 := fun q => e3 ⟨h1, q⟩
      simp [e, this]
    · simp [e, h1]
theorem yh_astore (C : Cx x M) {i : Nat} (hdg : decode M.2.1 pc = .ok (.astore i, 2)) {L' : List (Option Value)} (hlt : i < L.length) (hL' : xst L i none = L') (kk : Y x (pc + 2) L' [] σ τ k n Z) : Yh x pc L σ τ k n Z := by
  obtain ⟨p, l, e, R, s, m, args, below, meth, c, bs, D, cA⟩ := x
  obtain ⟨hx, hb, hr, hml, hown, hts, hlk, hK, hR, hst, hsz⟩ := C
  intro H locs ls q hP hS hL
  exact lv_astore hx hb hdg (xl_has hL) hlt rfl (fun ls' hl' => kk H locs ls' hP hS (by rw [← hL']; exact xl_st0 hlt hl'))
theorem yh_astore_n (C : Cx x M) {q : Fin 4} (hdg : decode M.2.1 pc = .ok (.astore_n q, 1)) {L' : List (Option Value)} (hlt : (q : Nat) < L.length) (hL' : xst L (q : Nat) none = L') (kk : Y x (pc + 1) L' [] σ τ k n Z) : Yh x pc L σ τ k n Z := by
  obtain ⟨p, l, e, R, s, m, args, below, meth, c, bs, D, cA⟩ := x
  obtain ⟨hx, hb, hr, hml, hown, hts, hlk, hK, hR, hst, hsz⟩ := C
  intro H locs ls q' hP hS hL
  exact lv_astore_n hx hb hdg rfl (xl_has hL) hlt rfl (fun ls' hl' => kk H locs ls' hP hS (by rw [← hL']; exact xl_st0 hlt hl'))
theorem zblind {bs : Nat} {D : va_G} {cA : Nat → ClassId} {av : List Value} : FrameBlind (va_Pc av (fun U => xRep bs D cA σ τ U ∧ xThr U)) := by
  intro a U g mk q
  obtain ⟨q0, ⟨q1, q2, q3⟩, q4⟩ := q
  exact ⟨q0, ⟨q1, va_K.moved (u := U) (U := U.calling g mk a) (Vm.Alike.refl U.vm) q2, xStat.same (u := U) (U := U.calling g mk a) q3 rfl rfl⟩, xThr.same (u := U) (U := U.calling g mk a) q4 rfl⟩
/-- a row of the table that takes E, those ahead of it don't -/
def xHit (M : xM) (hh : List ExceptionTableEntry) (pc : Nat) (E : String) (hp : Nat) : Prop := ∃ (pre : List ExceptionTableEntry) (y : ExceptionTableEntry) (suf : List ExceptionTableEntry), hh = pre ++ y :: suf ∧ (∀ z ∈ pre, z.catchType ≠ 0 ∧ ∃ nm, nm ∈ xCast ∧ E ≠ nm ∧ Cond.classLink M.1.cls z.catchType nm ∈ M.2.2.2.2.1) ∧ covers y pc = true ∧ y.catchType ≠ 0 ∧ Cond.classLink M.1.cls y.catchType E ∈ M.2.2.2.2.1 ∧ E ∈ xCast ∧ y.handlerPc = hp
theorem y_callZ (C : Cz x M hh) {M2 : xM} {as rest : List Value} {Q : Int32 → xS → xT → Prop} {idx b : Nat} {ws' : List Cond} (hX : Zi M2 (.ref b :: as) σ τ Q PX) (hdg : decode M.2.1 pc = .ok (.invokevirtual idx, 3)) (hst0 : st = as.reverse ++ (.ref b :: rest)) (hG : GoodIn M.2.2.2.2.1 (wsV M.1.cls idx M2.1.cls M2.1 M2.2.2.2.2.1)) (hw : M2.2.2.2.2.1 = Cond.code M2.1 M2.2.1 M2.2.2.1 M2.2.2.2.1 :: ws') (hrc : xIs M2.1.cls b) (hd : M2.1.cls = M2.1.cls ∧ M2.1.cls ≠ "java/lang/invoke/MethodHandle" ∧ M2.1.cls ≠ "java/lang/invoke/VarHandle" ∧ (parseMethodDescriptor M2.1.desc).map (fun d => d.parameters.length) = some as.length) (hrm : M2.2.2.2.2.2.cells = 1 ∧ M2.2.2.2.2.2.slots = 6) (hRM : M2.2.2.2.2.2.frames + 1 ≤ M.2.2.2.2.2.frames ∧ 8 + (M2.2.2.1 + 11) + M2.2.2.2.2.2.locals ≤ M.2.2.2.2.2.locals) (hLn : L.length = M.2.2.1) (hro : (rest.map fun v => v.category).sum ≤ 8) (hkn : 1 ≤ M.2.2.2.2.2.cells ∧ 6 ≤ M.2.2.2.2.2.slots)
    (kx : ∀ E : String, PX E → ∃ hp, xHit M hh pc E hp ∧ Yh x hp L σ τ 1 6 Z) (kk : ∀ (r : Int32) (σ1 : xS) (τ1 : xT), Q r σ1 τ1 → Y x (pc + 3) L (.int r :: rest) σ1 τ1 1 6 Z) : Y x pc L st σ τ 0 0 Z := by
  obtain ⟨p, l, e, R, s, m, args, below, meth, c, bs, D, cA⟩ := x
  obtain ⟨⟨hx, hb, hr, hml, hown, hts, hlk, hK, hR, hst, hsz⟩, ht, hthr, hl⟩ := C
  intro H locs ls hP hS hL
  subst hR
  have hst1 : st.map (xv bs) = (as.map (xv bs)).reverse ++ (.ref (bs + b) :: rest.map (xv bs)) := by rw [hst0]; simp [xv]
  rw [hst1]
  obtain ⟨ci, fs, T, N, hb1, hb2, hb3⟩ := hrc
  have he := xws_get (σ := σ) (τ := τ) (bs := bs) (cA := cA) hb1
  rw [hb2] at he
  refine vx_calli (vx_runV (nL := M.2.2.1) (As := as.map (xv bs)) (rest := rest.map (xv bs)) ⟨hx, hb, hml, hown, hts⟩ (hX l hl bs D cA) (cwV as.length hts hG hw hrm.1 hrm.2 hd hRM) ⟨zblind, va_recv hK hP hb3 he, fun U hU hW => ⟨rfl, ⟨by rw [hU]; exact hP, va_K.moved hW.alike hK, hst.move hS hU hW⟩, hthr.move hW⟩⟩ rfl (by simp) (hL.1.trans hLn) rfl (lv_room (by rw [List.map_map, xcat_map]; exact hro)) hdg ⟨by rw [Nat.zero_add]; exact hkn.1, by rw [Nat.zero_add]; exact hkn.2⟩) hS (fun q _ h => h) (fun q h => h) (fun q _ h => h)
    (fun E ce q9 u t H1 locs1 ht1 _ hpx hBX hz hk1 hS1 hce hcv hcl => ?_) (fun r u t H1 locs1 ht _ hpost hB _ _ hS1 => by
      have h9 := kk r u.1 u.2 hpost H1 locs1 ls (ht ▸ hB) hS1 hL
      exact h9)
  subst hpx
  obtain ⟨hp, ⟨pre, y, suf, h1, h2, h3, h4, h5, h6, h7⟩, hY⟩ := kx E hBX.1
  rw [h1] at ht
  subst h7
  exact vx_catch hown pre y suf ht (fun z hz2 => by
    obtain ⟨g1, nm, g2, g3, g4⟩ := h2 z hz2
    exact Or.inr ⟨g1, nm, hts _ g4, hthr.2.1 E h6 nm g2 g3⟩) h3 h4 (hts _ h5) (va_Nw.use rfl (hthr.1 E h6)) hce hcv hcl (hY H1 locs1 ls q9 (ht1 ▸ hBX.2) hS1 hL)
end YZ
theorem tw_bad : ∀ q ∈ [(34, "java/lang/IllegalArgumentException"), (63, "java/lang/IndexOutOfBoundsException"), (144, "java/lang/IllegalStateException")], ∀ w ∈ (vx_atS RX8 q.1 q.2 xNm).filter (fun w => !goodWord w), w ∈ xBad q.2 := by decide +kernel
theorem tw_good : ∀ q ∈ [(30, 34, "java/lang/IllegalArgumentException"), (59, 63, "java/lang/IndexOutOfBoundsException"), (140, 144, "java/lang/IllegalStateException")], ∀ w ∈ Cond.classLink RX8 q.1 q.2.2 :: Cond.initialized q.2.2 :: vx_atS RX8 q.2.1 q.2.2 xNm, vx_ot w = true := by decide +kernel
