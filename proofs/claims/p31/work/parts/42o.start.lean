/-! THE CLAIM OUT OF ONE WALK OF THE LAW'S BODY. Your part is whole_start (and what it stands on); all else here is the same for every law, but numbers. -/
def R_law : String := "SmokeGuardLaw"
def lw_P (b : Addr) (xs : List Int32) (args : Array Value) (s : State) : Prop := args = #[.ref b] ∧ s.IntsAt b xs ∧ xs.length ≤ 260 ∧ (Jvm.Cond.and given_1 narrow_1).before args s = true
def lw_Q (_ : Array Value) (s : State) (o : Outcome) (t : State) : Prop := o = .returned (some (.int 1)) ∧ Framed s o t [] 644433 7168400
def lw_Z (below : List Frame) (a : Array Value) (s : State) : State → Prop := fun t => ∃ o, t.status = .running ∧ Ended t below o ∧ lw_Q a s o t
/-- the law's own end, with 1 on the stack, nothing written that was there before, its room as the claim has it -/
theorem lw_ret {p : Program} {l : Launch} {e : Env} {s : State} {m : MethodId} {below : List Frame} {meth : Method} {c : Code} {b : Nat} (hx : p.tables.exec = Jvm.exec) (hb : c.code = code) (hr : meth.sig.returnType = ret) (hlocks : meth.locks = false) {pc : Nat} {H : Heap} {ls : Array Slot} (hdg : decode code pc = .ok (.ireturn, 1)) : W p l e room_1 s m #[Value.ref b] below meth c H [] 644433 7168400 (lw_Z below #[Value.ref b] s) (F0 m pc ls [.int 1]) := by
  intro T hT X
  obtain ⟨fs, hret, hrun, hended, hW, hframe⟩ := X.leave (v := some (.int 1)) (hlocks := hlocks) (fun h => by rw [hr] at h; cases h)
  have hmeth' : T.vm.method? m = some meth := X.method'
  refine ⟨T.setFrames fs, ?_, .returned (some (.int 1)), hrun, hended, rfl, ⟨_, rfl⟩, hW, hframe⟩
  jvm_step X.here [X.here.top, hx, hb, hdg, hmeth', hr, ret, narrow_b1]
  (try refine ⟨rfl, ?_⟩); (try refine ⟨rfl, ?_⟩)
  first | (intro acts; rw [hret _ acts rfl rfl rfl]) | rw [hret _ _ rfl rfl rfl]
  exact Steps.refl _
/-- what holds at the law's entry: the machine, the code, the tables' words (any of lw_tbl by 'hts w (by decide +kernel)'), the script of L ints xs at the cell b, what the Statement gives of the start (any of its parts by flat_of_before) -/
def lw_At (p : Program) (s : State) (m : MethodId) (meth : Method) (c : Code) (b L : Nat) (xs : Nat → Int32) : Prop :=
  p.tables.exec = Jvm.exec ∧ c.code = code ∧ meth.sig.returnType = ret ∧ c.maxLocals = 11 ∧ s.vm.findClass R_law = some m.cls ∧ (∀ w ∈ lw_tbl, w.before #[Value.ref b] s = true) ∧ va_X b L xs s s.heap ∧ b < s.heap.size ∧ meth.locks = false ∧ (Jvm.Cond.and given_1 narrow_1).before #[Value.ref b] s = true
/-! what the tables and the start give, at the law's entry -/
set_option maxRecDepth 100000 in
theorem st_nest : ∀ q ∈ xNest, Cond.methodLinkNest q.1 q.2.1 q.2.2 RX8 ∈ lw_tbl := by decide +kernel
set_option maxRecDepth 100000 in
theorem st_pnest : ∀ q ∈ pNest, Cond.methodLinkNest q.1 q.2.1 q.2.2 RX8 ∈ lw_tbl := by decide +kernel
set_option maxRecDepth 100000 in
theorem st_over : Cond.arrayOver (.object RX7) ∈ lw_tbl := by decide +kernel
set_option maxRecDepth 100000 in
theorem st_arr : Cond.arrayClass .int ∈ lw_tbl := by decide +kernel
set_option maxRecDepth 100000 in
theorem st_strs : ∀ q ∈ xStrs, Cond.stringRef q.1 q.2.1 q.2.2 ∈ lw_tbl := by decide +kernel
set_option maxRecDepth 100000 in
theorem st_cast : ∀ a ∈ xCast, Cond.castable a a ∈ lw_tbl := by decide +kernel
set_option maxRecDepth 100000 in
theorem st_decl : ∀ a ∈ xDecl, Cond.declares (Bundle.initS a) ∈ lw_tbl := by decide +kernel
set_option maxRecDepth 100000 in
theorem st_lays : Cond.laysStatic "SmokeGuard" "SETTING_LEAST" "[I" ∈ lw_tbl ∧ Cond.laysStatic "SmokeGuard" "SETTING_MOST" "[I" ∈ lw_tbl ∧ Cond.laysStatic Bundle.tN "UNASSIGNED_STACK" Bundle.steD ∈ lw_tbl ∧ Cond.laysStatic Bundle.tN "SUPPRESSED_SENTINEL" Bundle.listD ∈ lw_tbl := by decide +kernel
set_option maxRecDepth 100000 in
theorem st_ini : Cond.initialized "SmokeGuard" ∈ lw_tbl ∧ Cond.initialized Bundle.tN ∈ lw_tbl := by decide +kernel
set_option maxRecDepth 100000 in
theorem st_insts : Cond.instantiable RX0 4 ∈ lw_tbl ∧ Cond.instantiable RX1 5 ∈ lw_tbl ∧ Cond.instantiable RX2 6 ∈ lw_tbl ∧ Cond.instantiable RX3 4 ∈ lw_tbl ∧ Cond.instantiable RX4 3 ∈ lw_tbl ∧ Cond.instantiable RX5 5 ∈ lw_tbl ∧ Cond.instantiable RX6 8 ∈ lw_tbl ∧ Cond.instantiable RX7 8 ∈ lw_tbl ∧ Cond.instantiable RX8 3 ∈ lw_tbl := by decide +kernel
def lw_fl : List Cond := flatC (Jvm.Cond.and given_1 narrow_1)
set_option maxRecDepth 100000 in
theorem sf_strs : ∀ q ∈ xStrs, Cond.exactly (.string q.1 q.2.1) "java/lang/String" ∈ lw_fl := by decide +kernel
set_option maxRecDepth 100000 in
theorem sf_not : ∀ a ∈ xCast, ∀ b ∈ xCast, a ≠ b → Cond.not (.castable a b) ∈ lw_fl := by decide +kernel
set_option maxRecDepth 100000 in
theorem sf_lo : Cond.arrayOf (.static "SmokeGuard" "SETTING_LEAST" "[I") .int ∈ lw_fl ∧ Cond.eq (.length (.static "SmokeGuard" "SETTING_LEAST" "[I")) (.int (Int32.ofNat 6)) ∈ lw_fl ∧ ∀ j, j < 6 → Cond.eq (.elem (.static "SmokeGuard" "SETTING_LEAST" "[I") (.int (Int32.ofNat j))) (.int (sLo j)) ∈ lw_fl := by decide +kernel
set_option maxRecDepth 100000 in
theorem sf_hi : Cond.arrayOf (.static "SmokeGuard" "SETTING_MOST" "[I") .int ∈ lw_fl ∧ Cond.eq (.length (.static "SmokeGuard" "SETTING_MOST" "[I")) (.int (Int32.ofNat 6)) ∈ lw_fl ∧ ∀ j, j < 6 → Cond.eq (.elem (.static "SmokeGuard" "SETTING_MOST" "[I") (.int (Int32.ofNat j))) (.int (sHi j)) ∈ lw_fl := by decide +kernel
set_option maxRecDepth 100000 in
theorem sf_ref : Cond.isRef (.static Bundle.tN "UNASSIGNED_STACK" Bundle.steD) ∈ lw_fl ∧ Cond.isRef (.static Bundle.tN "SUPPRESSED_SENTINEL" Bundle.listD) ∈ lw_fl := by decide +kernel
theorem xty_int : ∀ k, k < 165 → k ≠ 56 → xty (xSH k) = .int := by
  intro k hk h1
  have h0 : ∀ k, k < 165 → k ≠ 56 → (match xSH k with | .inl _ => true | .inr o => decide (o.1 = 0)) = true := by decide +kernel
  have h := h0 k hk h1
  cases e : xSH k with
  | inl o => rfl
  | inr o =>
    rw [e] at h
    obtain ⟨kd, N⟩ := o
    obtain rfl : kd = 0 := of_decide_eq_true h
    rfl
theorem xtys_at {cA : Nat → ClassId} {j : Nat} {q : ClassId × FieldType} (h : (xtys cA)[j]? = some q) : j < 165 ∧ q = (cA j, xty (xSH j)) := by
  have hj : j < 165 := by
    have := (List.getElem?_eq_some_iff.mp h).1
    simpa [xtys] using this
  rw [xtys_get hj] at h
  exact ⟨hj, (Option.some.inj h).symm⟩
set_option maxRecDepth 100000 in
theorem st_entry {s : State} {args : Array Value} (hts : ∀ w ∈ lw_tbl, w.before args s = true) (hgv : (Jvm.Cond.and given_1 narrow_1).before args s = true) : ∃ (D : va_G) (cA : Nat → ClassId), va_K D vwCl (xtys cA) s ∧ xStat s.heap.size s ∧ xThr s ∧ pStat s := by
  have hfl : ∀ c ∈ lw_fl, c.before args s = true := flat_of_before _ hgv
  have hA : ∀ a : Nat, a < s.heap.size → ¬ s.heap.size ≤ a := fun a h => Nat.not_le.mpr h
  obtain ⟨i0, i1, i2, i3, i4, i5, i6, i7, i8⟩ := st_insts
  obtain ⟨c0, s0, k0⟩ := u_known (C := RX0) (T := TX0) (N := 4) (n := 4) hts inX0 (hts _ i0)
  obtain ⟨c1, s1, k1⟩ := u_known (C := RX1) (T := TX1) (N := 5) (n := 5) hts inX1 (hts _ i1)
  obtain ⟨c2, s2, k2⟩ := u_known (C := RX2) (T := TX2) (N := 6) (n := 6) hts inX2 (hts _ i2)
  obtain ⟨c3, s3, k3⟩ := u_known (C := RX3) (T := TX3) (N := 4) (n := 4) hts inX3 (hts _ i3)
  obtain ⟨c4, s4, k4⟩ := u_known (C := RX4) (T := TX4) (N := 3) (n := 3) hts inX4 (hts _ i4)
  obtain ⟨c5, s5, k5⟩ := u_known (C := RX5) (T := TX5) (N := 5) (n := 5) hts inX5 (hts _ i5)
  obtain ⟨c6, s6, k6⟩ := u_known (C := RX6) (T := TX6) (N := 8) (n := 8) hts inX6 (hts _ i6)
  obtain ⟨c7, s7, k7⟩ := u_known (C := RX7) (T := TX7) (N := 8) (n := 8) hts inX7 (hts _ i7)
  obtain ⟨c8, s8, k8⟩ := u_known (C := RX8) (T := TX8) (N := 3) (n := 3) hts inX8 (hts _ i8)
  obtain ⟨cI, kI, pI, hI1, hI2, hI3⟩ := Cond.arrayClass_spec (hts _ st_arr)
  obtain ⟨pW, cW, kW9, hW1, -, hW2, hW3, hW4⟩ := Cond.arrayOver_spec (hts _ st_over)
  refine ⟨(fun k => [c0, c1, c2, c3, c4, c5, c6, c7, c8].getD k c0, fun k => [s0, s1, s2, s3, s4, s5, s6, s7, s8].getD k s0), fun k => if k = 56 then cW else cI, ⟨?_, ?_⟩, ⟨?_, ?_, ?_, ?_, ?_, ?_⟩, ⟨?_, ?_, ?_⟩, ⟨?_, ?_⟩⟩
  · intro k q hq
    match k, hq with
    | 0, hq => cases hq; exact k0
    | 1, hq => cases hq; exact k1
    | 2, hq => cases hq; exact k2
    | 3, hq => cases hq; exact k3
    | 4, hq => cases hq; exact k4
    | 5, hq => cases hq; exact k5
    | 6, hq => cases hq; exact k6
    | 7, hq => cases hq; exact k7
    | 8, hq => cases hq; exact k8
    | k + 9, hq => simp [vwCl] at hq
  · intro k q hq
    obtain ⟨hk, rfl⟩ := xtys_at hq
    by_cases e1 : k = 56
    · subst e1
      refine ⟨?_, ?_⟩
      · show ArrOfT s (if (56 : Nat) = 56 then cW else cI) (.object "SmokeGuard$World")
        rw [if_pos rfl]
        exact fun n z => ⟨fun k h => (by cases h), kW9, hW2, pW, hW3⟩
      · show va_RA s (if (56 : Nat) = 56 then cW else cI) (.object "SmokeGuard$World")
        rw [if_pos rfl]
        exact ⟨kW9, pW, hW2, hW3, hW1, hW4⟩
    · simp only [xty_int k hk e1]
      refine ⟨?_, ?_⟩
      · show ArrOfT s (if k = 56 then cW else cI) .int
        rw [if_neg e1]
        exact fun n z => ⟨fun k h => (by cases h), kI, hI2, pI, hI3⟩
      · show s.vm.findClass _ = some (if k = 56 then cW else cI)
        rw [if_neg e1]
        exact hI1
  · intro q hq
    exact va_Nw.of rfl (hts _ (st_nest q hq))
  · obtain ⟨t0, e0, hT⟩ := va_Tof (N := 6) (f := xLeast) (A := fun q => s.heap.size ≤ q) (by decide) (hfl _ sf_lo.1) (va_eqt (hfl _ sf_lo.2.1)) (fun j hj => va_eqt (hfl _ (sf_lo.2.2 j hj))) hA
    exact ⟨t0, va_Zof (hts _ st_lays.1) (hts _ st_ini.1) e0 hA, hT⟩
  · obtain ⟨t0, e0, hT⟩ := va_Tof (N := 6) (f := xMost) (A := fun q => s.heap.size ≤ q) (by decide) (hfl _ sf_hi.1) (va_eqt (hfl _ sf_hi.2.1)) (fun j hj => va_eqt (hfl _ (sf_hi.2.2 j hj))) hA
    exact ⟨t0, va_Zof (hts _ st_lays.2.1) (hts _ st_ini.1) e0 hA, hT⟩
  · exact vx_Zqof (hts _ st_lays.2.2.1) (hts _ st_ini.2) (hfl _ sf_ref.1) hA
  · exact vx_Zqof (hts _ st_lays.2.2.2) (hts _ st_ini.2) (hfl _ sf_ref.2) hA
  · intro q hq
    obtain ⟨a, c, cell, k, q1, -⟩ := Cond.exactly_spec (args := args) (first := s) (o := none) (s := s) (idx := []) (t := .string q.1 q.2.1) (cls := "java/lang/String") (hfl _ (sf_strs q hq))
    exact ⟨a, vk_R.of (A := args) (hts _ (st_strs q hq)) q1⟩
  · intro a ha
    exact va_Nw.of rfl (hts _ (st_cast a ha))
  · intro a ha b hb n
    exact va_Nc.of (hfl _ (sf_not a ha b hb n))
  · intro a ha
    exact va_Nw.of rfl (hts _ (st_decl a ha))
  · intro q hq
    exact va_Nw.of rfl (hts _ (st_pnest q hq))
  · exact va_AO.of (hts _ st_over)
