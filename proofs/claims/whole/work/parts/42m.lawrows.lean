/-! THE LAW'S FRAME: the layer with the script (its cell b0, L9 ints xs9) in local 0 -/
abbrev mL_law : xM := (x, code, 7, ret, wsL_law, room_1)
def Lw (x : xC) (b0 L9 : Nat) (xs9 : Nat → Int32) : Prop := Cx x mL_law ∧ Cp x mL_law ∧ match x with
  | (_, l, _, _, s, _, args, _, _, _, bs, _, _) => va_X b0 L9 xs9 s s.heap ∧ b0 < s.heap.size ∧ bs = s.heap.size ∧ L9 ≤ 3072 ∧ xThr s ∧ l.stackTraces = false ∧ args = #[Value.ref b0]
def Yw (x : xC) (b0 : Nat) (pc : Nat) (L : List (Option Value)) (st : List Value) (σ : xS) (τ : xT) (k n : Nat) (Z : State → Prop) : Prop := match x with
  | (p, l, e, R, s, m, args, below, meth, c, bs, D, cA) => ∀ (H : Heap) (locs : List Loc) (ls : Array Slot), va_P D vwCl (xws σ τ bs cA) H → va_S (fun q => bs ≤ q) s.heap H locs → xl bs L ls → ls[0]? = some (.val (.ref b0)) → W p l e R s m args below meth c H locs k n Z (F0 m pc ls (st.map (xv bs)))
def Yq (x : xC) (b0 : Nat) (pc : Nat) (L : List (Option Value)) (st : List Value) (σ : xS) (φ : xP) (g k n : Nat) (Z : State → Prop) : Prop := match x with
  | (p, l, e, R, s, m, args, below, meth, c, bs, D, cA) => ∀ (H : Heap) (locs : List Loc) (ls : Array Slot), va_P D vwCl (pws σ φ bs cA g) H → H.size = bs + g → va_S (fun q => bs ≤ q) s.heap H locs → xl bs L ls → ls[0]? = some (.val (.ref b0)) → W p l e R s m args below meth c H locs k n Z (F0 m pc ls (st.map (xv bs)))
def xEw (x : xC) : State → Prop := match x with
  | (_, _, _, _, s, _, args, below, _, _, _, _, _) => lw_Z below args s
theorem h0_has {bs b0 : Nat} {L : List (Option Value)} {ls : Array Slot} (hL : xl bs L ls) (h0 : ls[0]? = some (.val (.ref b0))) : lv_has ls L.length ((0, Value.ref b0) :: xpl bs L) := by
  have h := xl_has hL
  refine ⟨h.1, h.2.1, fun q hq => ?_⟩
  rcases List.mem_cons.mp hq with e | e
  · rw [e]; exact h0
  · exact h.2.2 q e
theorem h0_st {b0 nL i : Nat} {l : List (Nat × Value)} {u : Value} {ls : Array Slot} (hi : i ≠ 0) (h : lv_has ls nL ((i, u) :: ((0, Value.ref b0) :: l).filter (fun q => !(q.1 == i) && !(q.1 + 1 == i && q.2.category == 2)))) : lv_has ls nL ((i, u) :: l.filter (fun q => !(q.1 == i) && !(q.1 + 1 == i && q.2.category == 2))) ∧ ls[0]? = some (.val (.ref b0)) := by
  have e1 : ((0 : Nat) == i) = false := by
    cases h9 : ((0 : Nat) == i) with
    | false => rfl
    | true => exact absurd (eq_of_beq h9).symm hi
  have e2 : (fun q : Nat × Value => !(q.1 == i) && !(q.1 + 1 == i && q.2.category == 2)) (0, Value.ref b0) = true := by
    show (!((0 : Nat) == i) && !(0 + 1 == i && (Value.ref b0).category == 2)) = true
    have e3 : ((Value.ref b0).category == 2) = false := rfl
    rw [e1, e3, Bool.and_false]
    rfl
  refine ⟨⟨h.1, h.2.1, fun q hq => h.2.2 q ?_⟩, h.2.2 (0, .ref b0) (List.mem_cons_of_mem _ (List.mem_filter.mpr ⟨List.mem_cons_self, e2⟩))⟩
  rcases List.mem_cons.mp hq with e | e
  · rw [e]; exact List.mem_cons_self
  · exact List.mem_cons_of_mem _ (List.mem_filter.mpr ⟨List.mem_cons_of_mem _ (List.mem_filter.mp e).1, (List.mem_filter.mp e).2⟩)
theorem xl_keep {bs : Nat} {L L' : List (Option Value)} {ls : Array Slot} (h : xl bs L ls) (hl : L.length = L'.length) (hk : ∀ (i : Nat) (v : Value), L'[i]? = some (some v) → L[i]? = some (some v)) : xl bs L' ls := ⟨h.1.trans hl, h.2.1, fun i v e => h.2.2 i v (hk i v e)⟩
section YW
variable {x : xC} {b0 L9 : Nat} {xs9 : Nat → Int32} {pc k n g : Nat} {L : List (Option Value)} {st : List Value} {σ : xS} {τ : xT} {φ : xP} {Z : State → Prop}
theorem yw_iload (C : Lw x b0 L9 xs9) {i : Nat} {v : Int32} (hdg : decode mL_law.2.1 pc = .ok (.iload i, 2)) (hl : L[i]? = some (some (.int v))) (kk : Yw x b0 (pc + 2) L (.int v :: st) σ τ k n Z) : Yw x b0 pc L (st) σ τ k n Z := by
  obtain ⟨p, l, e, R, s, m, args, below, meth, c, bs, D, cA⟩ := x
  obtain ⟨hx, hb, hr, hml, hown, hts, hlk, hK, hR, hst, hsz⟩ := C.1
  intro H locs ls hP hS hL h0
  exact lv_iload hx hb hdg (hL.2.2 _ _ hl) (kk H locs ls hP hS hL h0)
theorem yw_aload_n (C : Lw x b0 L9 xs9) {q : Fin 4} {a : Nat} (hdg : decode mL_law.2.1 pc = .ok (.aload_n q, 1)) (hl : L[(q : Nat)]? = some (some (.ref a))) (kk : Yw x b0 (pc + 1) L (.ref a :: st) σ τ k n Z) : Yw x b0 pc L (st) σ τ k n Z := by
  obtain ⟨p, l, e, R, s, m, args, below, meth, c, bs, D, cA⟩ := x
  obtain ⟨hx, hb, hr, hml, hown, hts, hlk, hK, hR, hst, hsz⟩ := C.1
  intro H locs ls hP hS hL h0
  exact lv_aload_n hx hb hdg rfl (hL.2.2 _ _ hl) (kk H locs ls hP hS hL h0)
theorem yw_iconst (C : Lw x b0 L9 xs9) {i : Int} {v : Int32} (hdg : decode mL_law.2.1 pc = .ok (.iconst i, 1)) (hv : Int32.ofInt i = v) (kk : Yw x b0 (pc + 1) L (.int v :: st) σ τ k n Z) : Yw x b0 pc L (st) σ τ k n Z := by
  obtain ⟨p, l, e, R, s, m, args, below, meth, c, bs, D, cA⟩ := x
  obtain ⟨hx, hb, hr, hml, hown, hts, hlk, hK, hR, hst, hsz⟩ := C.1
  intro H locs ls hP hS hL h0
  exact lv_iconst hx hb hdg hv (kk H locs ls hP hS hL h0)
theorem yw_bipush (C : Lw x b0 L9 xs9) {i : Int} {v : Int32} (hdg : decode mL_law.2.1 pc = .ok (.bipush i, 2)) (hv : (Int8.ofInt i).toInt32 = v) (kk : Yw x b0 (pc + 2) L (.int v :: st) σ τ k n Z) : Yw x b0 pc L (st) σ τ k n Z := by
  obtain ⟨p, l, e, R, s, m, args, below, meth, c, bs, D, cA⟩ := x
  obtain ⟨hx, hb, hr, hml, hown, hts, hlk, hK, hR, hst, hsz⟩ := C.1
  intro H locs ls hP hS hL h0
  exact lv_bipush hx hb hdg hv (kk H locs ls hP hS hL h0)
theorem yw_lconst (C : Lw x b0 L9 xs9) {i : Fin 2} {v : Int64} (hdg : decode mL_law.2.1 pc = .ok (.lconst i, 1)) (hv : Int64.ofNat (i : Nat) = v) (kk : Yw x b0 (pc + 1) L (.long v :: st) σ τ k n Z) : Yw x b0 pc L (st) σ τ k n Z := by
  obtain ⟨p, l, e, R, s, m, args, below, meth, c, bs, D, cA⟩ := x
  obtain ⟨hx, hb, hr, hml, hown, hts, hlk, hK, hR, hst, hsz⟩ := C.1
  intro H locs ls hP hS hL h0
  exact lv_lconst hx hb hdg hv (kk H locs ls hP hS hL h0)
theorem yw_isub (C : Lw x b0 L9 xs9) {u v : Int32} (hdg : decode mL_law.2.1 pc = .ok (.isub, 1)) (kk : Yw x b0 (pc + 1) L (.int (u - v) :: st) σ τ k n Z) : Yw x b0 pc L (.int v :: .int u :: st) σ τ k n Z := by
  obtain ⟨p, l, e, R, s, m, args, below, meth, c, bs, D, cA⟩ := x
  obtain ⟨hx, hb, hr, hml, hown, hts, hlk, hK, hR, hst, hsz⟩ := C.1
  intro H locs ls hP hS hL h0
  exact lv_isub hx hb hdg (kk H locs ls hP hS hL h0)
theorem yw_iand (C : Lw x b0 L9 xs9) {u v : Int32} (hdg : decode mL_law.2.1 pc = .ok (.iand, 1)) (kk : Yw x b0 (pc + 1) L (.int (u &&& v) :: st) σ τ k n Z) : Yw x b0 pc L (.int v :: .int u :: st) σ τ k n Z := by
  obtain ⟨p, l, e, R, s, m, args, below, meth, c, bs, D, cA⟩ := x
  obtain ⟨hx, hb, hr, hml, hown, hts, hlk, hK, hR, hst, hsz⟩ := C.1
  intro H locs ls hP hS hL h0
  exact lv_iand hx hb hdg (kk H locs ls hP hS hL h0)
theorem yw_lcmp (C : Lw x b0 L9 xs9) {u v : Int64} (hdg : decode mL_law.2.1 pc = .ok (.lcmp, 1)) (kk : Yw x b0 (pc + 1) L (.int (lg_cmp u v) :: st) σ τ k n Z) : Yw x b0 pc L (.long v :: .long u :: st) σ τ k n Z := by
  obtain ⟨p, l, e, R, s, m, args, below, meth, c, bs, D, cA⟩ := x
  obtain ⟨hx, hb, hr, hml, hown, hts, hlk, hK, hR, hst, hsz⟩ := C.1
  intro H locs ls hP hS hL h0
  exact W.lcmp hx hb hdg (kk H locs ls hP hS hL h0)
theorem yw_i2l (C : Lw x b0 L9 xs9) {u : Int32} (hdg : decode mL_law.2.1 pc = .ok (.i2l, 1)) (kk : Yw x b0 (pc + 1) L (.long u.toInt64 :: st) σ τ k n Z) : Yw x b0 pc L (.int u :: st) σ τ k n Z := by
  obtain ⟨p, l, e, R, s, m, args, below, meth, c, bs, D, cA⟩ := x
  obtain ⟨hx, hb, hr, hml, hown, hts, hlk, hK, hR, hst, hsz⟩ := C.1
  intro H locs ls hP hS hL h0
  exact lv_i2l hx hb hdg rfl (kk H locs ls hP hS hL h0)
theorem yw_goto (C : Lw x b0 L9 xs9) {o : Int} {t : Nat} (hdg : decode mL_law.2.1 pc = .ok (.goto o, 3)) (ht : (pc : Int) + o = (t : Int)) (kk : Yw x b0 (t) L (st) σ τ k n Z) : Yw x b0 pc L (st) σ τ k n Z := by
  obtain ⟨p, l, e, R, s, m, args, below, meth, c, bs, D, cA⟩ := x
  obtain ⟨hx, hb, hr, hml, hown, hts, hlk, hK, hR, hst, hsz⟩ := C.1
  intro H locs ls hP hS hL h0
  exact lv_goto hx hb hdg ht (kk H locs ls hP hS hL h0)
theorem yw_if_eq (C : Lw x b0 L9 xs9) {u : Int32} {o : Int} {t : Nat} (hdg : decode mL_law.2.1 pc = .ok (.ifCond .eq o, 3)) (ht : (pc : Int) + o = (t : Int)) (kt : u = 0 → Yw x b0 t L st σ τ k n Z) (kf : ¬ (u = 0) → Yw x b0 (pc + 3) L st σ τ k n Z) : Yw x b0 pc L (.int u :: st) σ τ k n Z := by
  obtain ⟨p, l, e, R, s, m, args, below, meth, c, bs, D, cA⟩ := x
  obtain ⟨hx, hb, hr, hml, hown, hts, hlk, hK, hR, hst, hsz⟩ := C.1
  intro H locs ls hP hS hL h0
  exact lv_if_eq hx hb hdg ht (fun q => kt q H locs ls hP hS hL h0) (fun q => kf q H locs ls hP hS hL h0)
theorem yw_if_ne (C : Lw x b0 L9 xs9) {u : Int32} {o : Int} {t : Nat} (hdg : decode mL_law.2.1 pc = .ok (.ifCond .ne o, 3)) (ht : (pc : Int) + o = (t : Int)) (kt : ¬ u = 0 → Yw x b0 t L st σ τ k n Z) (kf : u = 0 → Yw x b0 (pc + 3) L st σ τ k n Z) : Yw x b0 pc L (.int u :: st) σ τ k n Z := by
  obtain ⟨p, l, e, R, s, m, args, below, meth, c, bs, D, cA⟩ := x
  obtain ⟨hx, hb, hr, hml, hown, hts, hlk, hK, hR, hst, hsz⟩ := C.1
  intro H locs ls hP hS hL h0
  exact lv_if_ne hx hb hdg ht (fun q => kt q H locs ls hP hS hL h0) (fun q => kf q H locs ls hP hS hL h0)
theorem yw_icmp_eq (C : Lw x b0 L9 xs9) {u v : Int32} {o : Int} {t : Nat} (hdg : decode mL_law.2.1 pc = .ok (.if_icmp .eq o, 3)) (ht : (pc : Int) + o = (t : Int)) (kt : u = v → Yw x b0 t L st σ τ k n Z) (kf : ¬ (u = v) → Yw x b0 (pc + 3) L st σ τ k n Z) : Yw x b0 pc L (.int v :: .int u :: st) σ τ k n Z := by
  obtain ⟨p, l, e, R, s, m, args, below, meth, c, bs, D, cA⟩ := x
  obtain ⟨hx, hb, hr, hml, hown, hts, hlk, hK, hR, hst, hsz⟩ := C.1
  intro H locs ls hP hS hL h0
  exact lv_icmp_eq hx hb hdg ht (fun q => kt q H locs ls hP hS hL h0) (fun q => kf q H locs ls hP hS hL h0)
theorem yw_icmp_gt (C : Lw x b0 L9 xs9) {u v : Int32} {o : Int} {t : Nat} (hdg : decode mL_law.2.1 pc = .ok (.if_icmp .gt o, 3)) (ht : (pc : Int) + o = (t : Int)) (kt : v < u → Yw x b0 t L st σ τ k n Z) (kf : ¬ (v < u) → Yw x b0 (pc + 3) L st σ τ k n Z) : Yw x b0 pc L (.int v :: .int u :: st) σ τ k n Z := by
  obtain ⟨p, l, e, R, s, m, args, below, meth, c, bs, D, cA⟩ := x
  obtain ⟨hx, hb, hr, hml, hown, hts, hlk, hK, hR, hst, hsz⟩ := C.1
  intro H locs ls hP hS hL h0
  exact lv_icmp_gt hx hb hdg ht (fun q => kt q H locs ls hP hS hL h0) (fun q => kf q H locs ls hP hS hL h0)
theorem yw_tableIn (C : Lw x b0 L9 xs9) {dflt lo hi : Int} {offs : Array Int} {len : Nat} {u : Int32} {o : Int} {t : Nat} (hdg : decode mL_law.2.1 pc = .ok (.tableswitch dflt lo hi offs, len)) (h1 : ¬ u.toInt < lo) (h2 : ¬ hi < u.toInt) (ho : offs[(u.toInt - lo).toNat]? = some o) (ht : (pc : Int) + o = (t : Int)) (kk : Yw x b0 t L st σ τ k n Z) : Yw x b0 pc L (.int u :: st) σ τ k n Z := by
  obtain ⟨p, l, e, R, s, m, args, below, meth, c, bs, D, cA⟩ := x
  obtain ⟨hx, hb, hr, hml, hown, hts, hlk, hK, hR, hst, hsz⟩ := C.1
  intro H locs ls hP hS hL h0
  exact lv_tableIn hx hb hdg h1 h2 ho ht (kk H locs ls hP hS hL h0)
theorem yw_tableOut (C : Lw x b0 L9 xs9) {dflt lo hi : Int} {offs : Array Int} {len : Nat} {u : Int32} {t : Nat} (hdg : decode mL_law.2.1 pc = .ok (.tableswitch dflt lo hi offs, len)) (h : u.toInt < lo ∨ hi < u.toInt) (ht : (pc : Int) + dflt = (t : Int)) (kk : Yw x b0 t L st σ τ k n Z) : Yw x b0 pc L (.int u :: st) σ τ k n Z := by
  obtain ⟨p, l, e, R, s, m, args, below, meth, c, bs, D, cA⟩ := x
  obtain ⟨hx, hb, hr, hml, hown, hts, hlk, hK, hR, hst, hsz⟩ := C.1
  intro H locs ls hP hS hL h0
  exact lv_tableOut hx hb hdg h ht (kk H locs ls hP hS hL h0)
theorem yw_la (C : Lw x b0 L9 xs9) {a N : Nat} {i : Int32} (j : Nat) (hdg : decode mL_law.2.1 pc = .ok (.laload, 1)) (ha : a < 171) (hsh : xSH a = .inr (1, N)) (hN : N < 2 ^ 31) (hi : i = nI j) (hj : j < N) (kk : Yw x b0 (pc + 1) L (.long (τ a j) :: st) σ τ k n Z) : Yw x b0 pc L (.int i :: .ref a :: st) σ τ k n Z := by
  obtain ⟨p, l, e, R, s, m, args, below, meth, c, bs, D, cA⟩ := x
  obtain ⟨hx, hb, hr, hml, hown, hts, hlk, hK, hR, hst, hsz⟩ := C.1
  intro H locs ls hP hS hL h0
  have he := xws_get (σ := σ) (τ := τ) (bs := bs) (cA := cA) ha
  have ht := xtys_get (cA := cA) ha
  rw [hsh] at he ht
  subst hi
  refine va_lald (n := N) (f := τ a) hx hb hK hP a a he ht (vp_in_nI hj hN) hdg ?_
  rw [nI_clamp (by omega)]
  exact kk H locs ls hP hS hL h0
theorem yw_callVi (C : Lw x b0 L9 xs9) {M2 : xM} {as rest : List Value} {Q : Int32 → xS → xT → Prop} {idx b : Nat} {ws' : List Cond} (hX : Xi M2 (.ref b :: as) σ τ Q) (hdg : decode mL_law.2.1 pc = .ok (.invokevirtual idx, 3)) (hst0 : st = as.reverse ++ (.ref b :: rest)) (hG : GoodIn mL_law.2.2.2.2.1 (wsV mL_law.1.cls idx M2.1.cls M2.1 M2.2.2.2.2.1)) (hw : M2.2.2.2.2.1 = Cond.code M2.1 M2.2.1 M2.2.2.1 M2.2.2.2.1 :: ws') (hrc : xIs M2.1.cls b) (hd : M2.1.cls = M2.1.cls ∧ M2.1.cls ≠ "java/lang/invoke/MethodHandle" ∧ M2.1.cls ≠ "java/lang/invoke/VarHandle" ∧ (parseMethodDescriptor M2.1.desc).map (fun d => d.parameters.length) = some as.length) (hrm : M2.2.2.2.2.2.cells = 0 ∧ M2.2.2.2.2.2.slots = 0) (hRM : M2.2.2.2.2.2.frames + 1 ≤ mL_law.2.2.2.2.2.frames ∧ 8 + (M2.2.2.1 + 11) + M2.2.2.2.2.2.locals ≤ mL_law.2.2.2.2.2.locals) (hLn : L.length = mL_law.2.2.1) (hro : (rest.map fun v => v.category).sum ≤ 8) (hkn : k ≤ mL_law.2.2.2.2.2.cells ∧ n ≤ mL_law.2.2.2.2.2.slots) (kk : ∀ (r : Int32) (σ1 : xS) (τ1 : xT), Q r σ1 τ1 → Yw x b0 (pc + 3) L (.int r :: rest) σ1 τ1 k n Z) : Yw x b0 pc L st σ τ k n Z := by
  obtain ⟨p, l, e, R, s, m, args, below, meth, c, bs, D, cA⟩ := x
  obtain ⟨hx, hb, hr, hml, hown, hts, hlk, hK, hR, hst, hsz⟩ := C.1
  intro H locs ls hP hS hL h0
  subst hR
  have hst1 : st.map (xv bs) = (as.map (xv bs)).reverse ++ (.ref (bs + b) :: rest.map (xv bs)) := by rw [hst0]; simp [xv]
  rw [hst1]
  obtain ⟨ci, fs, T, N, hb1, hb2, hb3⟩ := hrc
  have he := xws_get (σ := σ) (τ := τ) (bs := bs) (cA := cA) hb1
  rw [hb2] at he
  refine va_calli (va_runV (nL := mL_law.2.2.1) (As := as.map (xv bs)) (rest := rest.map (xv bs)) ⟨hx, hb, hml, hown, hts⟩ (hX l bs D cA) (cwV as.length hts hG hw hrm.1 hrm.2 hd hRM) ⟨xblind, va_recv hK hP hb3 he, fun U hU hW => ⟨rfl, by rw [hU]; exact hP, va_K.moved hW.alike hK, hst.move hS hU hW⟩⟩ rfl (by simp) (hL.1.trans hLn) rfl (lv_room (by rw [List.map_map, xcat_map]; exact hro)) hdg hkn) hS (fun q _ h => h) (fun q h => h) (fun r u t H1 locs1 ht _ hpost hB _ _ hS1 => kk r u.1 u.2 hpost H1 locs1 ls (ht ▸ hB) hS1 hL h0)
theorem yw_callVl (C : Lw x b0 L9 xs9) {M2 : xM} {as rest : List Value} {Q : Int64 → xS → xT → Prop} {idx b : Nat} {ws' : List Cond} (hX : Xl M2 (.ref b :: as) σ τ Q) (hdg : decode mL_law.2.1 pc = .ok (.invokevirtual idx, 3)) (hst0 : st = as.reverse ++ (.ref b :: rest)) (hG : GoodIn mL_law.2.2.2.2.1 (wsV mL_law.1.cls idx M2.1.cls M2.1 M2.2.2.2.2.1)) (hw : M2.2.2.2.2.1 = Cond.code M2.1 M2.2.1 M2.2.2.1 M2.2.2.2.1 :: ws') (hrc : xIs M2.1.cls b) (hd : M2.1.cls = M2.1.cls ∧ M2.1.cls ≠ "java/lang/invoke/MethodHandle" ∧ M2.1.cls ≠ "java/lang/invoke/VarHandle" ∧ (parseMethodDescriptor M2.1.desc).map (fun d => d.parameters.length) = some as.length) (hrm : M2.2.2.2.2.2.cells = 0 ∧ M2.2.2.2.2.2.slots = 0) (hRM : M2.2.2.2.2.2.frames + 1 ≤ mL_law.2.2.2.2.2.frames ∧ 8 + (M2.2.2.1 + 11) + M2.2.2.2.2.2.locals ≤ mL_law.2.2.2.2.2.locals) (hLn : L.length = mL_law.2.2.1) (hro : (rest.map fun v => v.category).sum ≤ 8) (hkn : k ≤ mL_law.2.2.2.2.2.cells ∧ n ≤ mL_law.2.2.2.2.2.slots) (kk : ∀ (r : Int64) (σ1 : xS) (τ1 : xT), Q r σ1 τ1 → Yw x b0 (pc + 3) L (.long r :: rest) σ1 τ1 k n Z) : Yw x b0 pc L st σ τ k n Z := by
  obtain ⟨p, l, e, R, s, m, args, below, meth, c, bs, D, cA⟩ := x
  obtain ⟨hx, hb, hr, hml, hown, hts, hlk, hK, hR, hst, hsz⟩ := C.1
  intro H locs ls hP hS hL h0
  subst hR
  have hst1 : st.map (xv bs) = (as.map (xv bs)).reverse ++ (.ref (bs + b) :: rest.map (xv bs)) := by rw [hst0]; simp [xv]
  rw [hst1]
  obtain ⟨ci, fs, T, N, hb1, hb2, hb3⟩ := hrc
  have he := xws_get (σ := σ) (τ := τ) (bs := bs) (cA := cA) hb1
  rw [hb2] at he
  refine va_calll (va_runV (nL := mL_law.2.2.1) (As := as.map (xv bs)) (rest := rest.map (xv bs)) ⟨hx, hb, hml, hown, hts⟩ (hX l bs D cA) (cwV as.length hts hG hw hrm.1 hrm.2 hd hRM) ⟨xblind, va_recv hK hP hb3 he, fun U hU hW => ⟨rfl, by rw [hU]; exact hP, va_K.moved hW.alike hK, hst.move hS hU hW⟩⟩ rfl (by simp) (hL.1.trans hLn) rfl (lv_room (by rw [List.map_map, xcat_map]; exact hro)) hdg hkn) hS (fun q _ h => h) (fun q h => h) (fun r u t H1 locs1 ht _ hpost hB _ _ hS1 => kk r u.1 u.2 hpost H1 locs1 ls (ht ▸ hB) hS1 hL h0)
theorem yw_istore (C : Lw x b0 L9 xs9) {i : Nat} {v : Int32} (hdg : decode mL_law.2.1 pc = .ok (.istore i, 2)) {L' : List (Option Value)} (hi0 : i ≠ 0) (hlt : i < L.length) (hL' : xst L i (some (.int v)) = L') (kk : Yw x b0 (pc + 2) L' st σ τ k n Z) : Yw x b0 pc L ((.int v) :: st) σ τ k n Z := by
  obtain ⟨p, l, e, R, s, m, args, below, meth, c, bs, D, cA⟩ := x
  obtain ⟨hx, hb, hr, hml, hown, hts, hlk, hK, hR, hst, hsz⟩ := C.1
  intro H locs ls hP hS hL h0
  refine lv_istore hx hb hdg (h0_has hL h0) hlt rfl (fun ls' hl' => ?_)
  obtain ⟨hl2, h02⟩ := h0_st hi0 hl'
  exact kk H locs ls' hP hS (by rw [← hL']; exact xl_st1 hlt hl2) h02
theorem yw_iinc (C : Lw x b0 L9 xs9) {i : Nat} {d : Int} {u v : Int32} (hdg : decode mL_law.2.1 pc = .ok (.iinc i d, 3)) {L' : List (Option Value)} (hi0 : i ≠ 0) (hl : L[i]? = some (some (.int u))) (hv : u + Int32.ofInt d = v) (hL' : xst L i (some (.int v)) = L') (kk : Yw x b0 (pc + 3) L' st σ τ k n Z) : Yw x b0 pc L st σ τ k n Z := by
  obtain ⟨p, l, e, R, s, m, args, below, meth, c, bs, D, cA⟩ := x
  obtain ⟨hx, hb, hr, hml, hown, hts, hlk, hK, hR, hst, hsz⟩ := C.1
  intro H locs ls hP hS hL h0
  obtain ⟨j, hj⟩ := List.mem_iff_getElem?.mp (xpl_mem (bs := bs) hl)
  have hlt : i < L.length := (List.getElem?_eq_some_iff.mp hl).1
  refine lv_iinc hx hb hdg (h0_has hL h0) (k := j + 1) (by rw [List.getElem?_cons_succ]; exact hj) hv hlt rfl (fun ls' hl' => ?_)
  obtain ⟨hl2, h02⟩ := h0_st hi0 hl'
  exact kk H locs ls' hP hS (by rw [← hL']; exact xl_st1 hlt hl2) h02
theorem yw_callXw (C : Lw x b0 L9 xs9) {M2 : xM} {as rest : List Value} {Q : Int32 → xS → xT → Prop} {idx : Nat} {hh : List (Nat × Nat × Nat × Nat)} {ws' : List Cond} (hX : Xw M2 as σ τ Q) (hdg : decode mL_law.2.1 pc = .ok (.invokestatic idx, 3)) (hst0 : st = as.reverse ++ rest) (hG : GoodIn mL_law.2.2.2.2.1 (va_wsS mL_law.1.cls idx M2.1 M2.2.2.2.2.1)) (hw : M2.2.2.2.2.1 = Cond.codeWith M2.1 M2.2.1 M2.2.2.1 M2.2.2.2.1 hh :: ws') (hd : M2.1.cls ≠ "java/lang/invoke/MethodHandle" ∧ M2.1.cls ≠ "java/lang/invoke/VarHandle" ∧ (parseMethodDescriptor M2.1.desc).map (fun d => d.parameters.length) = some as.length) (hrm : M2.2.2.2.2.2.cells = 1 ∧ M2.2.2.2.2.2.slots = 6) (hRM : M2.2.2.2.2.2.frames + 1 ≤ mL_law.2.2.2.2.2.frames ∧ 8 + (M2.2.2.1 + 11) + M2.2.2.2.2.2.locals ≤ mL_law.2.2.2.2.2.locals) (hLn : L.length = mL_law.2.2.1) (hro : (rest.map fun v => v.category).sum ≤ 8) (hkn : k + 1 ≤ mL_law.2.2.2.2.2.cells ∧ n + 6 ≤ mL_law.2.2.2.2.2.slots) (kk : ∀ (r : Int32) (σ1 : xS) (τ1 : xT), Q r σ1 τ1 → Yw x b0 (pc + 3) L (.int r :: rest) σ1 τ1 (k + 1) (n + 6) Z) : Yw x b0 pc L st σ τ k n Z := by
  obtain ⟨p, l, e, R, s, m, args, below, meth, c, bs, D, cA⟩ := x
  obtain ⟨⟨hx, hb, hr, hml, hown, hts, hlk, hK, hR, hst, hsz⟩, -, hX9, hbl, hbe, hL9, hthr, hl, -⟩ := C
  intro H locs ls hP hS hL h0
  subst hR
  have hst1 : st.map (xv bs) = (as.map (xv bs)).reverse ++ rest.map (xv bs) := by rw [hst0]; simp [xv]
  rw [hst1]
  refine va_calli (vx_runSW (nL := mL_law.2.2.1) (As := as.map (xv bs)) (rest := rest.map (xv bs)) ⟨hx, hb, hml, hown, hts⟩ (hX l hl bs D cA) (vx_cwSW as.length hts hG hw hrm.1 hrm.2 hd hRM) ⟨zblind, fun U hU hW => ⟨rfl, ⟨by rw [hU]; exact hP, va_K.moved hW.alike hK, hst.move hS hU hW⟩, hthr.move hW⟩⟩ rfl (by simp) (hL.1.trans hLn) rfl (lv_room (by rw [List.map_map, xcat_map]; exact hro)) hdg hkn) hS (fun q _ h => h) (fun q h => h) (fun r u t H1 locs1 ht _ hpost hB _ _ hS1 => kk r u.1 u.2 hpost H1 locs1 ls (ht ▸ hB) hS1 hL h0)
/-- script[i + q] -/
theorem yw_scr (C : Lw x b0 L9 xs9) {i q : Nat} {iq : Int} (d0 : decode mL_law.2.1 pc = .ok (.aload_n 0, 1)) (d1 : decode mL_law.2.1 (pc + 1) = .ok (.iload 4, 2)) (d2 : decode mL_law.2.1 (pc + 3) = .ok (.iconst iq, 1)) (d3 : decode mL_law.2.1 (pc + 4) = .ok (.iadd, 1)) (d4 : decode mL_law.2.1 (pc + 5) = .ok (.iaload, 1)) (hq : Int32.ofInt iq = nI q) (h4 : L[4]? = some (some (.int (nI i)))) (hi : i + q < L9) (kk : Yw x b0 (pc + 6) L (.int (xs9 (i + q)) :: st) σ τ k n Z) : Yw x b0 pc L st σ τ k n Z := by
  obtain ⟨p, l, e, R, s, m, args, below, meth, c, bs, D, cA⟩ := x
  obtain ⟨⟨hx, hb, hr, hml, hown, hts, hlk, hK, hR, hst, hsz⟩, -, hX9, hbl, hbe, hL9, hthr, hl, -⟩ := C
  intro H locs ls hP hS hL h0
  refine lv_aload_n hx hb d0 rfl h0 ?_
  refine lv_iload hx hb d1 (hL.2.2 _ _ h4) ?_
  refine lv_iconst hx hb d2 hq ?_
  refine lv_iadd hx hb d3 ?_
  rw [nI_add]
  refine va_sld hx hb hX9 hbl (by show ¬ bs ≤ b0; omega) hS (vp_in_nI hi (by omega)) d4 ?_
  rw [nI_clamp (by omega)]
  exact kk H locs ls hP hS hL h0
/-- script[i] -/
theorem yw_scr0 (C : Lw x b0 L9 xs9) {i : Nat} (d0 : decode mL_law.2.1 pc = .ok (.aload_n 0, 1)) (d1 : decode mL_law.2.1 (pc + 1) = .ok (.iload 4, 2)) (d4 : decode mL_law.2.1 (pc + 3) = .ok (.iaload, 1)) (h4 : L[4]? = some (some (.int (nI i)))) (hi : i < L9) (kk : Yw x b0 (pc + 4) L (.int (xs9 i) :: st) σ τ k n Z) : Yw x b0 pc L st σ τ k n Z := by
  obtain ⟨p, l, e, R, s, m, args, below, meth, c, bs, D, cA⟩ := x
  obtain ⟨⟨hx, hb, hr, hml, hown, hts, hlk, hK, hR, hst, hsz⟩, -, hX9, hbl, hbe, hL9, hthr, hl, -⟩ := C
  intro H locs ls hP hS hL h0
  refine lv_aload_n hx hb d0 rfl h0 ?_
  refine lv_iload hx hb d1 (hL.2.2 _ _ h4) ?_
  refine va_sld hx hb hX9 hbl (by show ¬ bs ≤ b0; omega) hS (vp_in_nI hi (by omega)) d4 ?_
  rw [nI_clamp (by omega)]
  exact kk H locs ls hP hS hL h0
/-- script.length -/
theorem yw_len (C : Lw x b0 L9 xs9) (d0 : decode mL_law.2.1 pc = .ok (.aload_n 0, 1)) (d1 : decode mL_law.2.1 (pc + 1) = .ok (.arraylength, 1)) (kk : Yw x b0 (pc + 2) L (.int (nI L9) :: st) σ τ k n Z) : Yw x b0 pc L st σ τ k n Z := by
  obtain ⟨p, l, e, R, s, m, args, below, meth, c, bs, D, cA⟩ := x
  obtain ⟨⟨hx, hb, hr, hml, hown, hts, hlk, hK, hR, hst, hsz⟩, -, hX9, hbl, hbe, hL9, hthr, hl, -⟩ := C
  intro H locs ls hP hS hL h0
  refine lv_aload_n hx hb d0 rfl h0 ?_
  refine va_slen hx hb hX9 hbl (by show ¬ bs ≤ b0; omega) hS d1 ?_
  exact kk H locs ls hP hS hL h0
theorem yw_widen {k' n' : Nat} (h1 : k ≤ k') (h2 : n ≤ n') (kk : Yw x b0 pc L st σ τ k' n' Z) : Yw x b0 pc L st σ τ k n Z := by
  obtain ⟨p, l, e, R, s, m, args, below, meth, c, bs, D, cA⟩ := x
  intro H locs ls hP hS hL h0
  exact W.widen h1 h2 (kk H locs ls hP hS hL h0)
theorem yw_end (C : Lw x b0 L9 xs9) (hdg : decode code pc = .ok (.ireturn, 1)) (hk : k ≤ 601024) (hn : n ≤ 7293034) : Yw x b0 pc L [.int 1] σ τ k n (xEw x) := by
  obtain ⟨p, l, e, R, s, m, args, below, meth, c, bs, D, cA⟩ := x
  obtain ⟨⟨hx, hb, hr, hml, hown, hts, hlk, hK, hR, hst, hsz⟩, -, hX9, hbl, hbe, hL9, hthr, hl, ha⟩ := C
  intro H locs ls hP hS hL h0
  subst ha
  subst hR
  refine va_forget (fun q hq => ?_) ?_
  · have h9 : bs ≤ q.base := hS.2.2 q hq
    omega
  refine W.widen hk hn ?_
  exact lw_ret hx hb hr hlk hdg
abbrev LB (i : Nat) : List (Option Value) := [none, some (.ref 0), some (.ref 165), some (.ref 170), some (.int (nI i)), none, none]
abbrev LV5 (i : Nat) (v5 : Int32) : List (Option Value) := [none, some (.ref 0), some (.ref 165), some (.ref 170), some (.int (nI i)), some (.int v5), none]
abbrev LV (i : Nat) (v5 v6 : Int32) : List (Option Value) := [none, some (.ref 0), some (.ref 165), some (.ref 170), some (.int (nI i)), some (.int v5), some (.int v6)]
theorem yw_drop {i : Nat} {v5 v6 : Int32} (kk : Yw x b0 pc (LB i) st σ τ k n Z) : Yw x b0 pc (LV i v5 v6) st σ τ k n Z := by
  obtain ⟨p, l, e, R, s, m, args, below, meth, c, bs, D, cA⟩ := x
  intro H locs ls hP hS hL h0
  refine kk H locs ls hP hS (xl_keep hL rfl (fun j v e => ?_)) h0
  match j, e with
  | 0, e => simp at e
  | 1, e => exact e
  | 2, e => exact e
  | 3, e => exact e
  | 4, e => exact e
  | 5, e => simp at e
  | 6, e => simp at e
  | j + 7, e => simp at e
theorem q_iconst (C : Lw x b0 L9 xs9) {i : Int} {v : Int32} (hdg : decode mL_law.2.1 pc = .ok (.iconst i, 1)) (hv : Int32.ofInt i = v) (kk : Yq x b0 (pc + 1) L (.int v :: st) σ φ g k n Z) : Yq x b0 pc L (st) σ φ g k n Z := by
  obtain ⟨p, l, e, R, s, m, args, below, meth, c, bs, D, cA⟩ := x
  obtain ⟨hx, hb, hr, hml, hown, hts, hlk, hK, hR, hst, hsz, hni⟩ := C.2.1
  intro H locs ls hP hg hS hL h0
  exact lv_iconst hx hb hdg hv (kk H locs ls hP hg hS hL h0)
theorem q_dup (C : Lw x b0 L9 xs9) {u : Value} (hdg : decode mL_law.2.1 pc = .ok (.dup, 1)) (hu : u.category = 1) (kk : Yq x b0 (pc + 1) L (u :: u :: st) σ φ g k n Z) : Yq x b0 pc L (u :: st) σ φ g k n Z := by
  obtain ⟨p, l, e, R, s, m, args, below, meth, c, bs, D, cA⟩ := x
  obtain ⟨hx, hb, hr, hml, hown, hts, hlk, hK, hR, hst, hsz, hni⟩ := C.2.1
  intro H locs ls hP hg hS hL h0
  exact lv_dup hx hb hdg ((xv_cat _ _).trans hu) (kk H locs ls hP hg hS hL h0)
theorem q_new (C : Lw x b0 L9 xs9) {idx ci N : Nat} {fs : List (Option (Option Nat))} {Cn : String} {T : u_T} (ty : Nat → FieldType) (hdg : decode mL_law.2.1 pc = .ok (.new idx, 3)) (hsh : xSH g = .inl (ci, fs)) (hc : vwCl[ci]? = some (Cn, T, N)) (hin : ∀ w ∈ u_ws Cn T N, w ∈ mL_law.2.2.2.2.1) (hty : ∀ k, k < N → parseFieldDescriptor (T k).2.2.1 = some (ty k)) (hcl : Cond.classLink mL_law.1.cls idx Cn ∈ mL_law.2.2.2.2.1) (hinst : Cond.instantiable Cn N ∈ mL_law.2.2.2.2.1) (hini : Cond.initialized Cn ∈ mL_law.2.2.2.2.1) (hdef : ∀ j, j < N → defaultValue (ty j) = vp_V (fs.map zF) j) (hz : ∀ i, σ g i = 0) (hp : ∀ i, φ g i = false) (hkn : k + 1 ≤ mL_law.2.2.2.2.2.cells ∧ n + N ≤ mL_law.2.2.2.2.2.slots) (kk : Yq x b0 (pc + 3) L (.ref g :: st) σ φ (g + 1) (k + 1) (n + N) Z) : Yq x b0 pc L st σ φ g k n Z := by
  obtain ⟨p, l, e, R, s, m, args, below, meth, c, bs, D, cA⟩ := x
  obtain ⟨hx, hb, hr, hml, hown, hts, hlk, hK, hR, hst, hsz, hni⟩ := C.2.1
  intro H locs ls hP hg hS hL h0
  subst hR
  have hKn := hK.1 ci _ hc
  refine W.newcK hx hb hown (hts _ hcl) (hts _ hinst) (hts _ hini) rfl hdg hkn.1 hkn.2 hKn.2.1 rfl fun H1 kC hkC e1 z1 o1 => ?_
  rw [hg] at e1 z1 o1
  have h9 := kk H1 locs ls (pP_push hP (fun q hq => o1 q hq) ?_) z1 ⟨by have := hS.1; omega, fun q h1 h2 => (o1 q (by have := hS.1; omega)).trans (hS.2.1 q h1 h2), hS.2.2⟩ hL h0
  · rw [hg]
    exact h9
  · rw [hsh]
    refine ⟨_, hc, ?_⟩
    show t_OB (bs + g) (D.1 ci) N (D.2 ci) H1 (vp_V (fs.mapIdx (fun i f => pFld σ φ bs g i f)))
    rw [pFld_z hz hp]
    exact (u_born ty hts hin hKn hkC e1 hty).to hdef
theorem q_callI (C : Lw x b0 L9 xs9) {M2 : xM} {rest : List Value} {σ1 : xS} {φ1 : xP} {g1 idx b mc ms : Nat} {ws' : List Cond} (hX : Xp M2 [.ref b] σ φ g σ1 φ1 g1 mc ms) (hdg : decode mL_law.2.1 pc = .ok (.invokespecial idx, 3)) (hst0 : st = .ref b :: rest) (hG : GoodIn mL_law.2.2.2.2.1 M2.2.2.2.2.1) (hw : M2.2.2.2.2.1 = Cond.code M2.1 M2.2.1 M2.2.2.1 none :: ws') (hl : Cond.methodLink mL_law.1.cls idx M2.1 ∈ mL_law.2.2.2.2.1) (hini : Cond.initialized M2.1.cls ∈ mL_law.2.2.2.2.1) (hinm : Cond.instanceMethod M2.1 ∈ mL_law.2.2.2.2.1) (hnm : M2.1.name = "<init>") (hd : M2.1.cls ≠ "java/lang/invoke/MethodHandle" ∧ M2.1.cls ≠ "java/lang/invoke/VarHandle" ∧ (parseMethodDescriptor M2.1.desc).map (fun d => d.parameters.length) = some 0) (hrm : M2.2.2.2.2.2.cells = mc ∧ M2.2.2.2.2.2.slots = ms) (hRM : M2.2.2.2.2.2.frames + 1 ≤ mL_law.2.2.2.2.2.frames ∧ 8 + (M2.2.2.1 + 11) + M2.2.2.2.2.2.locals ≤ mL_law.2.2.2.2.2.locals) (hLn : L.length = mL_law.2.2.1) (hro : (rest.map fun v => v.category).sum ≤ 8) (hkn : k + mc ≤ mL_law.2.2.2.2.2.cells ∧ n + ms ≤ mL_law.2.2.2.2.2.slots) (kk : Yq x b0 (pc + 3) L rest σ1 φ1 g1 (k + mc) (n + ms) Z) : Yq x b0 pc L st σ φ g k n Z := by
  obtain ⟨p, l, e, R, s, m, args, below, meth, c, bs, D, cA⟩ := x
  obtain ⟨hx, hb, hr, hml, hown, hts, hlk, hK, hR, hst, hsz, hni⟩ := C.2.1
  intro H locs ls hP hg hS hL h0
  subst hR
  have hst1 : st.map (xv bs) = .ref (bs + b) :: rest.map (xv bs) := by rw [hst0]; simp [xv]
  rw [hst1]
  refine va_callv (va_runI (nL := mL_law.2.2.1) (As := []) (rest := rest.map (xv bs)) ⟨hx, hb, hml, hown, hts⟩ (hX l bs D cA) (cwI 0 hts hG hw hrm.1 hrm.2 (hts _ hini) (hts _ hl) (hts _ hinm) hnm hd hRM) ⟨pblind, fun U hU hW => ⟨rfl, by rw [hU]; exact hP, by rw [hU]; exact hg, va_K.moved hW.alike hK, hst.move hW⟩⟩ rfl rfl (hL.1.trans hLn) rfl (lv_room (by rw [List.map_map, xcat_map]; exact hro)) hdg hkn) hS (fun q _ h => h) (fun q h => h) (fun u t H1 locs1 ht _ hpost hB _ _ hS1 => kk H1 locs1 ls (ht ▸ hB.1) (ht ▸ hB.2) hS1 hL h0)
theorem q_istore (C : Lw x b0 L9 xs9) {i : Nat} {v : Int32} (hdg : decode mL_law.2.1 pc = .ok (.istore i, 2)) {L' : List (Option Value)} (hi0 : i ≠ 0) (hlt : i < L.length) (hL' : xst L i (some (.int v)) = L') (kk : Yq x b0 (pc + 2) L' st σ φ g k n Z) : Yq x b0 pc L ((.int v) :: st) σ φ g k n Z := by
  obtain ⟨p, l, e, R, s, m, args, below, meth, c, bs, D, cA⟩ := x
  obtain ⟨hx, hb, hr, hml, hown, hts, hlk, hK, hR, hst, hsz⟩ := C.1
  intro H locs ls hP hg hS hL h0
  refine lv_istore hx hb hdg (h0_has hL h0) hlt rfl (fun ls' hl' => ?_)
  obtain ⟨hl2, h02⟩ := h0_st hi0 hl'
  exact kk H locs ls' hP hg hS (by rw [← hL']; exact xl_st1 hlt hl2) h02
theorem q_astore_n (C : Lw x b0 L9 xs9) {q : Fin 4} {v : Nat} (hdg : decode mL_law.2.1 pc = .ok (.astore_n q, 1)) {L' : List (Option Value)} (hi0 : (q : Nat) ≠ 0) (hlt : (q : Nat) < L.length) (hL' : xst L (q : Nat) (some (.ref v)) = L') (kk : Yq x b0 (pc + 1) L' st σ φ g k n Z) : Yq x b0 pc L ((.ref v) :: st) σ φ g k n Z := by
  obtain ⟨p, l, e, R, s, m, args, below, meth, c, bs, D, cA⟩ := x
  obtain ⟨hx, hb, hr, hml, hown, hts, hlk, hK, hR, hst, hsz⟩ := C.1
  intro H locs ls hP hg hS hL h0
  refine lv_astore_n hx hb hdg rfl (h0_has hL h0) hlt rfl (fun ls' hl' => ?_)
  obtain ⟨hl2, h02⟩ := h0_st hi0 hl'
  exact kk H locs ls' hP hg hS (by rw [← hL']; exact xl_st1 hlt hl2) h02
theorem q_newl (C : Lw x b0 L9 xs9) {N : Nat} {nv : Int32} (hdg : decode mL_law.2.1 pc = .ok (.newarray .long, 2)) (harr : Cond.arrayClass .long ∈ mL_law.2.2.2.2.1) (hg9 : g < 171) (hsh : xSH g = .inr (1, N)) (hN : N < 1000) (hv : nv = nI N) (hkn : k + 1 ≤ mL_law.2.2.2.2.2.cells ∧ n + N ≤ mL_law.2.2.2.2.2.slots) (kk : Yq x b0 (pc + 2) L (.ref g :: st) σ φ (g + 1) (k + 1) (n + N) Z) : Yq x b0 pc L (.int nv :: st) σ φ g k n Z := by
  obtain ⟨p, l, e, R, s, m, args, below, meth, c, bs, D, cA⟩ := x
  obtain ⟨hx, hb, hr, hml, hown, hts, hlk, hK, hR, hst, hsz, hni⟩ := C.2.1
  intro H locs ls hP hg hS hL h0
  subst hR
  subst hv
  refine va_newaK hx hb (atype := .long) (hts _ harr) rfl hdg rfl (n := nI N) (N := N) (nI_pos (by omega)) (nI_clamp (by omega)) (by show N * 8 ≤ _; omega) hkn.1 hkn.2 (h := bs + g) hg (fun H1 cA1 e1 z1 o1 hAr hNm => ?_)
  have ht := (hK.2 g _ (xtys_get hg9)).2
  rw [hsh] at ht
  have hcA : cA1 = cA g := Option.some.inj (hNm.symm.trans ht)
  subst hcA
  refine kk H1 locs ls (pP_push hP (fun q hq => o1 q hq) ?_) z1 ⟨by have := hS.1; omega, fun q h1 h2 => ?_, hS.2.2⟩ hL h0
  · rw [hsh]
    show H1[bs + g]? = some (vp_cell (cA g) (N, .inr (.inl (fun _ => 0))))
    rw [e1, vp_cell_l]
    exact congrArg some (arrV_ext (fun i _ => rfl))
  · have h3 := hS.1
    exact (o1 q (by omega)).trans (hS.2.1 q h1 h2)
theorem yq_yw {b1 : Nat} (kk : Yw x b1 pc L st σ (fun _ _ => 0) k n Z) : Yq x b1 pc L st σ φF 171 k n Z := by
  obtain ⟨p, l, e, R, s, m, args, below, meth, c, bs, D, cA⟩ := x
  intro H locs ls hP hg hS hL h0
  exact kk H locs ls (pws_xws hP) hS hL h0
end YW
