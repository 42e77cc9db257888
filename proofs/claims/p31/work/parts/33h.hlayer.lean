/-! THE H-LAYER: rows over the class's state (row r, records kp qs) alone; k: cells used so far, six slots each; b0: what lies in local 0 -/
def Yw (x : xC) (b0 : Nat) (pc : Nat) (L : List (Option Value)) (st : List Value) (σ : xS) (τ : xT) (k n : Nat) (Z : State → Prop) : Prop := match x with
  | (p, l, e, R, s, m, args, below, meth, c, bs, D, cA) => ∀ (H : Heap) (locs : List Loc) (ls : Array Slot), va_P D vwCl (xws σ τ bs cA) H → va_S (fun q => bs ≤ q) s.heap H locs → xl bs L ls → ls[0]? = some (.val (.ref b0)) → W p l e R s m args below meth c H locs k n Z (F0 m pc ls (st.map (xv bs)))
def Hs (x : xC) (b0 : Nat) (pc : Nat) (L : List (Option Value)) (st : List Value) (r : Rw) (kp : Nat) (qs : Nat → Rw) (k : Nat) (Z : State → Prop) : Prop := ∀ (σ : xS) (τ : xT), Rel σ 1 r → Rc σ kp qs → Yw x b0 pc L st σ τ k (6 * k) Z
theorem h0_has {bs b0 : Nat} {L : List (Option Value)} {ls : Array Slot} (hL : xl bs L ls) (h0 : ls[0]? = some (.val (.ref b0))) : lv_has ls L.length ((0, Value.ref b0) :: xpl bs L) := by
  have h := xl_has hL
  refine ⟨h.1, h.2.1, fun q hq => ?_⟩
  rcases List.mem_cons.mp hq with e | e
  · rw [e]; exact h0
  · exact h.2.2 q e
theorem h0_st {b0 nL i : Nat} {l : List (Nat × Value)} {u : Value} {ls : Array Slot} (hi : i ≠ 0) (h : lv_has ls nL ((i, u) :: ((0, Value.ref b0) :: l).filter (fun q => !(q.1 == i) && !(q.1 + 1 == i && q.2.category == 2)))) : lv_has ls nL ((i, u) :: l.filter (fun q => !(q.1 == i) && !(q.1 + 1 == i && q.2.category == 2))) ∧ ls[0]? = some (.val (.ref b0)) := by
  have e1 : ((0 : Nat) == i) = false := by
    cases h9 : ((0 : Nat) == i) with
    | false => rfl
    | true => exact absurd (eq_of_beq h9).symm hi
  have e2 : (fun q : Nat × Value => !(q.1 == i) && !(q.1 + 1 == i && q.2.category == 2)) (0, Value.ref b0) = true := by
    show (!((0 : Nat) == i) && !(0 + 1 == i && (Value.ref b0).category == 2)) = true
    have e3 : ((Value.ref b0).category == 2) = false := rfl
    rw [e1, e3, Bool.and_false]
    rfl
  refine ⟨⟨h.1, h.2.1, fun q hq => h.2.2 q ?_⟩, h.2.2 (0, .ref b0) (List.mem_cons_of_mem _ (List.mem_filter.mpr ⟨List.mem_cons_self, e2⟩))⟩
  rcases List.mem_cons.mp hq with e | e
  · rw [e]; exact List.mem_cons_self
  · exact List.mem_cons_of_mem _ (List.mem_filter.mpr ⟨List.mem_cons_of_mem _ (List.mem_filter.mp e).1, (List.mem_filter.mp e).2⟩)
theorem h0_st2 {b0 nL i : Nat} {l : List (Nat × Value)} {u : Value} {ls : Array Slot} (hi : i ≠ 0) (h : lv_has ls nL ((i, u) :: ((0, Value.ref b0) :: l).filter (fun q => !(q.1 == i) && (!(q.1 == i + 1) && !(q.1 + 1 == i && q.2.category == 2))))) : lv_has ls nL ((i, u) :: l.filter (fun q => !(q.1 == i) && (!(q.1 == i + 1) && !(q.1 + 1 == i && q.2.category == 2)))) ∧ ls[0]? = some (.val (.ref b0)) := by
  have e1 : ((0 : Nat) == i) = false := by
    cases h9 : ((0 : Nat) == i) with
    | false => rfl
    | true => exact absurd (eq_of_beq h9).symm hi
  have e2 : (fun q : Nat × Value => !(q.1 == i) && (!(q.1 == i + 1) && !(q.1 + 1 == i && q.2.category == 2))) (0, Value.ref b0) = true := by
    show (!((0 : Nat) == i) && (!((0 : Nat) == i + 1) && !(0 + 1 == i && (Value.ref b0).category == 2))) = true
    have e3 : ((Value.ref b0).category == 2) = false := rfl
    have e4 : ((0 : Nat) == i + 1) = false := by
      cases h9 : ((0 : Nat) == i + 1) with
      | false => rfl
      | true => exact absurd (eq_of_beq h9) (by omega)
    rw [e1, e3, e4, Bool.and_false]
    rfl
  refine ⟨⟨h.1, h.2.1, fun q hq => h.2.2 q ?_⟩, h.2.2 (0, .ref b0) (List.mem_cons_of_mem _ (List.mem_filter.mpr ⟨List.mem_cons_self, e2⟩))⟩
  rcases List.mem_cons.mp hq with e | e
  · rw [e]; exact List.mem_cons_self
  · exact List.mem_cons_of_mem _ (List.mem_filter.mpr ⟨List.mem_cons_of_mem _ (List.mem_filter.mp e).1, (List.mem_filter.mp e).2⟩)
theorem xl_keep {bs : Nat} {L L' : List (Option Value)} {ls : Array Slot} (h : xl bs L ls) (hl : L.length = L'.length) (hk : ∀ (i : Nat) (v : Value), L'[i]? = some (some v) → L[i]? = some (some v)) : xl bs L' ls := ⟨h.1.trans hl, h.2.1, fun i v e => h.2.2 i v (hk i v e)⟩
section HR
variable {x : xC} {M : xM} {b0 pc k : Nat} {L : List (Option Value)} {st : List Value} {r : Rw} {kp : Nat} {qs : Nat → Rw} {Z : State → Prop}
theorem h_iload (C : Cx x M) {i : Nat} {v : Int32} (hdg : decode M.2.1 pc = .ok (.iload i, 2)) (hl : L[i]? = some (some (.int v))) (kk : Hs x b0 (pc + 2) L (.int v :: st) r kp qs k Z) : Hs x b0 pc L (st) r kp qs k Z := by
  obtain ⟨p, l, e, R, s, m, args, below, meth, c, bs, D, cA⟩ := x
  obtain ⟨hx, hb, hr, hml, hown, hts, hlk, hK, hR, hst, hsz⟩ := C
  intro σ τ hRl hRc H locs ls hP hS hL h0
  exact lv_iload hx hb hdg (hL.2.2 _ _ hl) (kk σ τ hRl hRc H locs ls hP hS hL h0)
theorem h_iload_n (C : Cx x M) {q : Fin 4} {v : Int32} (hdg : decode M.2.1 pc = .ok (.iload_n q, 1)) (hl : L[(q : Nat)]? = some (some (.int v))) (kk : Hs x b0 (pc + 1) L (.int v :: st) r kp qs k Z) : Hs x b0 pc L (st) r kp qs k Z := by
  obtain ⟨p, l, e, R, s, m, args, below, meth, c, bs, D, cA⟩ := x
  obtain ⟨hx, hb, hr, hml, hown, hts, hlk, hK, hR, hst, hsz⟩ := C
  intro σ τ hRl hRc H locs ls hP hS hL h0
  exact lv_iload_n hx hb hdg rfl (hL.2.2 _ _ hl) (kk σ τ hRl hRc H locs ls hP hS hL h0)
theorem h_aload (C : Cx x M) {i a : Nat} (hdg : decode M.2.1 pc = .ok (.aload i, 2)) (hl : L[i]? = some (some (.ref a))) (kk : Hs x b0 (pc + 2) L (.ref a :: st) r kp qs k Z) : Hs x b0 pc L (st) r kp qs k Z := by
  obtain ⟨p, l, e, R, s, m, args, below, meth, c, bs, D, cA⟩ := x
  obtain ⟨hx, hb, hr, hml, hown, hts, hlk, hK, hR, hst, hsz⟩ := C
  intro σ τ hRl hRc H locs ls hP hS hL h0
  exact lv_aload hx hb hdg (hL.2.2 _ _ hl) (kk σ τ hRl hRc H locs ls hP hS hL h0)
theorem h_aload_n (C : Cx x M) {q : Fin 4} {a : Nat} (hdg : decode M.2.1 pc = .ok (.aload_n q, 1)) (hl : L[(q : Nat)]? = some (some (.ref a))) (kk : Hs x b0 (pc + 1) L (.ref a :: st) r kp qs k Z) : Hs x b0 pc L (st) r kp qs k Z := by
  obtain ⟨p, l, e, R, s, m, args, below, meth, c, bs, D, cA⟩ := x
  obtain ⟨hx, hb, hr, hml, hown, hts, hlk, hK, hR, hst, hsz⟩ := C
  intro σ τ hRl hRc H locs ls hP hS hL h0
  exact lv_aload_n hx hb hdg rfl (hL.2.2 _ _ hl) (kk σ τ hRl hRc H locs ls hP hS hL h0)
theorem h_lload_n (C : Cx x M) {q : Fin 4} {v : Int64} (hdg : decode M.2.1 pc = .ok (.lload_n q, 1)) (hl : L[(q : Nat)]? = some (some (.long v))) (kk : Hs x b0 (pc + 1) L (.long v :: st) r kp qs k Z) : Hs x b0 pc L (st) r kp qs k Z := by
  obtain ⟨p, l, e, R, s, m, args, below, meth, c, bs, D, cA⟩ := x
  obtain ⟨hx, hb, hr, hml, hown, hts, hlk, hK, hR, hst, hsz⟩ := C
  intro σ τ hRl hRc H locs ls hP hS hL h0
  exact lv_lload_n hx hb hdg rfl (hL.2.2 _ _ hl) (kk σ τ hRl hRc H locs ls hP hS hL h0)
theorem h_iconst (C : Cx x M) {i : Int} {v : Int32} (hdg : decode M.2.1 pc = .ok (.iconst i, 1)) (hv : Int32.ofInt i = v) (kk : Hs x b0 (pc + 1) L (.int v :: st) r kp qs k Z) : Hs x b0 pc L (st) r kp qs k Z := by
  obtain ⟨p, l, e, R, s, m, args, below, meth, c, bs, D, cA⟩ := x
  obtain ⟨hx, hb, hr, hml, hown, hts, hlk, hK, hR, hst, hsz⟩ := C
  intro σ τ hRl hRc H locs ls hP hS hL h0
  exact lv_iconst hx hb hdg hv (kk σ τ hRl hRc H locs ls hP hS hL h0)
theorem h_bipush (C : Cx x M) {i : Int} {v : Int32} (hdg : decode M.2.1 pc = .ok (.bipush i, 2)) (hv : (Int8.ofInt i).toInt32 = v) (kk : Hs x b0 (pc + 2) L (.int v :: st) r kp qs k Z) : Hs x b0 pc L (st) r kp qs k Z := by
  obtain ⟨p, l, e, R, s, m, args, below, meth, c, bs, D, cA⟩ := x
  obtain ⟨hx, hb, hr, hml, hown, hts, hlk, hK, hR, hst, hsz⟩ := C
  intro σ τ hRl hRc H locs ls hP hS hL h0
  exact lv_bipush hx hb hdg hv (kk σ τ hRl hRc H locs ls hP hS hL h0)
theorem h_sipush (C : Cx x M) {i : Int} {v : Int32} (hdg : decode M.2.1 pc = .ok (.sipush i, 3)) (hv : (Int16.ofInt i).toInt32 = v) (kk : Hs x b0 (pc + 3) L (.int v :: st) r kp qs k Z) : Hs x b0 pc L (st) r kp qs k Z := by
  obtain ⟨p, l, e, R, s, m, args, below, meth, c, bs, D, cA⟩ := x
  obtain ⟨hx, hb, hr, hml, hown, hts, hlk, hK, hR, hst, hsz⟩ := C
  intro σ τ hRl hRc H locs ls hP hS hL h0
  exact lv_sipush hx hb hdg hv (kk σ τ hRl hRc H locs ls hP hS hL h0)
theorem h_lconst (C : Cx x M) {i : Fin 2} {v : Int64} (hdg : decode M.2.1 pc = .ok (.lconst i, 1)) (hv : Int64.ofNat (i : Nat) = v) (kk : Hs x b0 (pc + 1) L (.long v :: st) r kp qs k Z) : Hs x b0 pc L (st) r kp qs k Z := by
  obtain ⟨p, l, e, R, s, m, args, below, meth, c, bs, D, cA⟩ := x
  obtain ⟨hx, hb, hr, hml, hown, hts, hlk, hK, hR, hst, hsz⟩ := C
  intro σ τ hRl hRc H locs ls hP hS hL h0
  exact lv_lconst hx hb hdg hv (kk σ τ hRl hRc H locs ls hP hS hL h0)
theorem h_ldc (C : Cx x M) {i : Nat} {v : Int32} (hdg : decode M.2.1 pc = .ok (.ldc i, 2)) (hc : Cond.constant M.1.cls i v ∈ M.2.2.2.2.1) (kk : Hs x b0 (pc + 2) L (.int v :: st) r kp qs k Z) : Hs x b0 pc L (st) r kp qs k Z := by
  obtain ⟨p, l, e, R, s, m, args, below, meth, c, bs, D, cA⟩ := x
  obtain ⟨hx, hb, hr, hml, hown, hts, hlk, hK, hR, hst, hsz⟩ := C
  intro σ τ hRl hRc H locs ls hP hS hL h0
  exact lv_ldc hx hb hown (hts _ hc) hdg (kk σ τ hRl hRc H locs ls hP hS hL h0)
theorem h_iadd (C : Cx x M) {u v : Int32} (hdg : decode M.2.1 pc = .ok (.iadd, 1)) (kk : Hs x b0 (pc + 1) L (.int (u + v) :: st) r kp qs k Z) : Hs x b0 pc L (.int v :: .int u :: st) r kp qs k Z := by
  obtain ⟨p, l, e, R, s, m, args, below, meth, c, bs, D, cA⟩ := x
  obtain ⟨hx, hb, hr, hml, hown, hts, hlk, hK, hR, hst, hsz⟩ := C
  intro σ τ hRl hRc H locs ls hP hS hL h0
  exact lv_iadd hx hb hdg (kk σ τ hRl hRc H locs ls hP hS hL h0)
theorem h_isub (C : Cx x M) {u v : Int32} (hdg : decode M.2.1 pc = .ok (.isub, 1)) (kk : Hs x b0 (pc + 1) L (.int (u - v) :: st) r kp qs k Z) : Hs x b0 pc L (.int v :: .int u :: st) r kp qs k Z := by
  obtain ⟨p, l, e, R, s, m, args, below, meth, c, bs, D, cA⟩ := x
  obtain ⟨hx, hb, hr, hml, hown, hts, hlk, hK, hR, hst, hsz⟩ := C
  intro σ τ hRl hRc H locs ls hP hS hL h0
  exact lv_isub hx hb hdg (kk σ τ hRl hRc H locs ls hP hS hL h0)
theorem h_imul (C : Cx x M) {u v : Int32} (hdg : decode M.2.1 pc = .ok (.imul, 1)) (kk : Hs x b0 (pc + 1) L (.int (u * v) :: st) r kp qs k Z) : Hs x b0 pc L (.int v :: .int u :: st) r kp qs k Z := by
  obtain ⟨p, l, e, R, s, m, args, below, meth, c, bs, D, cA⟩ := x
  obtain ⟨hx, hb, hr, hml, hown, hts, hlk, hK, hR, hst, hsz⟩ := C
  intro σ τ hRl hRc H locs ls hP hS hL h0
  exact lv_imul hx hb hdg (kk σ τ hRl hRc H locs ls hP hS hL h0)
theorem h_iand (C : Cx x M) {u v : Int32} (hdg : decode M.2.1 pc = .ok (.iand, 1)) (kk : Hs x b0 (pc + 1) L (.int (u &&& v) :: st) r kp qs k Z) : Hs x b0 pc L (.int v :: .int u :: st) r kp qs k Z := by
  obtain ⟨p, l, e, R, s, m, args, below, meth, c, bs, D, cA⟩ := x
  obtain ⟨hx, hb, hr, hml, hown, hts, hlk, hK, hR, hst, hsz⟩ := C
  intro σ τ hRl hRc H locs ls hP hS hL h0
  exact lv_iand hx hb hdg (kk σ τ hRl hRc H locs ls hP hS hL h0)
theorem h_ior (C : Cx x M) {u v : Int32} (hdg : decode M.2.1 pc = .ok (.ior, 1)) (kk : Hs x b0 (pc + 1) L (.int (u ||| v) :: st) r kp qs k Z) : Hs x b0 pc L (.int v :: .int u :: st) r kp qs k Z := by
  obtain ⟨p, l, e, R, s, m, args, below, meth, c, bs, D, cA⟩ := x
  obtain ⟨hx, hb, hr, hml, hown, hts, hlk, hK, hR, hst, hsz⟩ := C
  intro σ τ hRl hRc H locs ls hP hS hL h0
  exact lv_ior hx hb hdg (kk σ τ hRl hRc H locs ls hP hS hL h0)
theorem h_ishl (C : Cx x M) {u v : Int32} (hdg : decode M.2.1 pc = .ok (.ishl, 1)) (kk : Hs x b0 (pc + 1) L (.int (u <<< (v &&& 31)) :: st) r kp qs k Z) : Hs x b0 pc L (.int v :: .int u :: st) r kp qs k Z := by
  obtain ⟨p, l, e, R, s, m, args, below, meth, c, bs, D, cA⟩ := x
  obtain ⟨hx, hb, hr, hml, hown, hts, hlk, hK, hR, hst, hsz⟩ := C
  intro σ τ hRl hRc H locs ls hP hS hL h0
  exact lv_ishl hx hb hdg (kk σ τ hRl hRc H locs ls hP hS hL h0)
theorem h_ishr (C : Cx x M) {u v : Int32} (hdg : decode M.2.1 pc = .ok (.ishr, 1)) (kk : Hs x b0 (pc + 1) L (.int (u >>> (v &&& 31)) :: st) r kp qs k Z) : Hs x b0 pc L (.int v :: .int u :: st) r kp qs k Z := by
  obtain ⟨p, l, e, R, s, m, args, below, meth, c, bs, D, cA⟩ := x
  obtain ⟨hx, hb, hr, hml, hown, hts, hlk, hK, hR, hst, hsz⟩ := C
  intro σ τ hRl hRc H locs ls hP hS hL h0
  exact lv_ishr hx hb hdg (kk σ τ hRl hRc H locs ls hP hS hL h0)
theorem h_idiv (C : Cx x M) {u v : Int32} (hdg : decode M.2.1 pc = .ok (.idiv, 1)) (hne : ¬ v = 0) (kk : Hs x b0 (pc + 1) L (.int (u / v) :: st) r kp qs k Z) : Hs x b0 pc L (.int v :: .int u :: st) r kp qs k Z := by
  obtain ⟨p, l, e, R, s, m, args, below, meth, c, bs, D, cA⟩ := x
  obtain ⟨hx, hb, hr, hml, hown, hts, hlk, hK, hR, hst, hsz⟩ := C
  intro σ τ hRl hRc H locs ls hP hS hL h0
  exact lv_idiv hx hb hdg hne (kk σ τ hRl hRc H locs ls hP hS hL h0)
theorem h_irem (C : Cx x M) {u v : Int32} (hdg : decode M.2.1 pc = .ok (.irem, 1)) (hne : ¬ v = 0) (kk : Hs x b0 (pc + 1) L (.int (u - u / v * v) :: st) r kp qs k Z) : Hs x b0 pc L (.int v :: .int u :: st) r kp qs k Z := by
  obtain ⟨p, l, e, R, s, m, args, below, meth, c, bs, D, cA⟩ := x
  obtain ⟨hx, hb, hr, hml, hown, hts, hlk, hK, hR, hst, hsz⟩ := C
  intro σ τ hRl hRc H locs ls hP hS hL h0
  exact lv_irem hx hb hdg hne (kk σ τ hRl hRc H locs ls hP hS hL h0)
theorem h_lcmp (C : Cx x M) {u v : Int64} (hdg : decode M.2.1 pc = .ok (.lcmp, 1)) (kk : Hs x b0 (pc + 1) L (.int (lg_cmp u v) :: st) r kp qs k Z) : Hs x b0 pc L (.long v :: .long u :: st) r kp qs k Z := by
  obtain ⟨p, l, e, R, s, m, args, below, meth, c, bs, D, cA⟩ := x
  obtain ⟨hx, hb, hr, hml, hown, hts, hlk, hK, hR, hst, hsz⟩ := C
  intro σ τ hRl hRc H locs ls hP hS hL h0
  exact W.lcmp hx hb hdg (kk σ τ hRl hRc H locs ls hP hS hL h0)
theorem h_i2l (C : Cx x M) {u : Int32} (hdg : decode M.2.1 pc = .ok (.i2l, 1)) (kk : Hs x b0 (pc + 1) L (.long u.toInt64 :: st) r kp qs k Z) : Hs x b0 pc L (.int u :: st) r kp qs k Z := by
  obtain ⟨p, l, e, R, s, m, args, below, meth, c, bs, D, cA⟩ := x
  obtain ⟨hx, hb, hr, hml, hown, hts, hlk, hK, hR, hst, hsz⟩ := C
  intro σ τ hRl hRc H locs ls hP hS hL h0
  exact lv_i2l hx hb hdg rfl (kk σ τ hRl hRc H locs ls hP hS hL h0)
theorem h_goto (C : Cx x M) {o : Int} {t : Nat} (hdg : decode M.2.1 pc = .ok (.goto o, 3)) (ht : (pc : Int) + o = (t : Int)) (kk : Hs x b0 (t) L (st) r kp qs k Z) : Hs x b0 pc L (st) r kp qs k Z := by
  obtain ⟨p, l, e, R, s, m, args, below, meth, c, bs, D, cA⟩ := x
  obtain ⟨hx, hb, hr, hml, hown, hts, hlk, hK, hR, hst, hsz⟩ := C
  intro σ τ hRl hRc H locs ls hP hS hL h0
  exact lv_goto hx hb hdg ht (kk σ τ hRl hRc H locs ls hP hS hL h0)
/-- one place changes; a long that stood across it goes -/
theorem h_if_eq (C : Cx x M) {u : Int32} {o : Int} {t : Nat} (hdg : decode M.2.1 pc = .ok (.ifCond .eq o, 3)) (ht : (pc : Int) + o = (t : Int)) (kt : u = 0 → Hs x b0 t L st r kp qs k Z) (kf : ¬ (u = 0) → Hs x b0 (pc + 3) L st r kp qs k Z) : Hs x b0 pc L (.int u :: st) r kp qs k Z := by
  obtain ⟨p, l, e, R, s, m, args, below, meth, c, bs, D, cA⟩ := x
  obtain ⟨hx, hb, hr, hml, hown, hts, hlk, hK, hR, hst, hsz⟩ := C
  intro σ τ hRl hRc H locs ls hP hS hL h0
  exact lv_if_eq hx hb hdg ht (fun q => kt q σ τ hRl hRc H locs ls hP hS hL h0) (fun q => kf q σ τ hRl hRc H locs ls hP hS hL h0)
theorem h_if_ne (C : Cx x M) {u : Int32} {o : Int} {t : Nat} (hdg : decode M.2.1 pc = .ok (.ifCond .ne o, 3)) (ht : (pc : Int) + o = (t : Int)) (kt : ¬ u = 0 → Hs x b0 t L st r kp qs k Z) (kf : u = 0 → Hs x b0 (pc + 3) L st r kp qs k Z) : Hs x b0 pc L (.int u :: st) r kp qs k Z := by
  obtain ⟨p, l, e, R, s, m, args, below, meth, c, bs, D, cA⟩ := x
  obtain ⟨hx, hb, hr, hml, hown, hts, hlk, hK, hR, hst, hsz⟩ := C
  intro σ τ hRl hRc H locs ls hP hS hL h0
  exact lv_if_ne hx hb hdg ht (fun q => kt q σ τ hRl hRc H locs ls hP hS hL h0) (fun q => kf q σ τ hRl hRc H locs ls hP hS hL h0)
theorem h_if_lt (C : Cx x M) {u : Int32} {o : Int} {t : Nat} (hdg : decode M.2.1 pc = .ok (.ifCond .lt o, 3)) (ht : (pc : Int) + o = (t : Int)) (kt : u < 0 → Hs x b0 t L st r kp qs k Z) (kf : ¬ (u < 0) → Hs x b0 (pc + 3) L st r kp qs k Z) : Hs x b0 pc L (.int u :: st) r kp qs k Z := by
  obtain ⟨p, l, e, R, s, m, args, below, meth, c, bs, D, cA⟩ := x
  obtain ⟨hx, hb, hr, hml, hown, hts, hlk, hK, hR, hst, hsz⟩ := C
  intro σ τ hRl hRc H locs ls hP hS hL h0
  exact lv_if_lt hx hb hdg ht (fun q => kt q σ τ hRl hRc H locs ls hP hS hL h0) (fun q => kf q σ τ hRl hRc H locs ls hP hS hL h0)
theorem h_if_ge (C : Cx x M) {u : Int32} {o : Int} {t : Nat} (hdg : decode M.2.1 pc = .ok (.ifCond .ge o, 3)) (ht : (pc : Int) + o = (t : Int)) (kt : 0 ≤ u → Hs x b0 t L st r kp qs k Z) (kf : ¬ (0 ≤ u) → Hs x b0 (pc + 3) L st r kp qs k Z) : Hs x b0 pc L (.int u :: st) r kp qs k Z := by
  obtain ⟨p, l, e, R, s, m, args, below, meth, c, bs, D, cA⟩ := x
  obtain ⟨hx, hb, hr, hml, hown, hts, hlk, hK, hR, hst, hsz⟩ := C
  intro σ τ hRl hRc H locs ls hP hS hL h0
  exact lv_if_ge hx hb hdg ht (fun q => kt q σ τ hRl hRc H locs ls hP hS hL h0) (fun q => kf q σ τ hRl hRc H locs ls hP hS hL h0)
theorem h_if_gt (C : Cx x M) {u : Int32} {o : Int} {t : Nat} (hdg : decode M.2.1 pc = .ok (.ifCond .gt o, 3)) (ht : (pc : Int) + o = (t : Int)) (kt : 0 < u → Hs x b0 t L st r kp qs k Z) (kf : ¬ (0 < u) → Hs x b0 (pc + 3) L st r kp qs k Z) : Hs x b0 pc L (.int u :: st) r kp qs k Z := by
  obtain ⟨p, l, e, R, s, m, args, below, meth, c, bs, D, cA⟩ := x
  obtain ⟨hx, hb, hr, hml, hown, hts, hlk, hK, hR, hst, hsz⟩ := C
  intro σ τ hRl hRc H locs ls hP hS hL h0
  exact lv_if_gt hx hb hdg ht (fun q => kt q σ τ hRl hRc H locs ls hP hS hL h0) (fun q => kf q σ τ hRl hRc H locs ls hP hS hL h0)
theorem h_if_le (C : Cx x M) {u : Int32} {o : Int} {t : Nat} (hdg : decode M.2.1 pc = .ok (.ifCond .le o, 3)) (ht : (pc : Int) + o = (t : Int)) (kt : u ≤ 0 → Hs x b0 t L st r kp qs k Z) (kf : ¬ (u ≤ 0) → Hs x b0 (pc + 3) L st r kp qs k Z) : Hs x b0 pc L (.int u :: st) r kp qs k Z := by
  obtain ⟨p, l, e, R, s, m, args, below, meth, c, bs, D, cA⟩ := x
  obtain ⟨hx, hb, hr, hml, hown, hts, hlk, hK, hR, hst, hsz⟩ := C
  intro σ τ hRl hRc H locs ls hP hS hL h0
  exact lv_if_le hx hb hdg ht (fun q => kt q σ τ hRl hRc H locs ls hP hS hL h0) (fun q => kf q σ τ hRl hRc H locs ls hP hS hL h0)
theorem h_icmp_eq (C : Cx x M) {u v : Int32} {o : Int} {t : Nat} (hdg : decode M.2.1 pc = .ok (.if_icmp .eq o, 3)) (ht : (pc : Int) + o = (t : Int)) (kt : u = v → Hs x b0 t L st r kp qs k Z) (kf : ¬ (u = v) → Hs x b0 (pc + 3) L st r kp qs k Z) : Hs x b0 pc L (.int v :: .int u :: st) r kp qs k Z := by
  obtain ⟨p, l, e, R, s, m, args, below, meth, c, bs, D, cA⟩ := x
  obtain ⟨hx, hb, hr, hml, hown, hts, hlk, hK, hR, hst, hsz⟩ := C
  intro σ τ hRl hRc H locs ls hP hS hL h0
  exact lv_icmp_eq hx hb hdg ht (fun q => kt q σ τ hRl hRc H locs ls hP hS hL h0) (fun q => kf q σ τ hRl hRc H locs ls hP hS hL h0)
theorem h_icmp_ne (C : Cx x M) {u v : Int32} {o : Int} {t : Nat} (hdg : decode M.2.1 pc = .ok (.if_icmp .ne o, 3)) (ht : (pc : Int) + o = (t : Int)) (kt : ¬ u = v → Hs x b0 t L st r kp qs k Z) (kf : u = v → Hs x b0 (pc + 3) L st r kp qs k Z) : Hs x b0 pc L (.int v :: .int u :: st) r kp qs k Z := by
  obtain ⟨p, l, e, R, s, m, args, below, meth, c, bs, D, cA⟩ := x
  obtain ⟨hx, hb, hr, hml, hown, hts, hlk, hK, hR, hst, hsz⟩ := C
  intro σ τ hRl hRc H locs ls hP hS hL h0
  exact lv_icmp_ne hx hb hdg ht (fun q => kt q σ τ hRl hRc H locs ls hP hS hL h0) (fun q => kf q σ τ hRl hRc H locs ls hP hS hL h0)
theorem h_icmp_lt (C : Cx x M) {u v : Int32} {o : Int} {t : Nat} (hdg : decode M.2.1 pc = .ok (.if_icmp .lt o, 3)) (ht : (pc : Int) + o = (t : Int)) (kt : u < v → Hs x b0 t L st r kp qs k Z) (kf : ¬ (u < v) → Hs x b0 (pc + 3) L st r kp qs k Z) : Hs x b0 pc L (.int v :: .int u :: st) r kp qs k Z := by
  obtain ⟨p, l, e, R, s, m, args, below, meth, c, bs, D, cA⟩ := x
  obtain ⟨hx, hb, hr, hml, hown, hts, hlk, hK, hR, hst, hsz⟩ := C
  intro σ τ hRl hRc H locs ls hP hS hL h0
  exact lv_icmp_lt hx hb hdg ht (fun q => kt q σ τ hRl hRc H locs ls hP hS hL h0) (fun q => kf q σ τ hRl hRc H locs ls hP hS hL h0)
theorem h_icmp_ge (C : Cx x M) {u v : Int32} {o : Int} {t : Nat} (hdg : decode M.2.1 pc = .ok (.if_icmp .ge o, 3)) (ht : (pc : Int) + o = (t : Int)) (kt : v ≤ u → Hs x b0 t L st r kp qs k Z) (kf : ¬ (v ≤ u) → Hs x b0 (pc + 3) L st r kp qs k Z) : Hs x b0 pc L (.int v :: .int u :: st) r kp qs k Z := by
  obtain ⟨p, l, e, R, s, m, args, below, meth, c, bs, D, cA⟩ := x
  obtain ⟨hx, hb, hr, hml, hown, hts, hlk, hK, hR, hst, hsz⟩ := C
  intro σ τ hRl hRc H locs ls hP hS hL h0
  exact lv_icmp_ge hx hb hdg ht (fun q => kt q σ τ hRl hRc H locs ls hP hS hL h0) (fun q => kf q σ τ hRl hRc H locs ls hP hS hL h0)
theorem h_icmp_gt (C : Cx x M) {u v : Int32} {o : Int} {t : Nat} (hdg : decode M.2.1 pc = .ok (.if_icmp .gt o, 3)) (ht : (pc : Int) + o = (t : Int)) (kt : v < u → Hs x b0 t L st r kp qs k Z) (kf : ¬ (v < u) → Hs x b0 (pc + 3) L st r kp qs k Z) : Hs x b0 pc L (.int v :: .int u :: st) r kp qs k Z := by
  obtain ⟨p, l, e, R, s, m, args, below, meth, c, bs, D, cA⟩ := x
  obtain ⟨hx, hb, hr, hml, hown, hts, hlk, hK, hR, hst, hsz⟩ := C
  intro σ τ hRl hRc H locs ls hP hS hL h0
  exact lv_icmp_gt hx hb hdg ht (fun q => kt q σ τ hRl hRc H locs ls hP hS hL h0) (fun q => kf q σ τ hRl hRc H locs ls hP hS hL h0)
theorem h_icmp_le (C : Cx x M) {u v : Int32} {o : Int} {t : Nat} (hdg : decode M.2.1 pc = .ok (.if_icmp .le o, 3)) (ht : (pc : Int) + o = (t : Int)) (kt : u ≤ v → Hs x b0 t L st r kp qs k Z) (kf : ¬ (u ≤ v) → Hs x b0 (pc + 3) L st r kp qs k Z) : Hs x b0 pc L (.int v :: .int u :: st) r kp qs k Z := by
  obtain ⟨p, l, e, R, s, m, args, below, meth, c, bs, D, cA⟩ := x
  obtain ⟨hx, hb, hr, hml, hown, hts, hlk, hK, hR, hst, hsz⟩ := C
  intro σ τ hRl hRc H locs ls hP hS hL h0
  exact lv_icmp_le hx hb hdg ht (fun q => kt q σ τ hRl hRc H locs ls hP hS hL h0) (fun q => kf q σ τ hRl hRc H locs ls hP hS hL h0)
theorem h_tableIn (C : Cx x M) {dflt lo hi : Int} {offs : Array Int} {len : Nat} {u : Int32} {o : Int} {t : Nat} (hdg : decode M.2.1 pc = .ok (.tableswitch dflt lo hi offs, len)) (h1 : ¬ u.toInt < lo) (h2 : ¬ hi < u.toInt) (ho : offs[(u.toInt - lo).toNat]? = some o) (ht : (pc : Int) + o = (t : Int)) (kk : Hs x b0 t L st r kp qs k Z) : Hs x b0 pc L (.int u :: st) r kp qs k Z := by
  obtain ⟨p, l, e, R, s, m, args, below, meth, c, bs, D, cA⟩ := x
  obtain ⟨hx, hb, hr, hml, hown, hts, hlk, hK, hR, hst, hsz⟩ := C
  intro σ τ hRl hRc H locs ls hP hS hL h0
  exact lv_tableIn hx hb hdg h1 h2 ho ht (kk σ τ hRl hRc H locs ls hP hS hL h0)
theorem h_tableOut (C : Cx x M) {dflt lo hi : Int} {offs : Array Int} {len : Nat} {u : Int32} {t : Nat} (hdg : decode M.2.1 pc = .ok (.tableswitch dflt lo hi offs, len)) (h : u.toInt < lo ∨ hi < u.toInt) (ht : (pc : Int) + dflt = (t : Int)) (kk : Hs x b0 t L st r kp qs k Z) : Hs x b0 pc L (.int u :: st) r kp qs k Z := by
  obtain ⟨p, l, e, R, s, m, args, below, meth, c, bs, D, cA⟩ := x
  obtain ⟨hx, hb, hr, hml, hown, hts, hlk, hK, hR, hst, hsz⟩ := C
  intro σ τ hRl hRc H locs ls hP hS hL h0
  exact lv_tableOut hx hb hdg h ht (kk σ τ hRl hRc H locs ls hP hS hL h0)
theorem h_lsub (C : Cx x M) {u v : Int64} (hdg : decode M.2.1 pc = .ok (.lsub, 1)) (kk : Hs x b0 (pc + 1) L (.long (u - v) :: st) r kp qs k Z) : Hs x b0 pc L (.long v :: .long u :: st) r kp qs k Z := by
  obtain ⟨p, l, e, R, s, m, args, below, meth, c, bs, D, cA⟩ := x
  obtain ⟨hx, hb, hr, hml, hown, hts, hlk, hK, hR, hst, hsz⟩ := C
  intro σ τ hRl hRc H locs ls hP hS hL h0
  exact lv_lsub hx hb hdg (kk σ τ hRl hRc H locs ls hP hS hL h0)
theorem h_istore (C : Cx x M) {i : Nat} {v : Int32} (hdg : decode M.2.1 pc = .ok (.istore i, 2)) {L' : List (Option Value)} (hi0 : i ≠ 0) (hlt : i < L.length) (hL' : xst L (i) (some (.int v)) = L') (kk : Hs x b0 (pc + 2) L' st r kp qs k Z) : Hs x b0 pc L ((.int v) :: st) r kp qs k Z := by
  obtain ⟨p, l, e, R, s, m, args, below, meth, c, bs, D, cA⟩ := x
  obtain ⟨hx, hb, hr, hml, hown, hts, hlk, hK, hR, hst, hsz⟩ := C
  intro σ τ hRl hRc H locs ls hP hS hL h0
  exact lv_istore hx hb hdg (h0_has hL h0) hlt rfl (fun ls' hl' => by
    obtain ⟨hl2, h02⟩ := h0_st hi0 hl'
    exact kk σ τ hRl hRc H locs ls' hP hS (by rw [← hL']; exact xl_st1 hlt hl2) h02)
theorem h_istore_n (C : Cx x M) {q : Fin 4} {v : Int32} (hdg : decode M.2.1 pc = .ok (.istore_n q, 1)) {L' : List (Option Value)} (hi0 : (q : Nat) ≠ 0) (hlt : (q : Nat) < L.length) (hL' : xst L ((q : Nat)) (some (.int v)) = L') (kk : Hs x b0 (pc + 1) L' st r kp qs k Z) : Hs x b0 pc L ((.int v) :: st) r kp qs k Z := by
  obtain ⟨p, l, e, R, s, m, args, below, meth, c, bs, D, cA⟩ := x
  obtain ⟨hx, hb, hr, hml, hown, hts, hlk, hK, hR, hst, hsz⟩ := C
  intro σ τ hRl hRc H locs ls hP hS hL h0
  exact lv_istore_n hx hb hdg rfl (h0_has hL h0) hlt rfl (fun ls' hl' => by
    obtain ⟨hl2, h02⟩ := h0_st hi0 hl'
    exact kk σ τ hRl hRc H locs ls' hP hS (by rw [← hL']; exact xl_st1 hlt hl2) h02)
theorem h_lstore_n (C : Cx x M) {q : Fin 4} {v : Int64} (hdg : decode M.2.1 pc = .ok (.lstore_n q, 1)) {L' : List (Option Value)} (hi0 : (q : Nat) ≠ 0) (hlt : (q : Nat) + 1 < L.length) (hL' : (xst L (q : Nat) (some (.long v))).set ((q : Nat) + 1) none = L') (kk : Hs x b0 (pc + 1) L' st r kp qs k Z) : Hs x b0 pc L ((.long v) :: st) r kp qs k Z := by
  obtain ⟨p, l, e, R, s, m, args, below, meth, c, bs, D, cA⟩ := x
  obtain ⟨hx, hb, hr, hml, hown, hts, hlk, hK, hR, hst, hsz⟩ := C
  intro σ τ hRl hRc H locs ls hP hS hL h0
  exact lv_lstore_n hx hb hdg rfl (h0_has hL h0) hlt rfl (fun ls' hl' => by
    obtain ⟨hl2, h02⟩ := h0_st2 hi0 hl'
    exact kk σ τ hRl hRc H locs ls' hP hS (by rw [← hL']; exact xl_st2 hlt hl2) h02)
theorem h_iinc (C : Cx x M) {i : Nat} {d : Int} {u v : Int32} (hdg : decode M.2.1 pc = .ok (.iinc i d, 3)) {L' : List (Option Value)} (hi0 : i ≠ 0) (hl : L[i]? = some (some (.int u))) (hv : u + Int32.ofInt d = v) (hL' : xst L i (some (.int v)) = L') (kk : Hs x b0 (pc + 3) L' st r kp qs k Z) : Hs x b0 pc L st r kp qs k Z := by
  obtain ⟨p, l, e, R, s, m, args, below, meth, c, bs, D, cA⟩ := x
  obtain ⟨hx, hb, hr, hml, hown, hts, hlk, hK, hR, hst, hsz⟩ := C
  intro σ τ hRl hRc H locs ls hP hS hL h0
  obtain ⟨j, hj⟩ := List.mem_iff_getElem?.mp (xpl_mem (bs := bs) hl)
  have hlt : i < L.length := (List.getElem?_eq_some_iff.mp hl).1
  refine lv_iinc hx hb hdg (h0_has hL h0) (k := j + 1) (by rw [List.getElem?_cons_succ]; exact hj) hv hlt rfl (fun ls' hl' => ?_)
  obtain ⟨hl2, h02⟩ := h0_st hi0 hl'
  exact kk σ τ hRl hRc H locs ls' hP hS (by rw [← hL']; exact xl_st1 hlt hl2) h02
theorem h_widen {k' : Nat} (h1 : k ≤ k') (kk : Hs x b0 pc L st r kp qs k' Z) : Hs x b0 pc L st r kp qs k Z := by
  obtain ⟨p, l, e, R, s, m, args, below, meth, c, bs, D, cA⟩ := x
  intro σ τ hRl hRc H locs ls hP hS hL h0
  exact W.widen h1 (Nat.mul_le_mul_left 6 h1) (kk σ τ hRl hRc H locs ls hP hS hL h0)
theorem h_topE {u : Int32} (v : Int32) (h : u = v) (kk : Hs x b0 pc L (.int v :: st) r kp qs k Z) : Hs x b0 pc L (.int u :: st) r kp qs k Z := h ▸ kk
theorem h_topL {u : Int64} (v : Int64) (h : u = v) (kk : Hs x b0 pc L (.long v :: st) r kp qs k Z) : Hs x b0 pc L (.long u :: st) r kp qs k Z := h ▸ kk
theorem h_loc {L' : List (Option Value)} (h : L = L') (kk : Hs x b0 pc L' st r kp qs k Z) : Hs x b0 pc L st r kp qs k Z := h ▸ kk
theorem h_row {r' : Rw} (h : r = r') (kk : Hs x b0 pc L st r' kp qs k Z) : Hs x b0 pc L st r kp qs k Z := h ▸ kk
theorem h_rel {P : Prop} (h : ∀ σ : xS, Rel σ 1 r → P) (kk : P → Hs x b0 pc L st r kp qs k Z) : Hs x b0 pc L st r kp qs k Z := by
  obtain ⟨p, l, e, R, s, m, args, below, meth, c, bs, D, cA⟩ := x
  intro σ τ hRl hRc
  exact kk (h σ hRl) σ τ hRl hRc
/-- what is known of fewer locals -/
theorem h_keep {L' : List (Option Value)} (hl : L.length = L'.length) (hk : ∀ (i : Nat) (v : Value), L'[i]? = some (some v) → L[i]? = some (some v)) (kk : Hs x b0 pc L' st r kp qs k Z) : Hs x b0 pc L st r kp qs k Z := by
  obtain ⟨p, l, e, R, s, m, args, below, meth, c, bs, D, cA⟩ := x
  intro σ τ hRl hRc H locs ls hP hS hL h0
  exact kk σ τ hRl hRc H locs ls hP hS (xl_keep hL hl hk) h0
theorem h_join {k' t : Nat} {v : Value} (K : Hs x b0 t L (v :: st) r kp qs k' Z) (F : Hs x b0 t L (v :: st) r kp qs k' Z → Hs x b0 pc L st r kp qs k Z) : Hs x b0 pc L st r kp qs k Z := F K
theorem h_joinS {k' t : Nat} {st2 : List Value} (K : Hs x b0 t L st2 r kp qs k' Z) (F : Hs x b0 t L st2 r kp qs k' Z → Hs x b0 pc L st r kp qs k Z) : Hs x b0 pc L st r kp qs k Z := F K
theorem h_kE {k' : Nat} {u v : Int32} (K : Hs x b0 pc L (.int v :: st) r kp qs k' Z) (hk : k ≤ k') (h : u = v) : Hs x b0 pc L (.int u :: st) r kp qs k Z := h_widen hk (h ▸ K)
/-- a method's contract over the class's state: it answers v and leaves the state r1, kp1, qs1 -/
def Xs (M : xM) (as : List Value) (r : Rw) (kp : Nat) (qs : Nat → Rw) (v : Int32) (r1 : Rw) (kp1 : Nat) (qs1 : Nat → Rw) : Prop := ∀ (σ : xS) (τ : xT), Rel σ 1 r → Rc σ kp qs → Xw M as σ τ (fun w σ1 _ => w = v ∧ Rel σ1 1 r1 ∧ Rc σ1 kp1 qs1)
/-- a reading method's: an int, nothing made -/
def Xg (M : xM) (as : List Value) (r : Rw) (kp : Nat) (qs : Nat → Rw) (v : Int32) : Prop := ∀ (σ : xS) (τ : xT), Rel σ 1 r → Rc σ kp qs → Xi M as σ τ (fun o σ1 τ1 => o = v ∧ σ = σ1 ∧ τ = τ1)
def Xgl (M : xM) (as : List Value) (r : Rw) (kp : Nat) (qs : Nat → Rw) (v : Int64) : Prop := ∀ (σ : xS) (τ : xT), Rel σ 1 r → Rc σ kp qs → Xl M as σ τ (fun o σ1 τ1 => o = v ∧ σ = σ1 ∧ τ = τ1)
/-- a helper's: it may make mc cells; it leaves the row r1 and records with P -/
def Xh (mc : Nat) (M : xM) (as : List Value) (r : Rw) (kp : Nat) (qs : Nat → Rw) (v : Int32) (r1 : Rw) (P : Nat → (Nat → Rw) → Prop) : Prop := ∀ (l : Launch), l.stackTraces = false → ∀ (bs : Nat) (D : va_G) (cA : Nat → ClassId) (σ : xS) (τ : xT), Rel σ 1 r → Rc σ kp qs → Met l M.1 M.2.2.2.2.1 M.2.2.2.2.2 (va_Pc (as.map (xv bs)) (fun U => xRep bs D cA σ τ U ∧ xThr U)) (va_Qi (S := xS × xT) (fun w u => w = v ∧ Rel u.1 1 r1 ∧ ∃ kp1 qs1, Rc u.1 kp1 qs1 ∧ P kp1 qs1) (fun u t => va_P D vwCl (xws u.1 u.2 bs cA) t.heap) (fun q => bs ≤ q)) mc (6 * mc) (fun q => bs ≤ q)
def Xhl (mc : Nat) (M : xM) (as : List Value) (r : Rw) (kp : Nat) (qs : Nat → Rw) (v : Int64) (r1 : Rw) (P : Nat → (Nat → Rw) → Prop) : Prop := ∀ (l : Launch), l.stackTraces = false → ∀ (bs : Nat) (D : va_G) (cA : Nat → ClassId) (σ : xS) (τ : xT), Rel σ 1 r → Rc σ kp qs → Met l M.1 M.2.2.2.2.1 M.2.2.2.2.2 (va_Pc (as.map (xv bs)) (fun U => xRep bs D cA σ τ U ∧ xThr U)) (va_Ql (S := xS × xT) (fun w u => w = v ∧ Rel u.1 1 r1 ∧ ∃ kp1 qs1, Rc u.1 kp1 qs1 ∧ P kp1 qs1) (fun u t => va_P D vwCl (xws u.1 u.2 bs cA) t.heap) (fun q => bs ≤ q)) mc (6 * mc) (fun q => bs ≤ q)
def xHi (x : xC) (mc : Nat) (v : Int32) (r1 : Rw) (P : Nat → (Nat → Rw) → Prop) : State → Prop := match x with
  | (_, _, _, _, s, _, args, below, _, _, bs, D, cA) => MQ below (va_Qi (S := xS × xT) (fun w u => w = v ∧ Rel u.1 1 r1 ∧ ∃ kp1 qs1, Rc u.1 kp1 qs1 ∧ P kp1 qs1) (fun u t => va_P D vwCl (xws u.1 u.2 bs cA) t.heap) (fun q => bs ≤ q)) args s mc (6 * mc) (fun q => bs ≤ q)
def xHl (x : xC) (mc : Nat) (v : Int64) (r1 : Rw) (P : Nat → (Nat → Rw) → Prop) : State → Prop := match x with
  | (_, _, _, _, s, _, args, below, _, _, bs, D, cA) => MQ below (va_Ql (S := xS × xT) (fun w u => w = v ∧ Rel u.1 1 r1 ∧ ∃ kp1 qs1, Rc u.1 kp1 qs1 ∧ P kp1 qs1) (fun u t => va_P D vwCl (xws u.1 u.2 bs cA) t.heap) (fun q => bs ≤ q)) args s mc (6 * mc) (fun q => bs ≤ q)
/-- a frame that calls what may throw within -/
def Ct (x : xC) (M : xM) : Prop := Cx x M ∧ match x with
  | (_, l, _, _, s, _, _, _, _, _, _, _, _) => xThr s ∧ l.stackTraces = false
theorem h_iret (C : Cx x M) {v : Int32} {P : Nat → (Nat → Rw) → Prop} {mc : Nat} (hrt : M.2.2.2.1 = some .int) (hdg : decode M.2.1 pc = .ok (.ireturn, 1)) (hk : k ≤ mc) (hP0 : P kp qs) : Hs x b0 pc L [.int v] r kp qs k (xHi x mc v r P) := by
  obtain ⟨p, l, e, R, s, m, args, below, meth, c, bs, D, cA⟩ := x
  obtain ⟨hx, hb, hr, hml, hown, hts, hlk, hK, hR, hst, hsz⟩ := C
  intro σ τ hRl hRc H locs ls hP hS hL h0
  refine W.widen hk (Nat.mul_le_mul_left 6 hk) ?_
  exact W.iret hx hb (hr.trans hrt) (fun t ht hW => ⟨⟨v, (σ, τ), rfl, ⟨rfl, hRl, kp, qs, hRc, hP0⟩, by show va_P D vwCl (xws σ τ bs cA) t.heap; rw [ht]; exact hP⟩, hS.F ht⟩) hS.2.2 hdg hlk
theorem h_zret (C : Cx x M) {v : Int32} {P : Nat → (Nat → Rw) → Prop} {mc : Nat} (hrt : M.2.2.2.1 = some .boolean) (hdg : decode M.2.1 pc = .ok (.ireturn, 1)) (hv : v = 0 ∨ v = 1) (hk : k ≤ mc) (hP0 : P kp qs) : Hs x b0 pc L [.int v] r kp qs k (xHi x mc v r P) := by
  obtain ⟨p, l, e, R, s, m, args, below, meth, c, bs, D, cA⟩ := x
  obtain ⟨hx, hb, hr, hml, hown, hts, hlk, hK, hR, hst, hsz⟩ := C
  intro σ τ hRl hRc H locs ls hP hS hL h0
  refine W.widen hk (Nat.mul_le_mul_left 6 hk) ?_
  exact W.zret hx hb (hr.trans hrt) (by rcases hv with rfl | rfl <;> rfl) (fun t ht hW => ⟨⟨v, (σ, τ), rfl, ⟨rfl, hRl, kp, qs, hRc, hP0⟩, by show va_P D vwCl (xws σ τ bs cA) t.heap; rw [ht]; exact hP⟩, hS.F ht⟩) hS.2.2 hdg hlk
theorem h_lret (C : Cx x M) {v : Int64} {P : Nat → (Nat → Rw) → Prop} {mc : Nat} (hrt : M.2.2.2.1 = some .long) (hdg : decode M.2.1 pc = .ok (.lreturn, 1)) (hk : k ≤ mc) (hP0 : P kp qs) : Hs x b0 pc L [.long v] r kp qs k (xHl x mc v r P) := by
  obtain ⟨p, l, e, R, s, m, args, below, meth, c, bs, D, cA⟩ := x
  obtain ⟨hx, hb, hr, hml, hown, hts, hlk, hK, hR, hst, hsz⟩ := C
  intro σ τ hRl hRc H locs ls hP hS hL h0
  refine W.widen hk (Nat.mul_le_mul_left 6 hk) ?_
  exact W.lret hx hb (hr.trans hrt) (fun t ht hW => ⟨⟨v, (σ, τ), rfl, ⟨rfl, hRl, kp, qs, hRc, hP0⟩, by show va_P D vwCl (xws σ τ bs cA) t.heap; rw [ht]; exact hP⟩, hS.F ht⟩) hS.2.2 hdg hlk

theorem Xh_mk {mc : Nat} {ws' : List Cond} {as : List Value} {v : Int32} {r1 : Rw} {P : Nat → (Nat → Rw) → Prop} {L : List (Option Value)} (hy : plainName M.1.cls = true) (hw : M.2.2.2.2.1 = Cond.code M.1 M.2.1 M.2.2.1 M.2.2.2.1 :: ws') (hlen : (xEl0 (.ref 0 :: as)).length ≤ M.2.2.1) (hL : xEnt (.ref 0 :: as) M.2.2.1 = L) (body : ∀ (x : xC) (b0 : Nat), Ct x M → Hs x b0 0 L [] r kp qs 0 (xHi x mc v r1 P)) : Xh mc M (.ref 0 :: as) r kp qs v r1 P := by
  intro l hl bs D cA σ τ hRl hRc
  refine Met.ofW hy hw ?_
  intro p e s m args below meth c s₁ B hml hv
  obtain ⟨rfl, hv, hthr⟩ := hv
  have C := xCx B hml hv
  have hent := xl_entry bs hlen
  rw [hL] at hent
  have hb := body _ bs ⟨C, hthr, hl⟩ σ τ hRl hRc s.heap [] _ hv.1 va_S.rf hent (hent.2.2 0 (.ref 0) (by rw [← hL]; first | rfl | simp [xEnt, xEl0]))
  rw [lg_entry_eq]
  exact hb
theorem Xhl_mk {mc : Nat} {ws' : List Cond} {as : List Value} {v : Int64} {r1 : Rw} {P : Nat → (Nat → Rw) → Prop} {L : List (Option Value)} (hy : plainName M.1.cls = true) (hw : M.2.2.2.2.1 = Cond.code M.1 M.2.1 M.2.2.1 M.2.2.2.1 :: ws') (hlen : (xEl0 (.ref 0 :: as)).length ≤ M.2.2.1) (hL : xEnt (.ref 0 :: as) M.2.2.1 = L) (body : ∀ (x : xC) (b0 : Nat), Ct x M → Hs x b0 0 L [] r kp qs 0 (xHl x mc v r1 P)) : Xhl mc M (.ref 0 :: as) r kp qs v r1 P := by
  intro l hl bs D cA σ τ hRl hRc
  refine Met.ofW hy hw ?_
  intro p e s m args below meth c s₁ B hml hv
  obtain ⟨rfl, hv, hthr⟩ := hv
  have C := xCx B hml hv
  have hent := xl_entry bs hlen
  rw [hL] at hent
  have hb := body _ bs ⟨C, hthr, hl⟩ σ τ hRl hRc s.heap [] _ hv.1 va_S.rf hent (hent.2.2 0 (.ref 0) (by rw [← hL]; first | rfl | simp [xEnt, xEl0]))
  rw [lg_entry_eq]
  exact hb
end HR
section HC
variable {x : xC} {M : xM} {b0 pc k : Nat} {L : List (Option Value)} {st : List Value} {r : Rw} {kp : Nat} {qs : Nat → Rw} {Z : State → Prop}
theorem Ct.cx (T : Ct x M) : Cx x M := T.1
theorem k6 (k c : Nat) : 6 * (k + c) = 6 * k + 6 * c := Nat.mul_add 6 k c
theorem h_callXs (T : Ct x M) {M2 : xM} {as rest : List Value} {v : Int32} {r1 : Rw} {kp1 : Nat} {qs1 : Nat → Rw} {idx : Nat} {hh : List (Nat × Nat × Nat × Nat)} {ws' : List Cond} (hX : Xs M2 as r kp qs v r1 kp1 qs1) (hdg : decode M.2.1 pc = .ok (.invokestatic idx, 3)) (hst0 : st = as.reverse ++ rest) (hG : GoodIn M.2.2.2.2.1 (va_wsS M.1.cls idx M2.1 M2.2.2.2.2.1)) (hw : M2.2.2.2.2.1 = Cond.codeWith M2.1 M2.2.1 M2.2.2.1 M2.2.2.2.1 hh :: ws') (hd : M2.1.cls ≠ "java/lang/invoke/MethodHandle" ∧ M2.1.cls ≠ "java/lang/invoke/VarHandle" ∧ (parseMethodDescriptor M2.1.desc).map (fun d => d.parameters.length) = some as.length) (hrm : M2.2.2.2.2.2.cells = 1 ∧ M2.2.2.2.2.2.slots = 6) (hRM : M2.2.2.2.2.2.frames + 1 ≤ M.2.2.2.2.2.frames ∧ 8 + (M2.2.2.1 + 11) + M2.2.2.2.2.2.locals ≤ M.2.2.2.2.2.locals) (hLn : L.length = M.2.2.1) (hro : (rest.map fun v => v.category).sum ≤ 8) (hM6 : 6 * M.2.2.2.2.2.cells ≤ M.2.2.2.2.2.slots) (hkn : k + 1 ≤ M.2.2.2.2.2.cells) (kk : Hs x b0 (pc + 3) L (.int v :: rest) r1 kp1 qs1 (k + 1) Z) : Hs x b0 pc L st r kp qs k Z := by
  obtain ⟨p, l, e, R, s, m, args, below, meth, c, bs, D, cA⟩ := x
  obtain ⟨⟨hx, hb, hr, hml, hown, hts, hlk, hK, hR, hst, hsz⟩, hthr, hl⟩ := T
  intro σ τ hRl hRc H locs ls hP hS hL h0
  subst hR
  have hst1 : st.map (xv bs) = (as.map (xv bs)).reverse ++ rest.map (xv bs) := by rw [hst0]; simp [xv]
  rw [hst1]
  refine va_calli (vx_runSW (nL := M.2.2.1) (As := as.map (xv bs)) (rest := rest.map (xv bs)) ⟨hx, hb, hml, hown, hts⟩ (hX σ τ hRl hRc l hl bs D cA) (vx_cwSW as.length hts hG hw hrm.1 hrm.2 hd hRM) ⟨zblind, fun U hU hW => ⟨rfl, ⟨by rw [hU]; exact hP, va_K.moved hW.alike hK, hst.move hS hU hW⟩, hthr.move hW⟩⟩ rfl (by simp) (hL.1.trans hLn) rfl (lv_room (by rw [List.map_map, xcat_map]; exact hro)) hdg ⟨hkn, by have := k6 k 1; omega⟩) hS (fun q _ h => h) (fun q h => h) (fun r9 u t H1 locs1 ht _ hpost hB _ _ hS1 => ?_)
  obtain ⟨rfl, hp1, hp2⟩ := hpost
  exact kk u.1 u.2 hp1 hp2 H1 locs1 ls (ht ▸ hB) hS1 hL h0
theorem h_callXh (T : Ct x M) {mc : Nat} {M2 : xM} {as rest : List Value} {v : Int32} {r1 : Rw} {P : Nat → (Nat → Rw) → Prop} {idx : Nat} {ws' : List Cond} (hX : Xh mc M2 as r kp qs v r1 P) (hdg : decode M.2.1 pc = .ok (.invokestatic idx, 3)) (hst0 : st = as.reverse ++ rest) (hG : GoodIn M.2.2.2.2.1 (va_wsS M.1.cls idx M2.1 M2.2.2.2.2.1)) (hw : M2.2.2.2.2.1 = Cond.code M2.1 M2.2.1 M2.2.2.1 M2.2.2.2.1 :: ws') (hd : M2.1.cls ≠ "java/lang/invoke/MethodHandle" ∧ M2.1.cls ≠ "java/lang/invoke/VarHandle" ∧ (parseMethodDescriptor M2.1.desc).map (fun d => d.parameters.length) = some as.length) (hrm : M2.2.2.2.2.2.cells = mc ∧ M2.2.2.2.2.2.slots = 6 * mc) (hRM : M2.2.2.2.2.2.frames + 1 ≤ M.2.2.2.2.2.frames ∧ 8 + (M2.2.2.1 + 11) + M2.2.2.2.2.2.locals ≤ M.2.2.2.2.2.locals) (hLn : L.length = M.2.2.1) (hro : (rest.map fun v => v.category).sum ≤ 8) (hM6 : 6 * M.2.2.2.2.2.cells ≤ M.2.2.2.2.2.slots) (hkn : k + mc ≤ M.2.2.2.2.2.cells) (kk : ∀ (kp1 : Nat) (qs1 : Nat → Rw), P kp1 qs1 → Hs x b0 (pc + 3) L (.int v :: rest) r1 kp1 qs1 (k + mc) Z) : Hs x b0 pc L st r kp qs k Z := by
  obtain ⟨p, l, e, R, s, m, args, below, meth, c, bs, D, cA⟩ := x
  obtain ⟨⟨hx, hb, hr, hml, hown, hts, hlk, hK, hR, hst, hsz⟩, hthr, hl⟩ := T
  intro σ τ hRl hRc H locs ls hP hS hL h0
  subst hR
  have hst1 : st.map (xv bs) = (as.map (xv bs)).reverse ++ rest.map (xv bs) := by rw [hst0]; simp [xv]
  rw [hst1]
  refine va_calli (va_runS (nL := M.2.2.1) (As := as.map (xv bs)) (rest := rest.map (xv bs)) ⟨hx, hb, hml, hown, hts⟩ (hX l hl bs D cA σ τ hRl hRc) (va_cwS as.length hts hG hw hrm.1 hrm.2 hd hRM) ⟨zblind, fun U hU hW => ⟨rfl, ⟨by rw [hU]; exact hP, va_K.moved hW.alike hK, hst.move hS hU hW⟩, hthr.move hW⟩⟩ rfl (by simp) (hL.1.trans hLn) rfl (lv_room (by rw [List.map_map, xcat_map]; exact hro)) hdg ⟨hkn, by have := k6 k mc; omega⟩) hS (fun q _ h => h) (fun q h => h) (fun r9 u t H1 locs1 ht _ hpost hB _ _ hS1 => ?_)
  obtain ⟨rfl, hp1, kp1, qs1, hp2, hp3⟩ := hpost
  have h9 := kk kp1 qs1 hp3 u.1 u.2 hp1 hp2 H1 locs1 ls (ht ▸ hB) hS1 hL h0
  rw [k6] at h9
  exact h9
theorem h_callXhl (T : Ct x M) {mc : Nat} {M2 : xM} {as rest : List Value} {v : Int64} {r1 : Rw} {P : Nat → (Nat → Rw) → Prop} {idx : Nat} {ws' : List Cond} (hX : Xhl mc M2 as r kp qs v r1 P) (hdg : decode M.2.1 pc = .ok (.invokestatic idx, 3)) (hst0 : st = as.reverse ++ rest) (hG : GoodIn M.2.2.2.2.1 (va_wsS M.1.cls idx M2.1 M2.2.2.2.2.1)) (hw : M2.2.2.2.2.1 = Cond.code M2.1 M2.2.1 M2.2.2.1 M2.2.2.2.1 :: ws') (hd : M2.1.cls ≠ "java/lang/invoke/MethodHandle" ∧ M2.1.cls ≠ "java/lang/invoke/VarHandle" ∧ (parseMethodDescriptor M2.1.desc).map (fun d => d.parameters.length) = some as.length) (hrm : M2.2.2.2.2.2.cells = mc ∧ M2.2.2.2.2.2.slots = 6 * mc) (hRM : M2.2.2.2.2.2.frames + 1 ≤ M.2.2.2.2.2.frames ∧ 8 + (M2.2.2.1 + 11) + M2.2.2.2.2.2.locals ≤ M.2.2.2.2.2.locals) (hLn : L.length = M.2.2.1) (hro : (rest.map fun v => v.category).sum ≤ 8) (hM6 : 6 * M.2.2.2.2.2.cells ≤ M.2.2.2.2.2.slots) (hkn : k + mc ≤ M.2.2.2.2.2.cells) (kk : ∀ (kp1 : Nat) (qs1 : Nat → Rw), P kp1 qs1 → Hs x b0 (pc + 3) L (.long v :: rest) r1 kp1 qs1 (k + mc) Z) : Hs x b0 pc L st r kp qs k Z := by
  obtain ⟨p, l, e, R, s, m, args, below, meth, c, bs, D, cA⟩ := x
  obtain ⟨⟨hx, hb, hr, hml, hown, hts, hlk, hK, hR, hst, hsz⟩, hthr, hl⟩ := T
  intro σ τ hRl hRc H locs ls hP hS hL h0
  subst hR
  have hst1 : st.map (xv bs) = (as.map (xv bs)).reverse ++ rest.map (xv bs) := by rw [hst0]; simp [xv]
  rw [hst1]
  refine va_calll (va_runS (nL := M.2.2.1) (As := as.map (xv bs)) (rest := rest.map (xv bs)) ⟨hx, hb, hml, hown, hts⟩ (hX l hl bs D cA σ τ hRl hRc) (va_cwS as.length hts hG hw hrm.1 hrm.2 hd hRM) ⟨zblind, fun U hU hW => ⟨rfl, ⟨by rw [hU]; exact hP, va_K.moved hW.alike hK, hst.move hS hU hW⟩, hthr.move hW⟩⟩ rfl (by simp) (hL.1.trans hLn) rfl (lv_room (by rw [List.map_map, xcat_map]; exact hro)) hdg ⟨hkn, by have := k6 k mc; omega⟩) hS (fun q _ h => h) (fun q h => h) (fun r9 u t H1 locs1 ht _ hpost hB _ _ hS1 => ?_)
  obtain ⟨rfl, hp1, kp1, qs1, hp2, hp3⟩ := hpost
  have h9 := kk kp1 qs1 hp3 u.1 u.2 hp1 hp2 H1 locs1 ls (ht ▸ hB) hS1 hL h0
  rw [k6] at h9
  exact h9
theorem h_callVg (T : Ct x M) {M2 : xM} {as rest : List Value} {v : Int32} {idx b : Nat} {ws' : List Cond} (hX : Xg M2 (.ref b :: as) r kp qs v) (hdg : decode M.2.1 pc = .ok (.invokevirtual idx, 3)) (hst0 : st = as.reverse ++ (.ref b :: rest)) (hG : GoodIn M.2.2.2.2.1 (wsV M.1.cls idx M2.1.cls M2.1 M2.2.2.2.2.1)) (hw : M2.2.2.2.2.1 = Cond.code M2.1 M2.2.1 M2.2.2.1 M2.2.2.2.1 :: ws') (hrc : xIs M2.1.cls b) (hd : M2.1.cls = M2.1.cls ∧ M2.1.cls ≠ "java/lang/invoke/MethodHandle" ∧ M2.1.cls ≠ "java/lang/invoke/VarHandle" ∧ (parseMethodDescriptor M2.1.desc).map (fun d => d.parameters.length) = some as.length) (hrm : M2.2.2.2.2.2.cells = 0 ∧ M2.2.2.2.2.2.slots = 0) (hRM : M2.2.2.2.2.2.frames + 1 ≤ M.2.2.2.2.2.frames ∧ 8 + (M2.2.2.1 + 11) + M2.2.2.2.2.2.locals ≤ M.2.2.2.2.2.locals) (hLn : L.length = M.2.2.1) (hro : (rest.map fun v => v.category).sum ≤ 8) (hM6 : 6 * M.2.2.2.2.2.cells ≤ M.2.2.2.2.2.slots) (hkn : k ≤ M.2.2.2.2.2.cells) (kk : Hs x b0 (pc + 3) L (.int v :: rest) r kp qs k Z) : Hs x b0 pc L st r kp qs k Z := by
  obtain ⟨p, l, e, R, s, m, args, below, meth, c, bs, D, cA⟩ := x
  obtain ⟨⟨hx, hb, hr, hml, hown, hts, hlk, hK, hR, hst, hsz⟩, hthr, hl⟩ := T
  intro σ τ hRl hRc H locs ls hP hS hL h0
  subst hR
  have hst1 : st.map (xv bs) = (as.map (xv bs)).reverse ++ (.ref (bs + b) :: rest.map (xv bs)) := by rw [hst0]; simp [xv]
  rw [hst1]
  obtain ⟨ci, fs, T9, N, hb1, hb2, hb3⟩ := hrc
  have he := xws_get (σ := σ) (τ := τ) (bs := bs) (cA := cA) hb1
  rw [hb2] at he
  refine va_calli (va_runV (nL := M.2.2.1) (As := as.map (xv bs)) (rest := rest.map (xv bs)) ⟨hx, hb, hml, hown, hts⟩ (hX σ τ hRl hRc l bs D cA) (cwV as.length hts hG hw hrm.1 hrm.2 hd hRM) ⟨xblind, va_recv hK hP hb3 he, fun U hU hW => ⟨rfl, by rw [hU]; exact hP, va_K.moved hW.alike hK, hst.move hS hU hW⟩⟩ rfl (by simp) (hL.1.trans hLn) rfl (lv_room (by rw [List.map_map, xcat_map]; exact hro)) hdg ⟨hkn, by show 6 * k + 0 ≤ _; omega⟩) hS (fun q _ h => h) (fun q h => h) (fun r9 u t H1 locs1 ht _ hpost hB _ _ hS1 => ?_)
  obtain ⟨rfl, e1, e2⟩ := hpost
  exact kk u.1 u.2 (e1 ▸ hRl) (e1 ▸ hRc) H1 locs1 ls (ht ▸ hB) hS1 hL h0
theorem h_callVgl (T : Ct x M) {M2 : xM} {as rest : List Value} {v : Int64} {idx b : Nat} {ws' : List Cond} (hX : Xgl M2 (.ref b :: as) r kp qs v) (hdg : decode M.2.1 pc = .ok (.invokevirtual idx, 3)) (hst0 : st = as.reverse ++ (.ref b :: rest)) (hG : GoodIn M.2.2.2.2.1 (wsV M.1.cls idx M2.1.cls M2.1 M2.2.2.2.2.1)) (hw : M2.2.2.2.2.1 = Cond.code M2.1 M2.2.1 M2.2.2.1 M2.2.2.2.1 :: ws') (hrc : xIs M2.1.cls b) (hd : M2.1.cls = M2.1.cls ∧ M2.1.cls ≠ "java/lang/invoke/MethodHandle" ∧ M2.1.cls ≠ "java/lang/invoke/VarHandle" ∧ (parseMethodDescriptor M2.1.desc).map (fun d => d.parameters.length) = some as.length) (hrm : M2.2.2.2.2.2.cells = 0 ∧ M2.2.2.2.2.2.slots = 0) (hRM : M2.2.2.2.2.2.frames + 1 ≤ M.2.2.2.2.2.frames ∧ 8 + (M2.2.2.1 + 11) + M2.2.2.2.2.2.locals ≤ M.2.2.2.2.2.locals) (hLn : L.length = M.2.2.1) (hro : (rest.map fun v => v.category).sum ≤ 8) (hM6 : 6 * M.2.2.2.2.2.cells ≤ M.2.2.2.2.2.slots) (hkn : k ≤ M.2.2.2.2.2.cells) (kk : Hs x b0 (pc + 3) L (.long v :: rest) r kp qs k Z) : Hs x b0 pc L st r kp qs k Z := by
  obtain ⟨p, l, e, R, s, m, args, below, meth, c, bs, D, cA⟩ := x
  obtain ⟨⟨hx, hb, hr, hml, hown, hts, hlk, hK, hR, hst, hsz⟩, hthr, hl⟩ := T
  intro σ τ hRl hRc H locs ls hP hS hL h0
  subst hR
  have hst1 : st.map (xv bs) = (as.map (xv bs)).reverse ++ (.ref (bs + b) :: rest.map (xv bs)) := by rw [hst0]; simp [xv]
  rw [hst1]
  obtain ⟨ci, fs, T9, N, hb1, hb2, hb3⟩ := hrc
  have he := xws_get (σ := σ) (τ := τ) (bs := bs) (cA := cA) hb1
  rw [hb2] at he
  refine va_calll (va_runV (nL := M.2.2.1) (As := as.map (xv bs)) (rest := rest.map (xv bs)) ⟨hx, hb, hml, hown, hts⟩ (hX σ τ hRl hRc l bs D cA) (cwV as.length hts hG hw hrm.1 hrm.2 hd hRM) ⟨xblind, va_recv hK hP hb3 he, fun U hU hW => ⟨rfl, by rw [hU]; exact hP, va_K.moved hW.alike hK, hst.move hS hU hW⟩⟩ rfl (by simp) (hL.1.trans hLn) rfl (lv_room (by rw [List.map_map, xcat_map]; exact hro)) hdg ⟨hkn, by show 6 * k + 0 ≤ _; omega⟩) hS (fun q _ h => h) (fun q h => h) (fun r9 u t H1 locs1 ht _ hpost hB _ _ hS1 => ?_)
  obtain ⟨rfl, e1, e2⟩ := hpost
  exact kk u.1 u.2 (e1 ▸ hRl) (e1 ▸ hRc) H1 locs1 ls (ht ▸ hB) hS1 hL h0
theorem h_callSg (T : Ct x M) {M2 : xM} {as rest : List Value} {v : Int32} {idx : Nat} {ws' : List Cond} (hX : Xg M2 as r kp qs v) (hdg : decode M.2.1 pc = .ok (.invokestatic idx, 3)) (hst0 : st = as.reverse ++ rest) (hG : GoodIn M.2.2.2.2.1 (va_wsS M.1.cls idx M2.1 M2.2.2.2.2.1)) (hw : M2.2.2.2.2.1 = Cond.code M2.1 M2.2.1 M2.2.2.1 M2.2.2.2.1 :: ws') (hd : M2.1.cls ≠ "java/lang/invoke/MethodHandle" ∧ M2.1.cls ≠ "java/lang/invoke/VarHandle" ∧ (parseMethodDescriptor M2.1.desc).map (fun d => d.parameters.length) = some as.length) (hrm : M2.2.2.2.2.2.cells = 0 ∧ M2.2.2.2.2.2.slots = 0) (hRM : M2.2.2.2.2.2.frames + 1 ≤ M.2.2.2.2.2.frames ∧ 8 + (M2.2.2.1 + 11) + M2.2.2.2.2.2.locals ≤ M.2.2.2.2.2.locals) (hLn : L.length = M.2.2.1) (hro : (rest.map fun v => v.category).sum ≤ 8) (hM6 : 6 * M.2.2.2.2.2.cells ≤ M.2.2.2.2.2.slots) (hkn : k ≤ M.2.2.2.2.2.cells) (kk : Hs x b0 (pc + 3) L (.int v :: rest) r kp qs k Z) : Hs x b0 pc L st r kp qs k Z := by
  obtain ⟨p, l, e, R, s, m, args, below, meth, c, bs, D, cA⟩ := x
  obtain ⟨⟨hx, hb, hr, hml, hown, hts, hlk, hK, hR, hst, hsz⟩, hthr, hl⟩ := T
  intro σ τ hRl hRc H locs ls hP hS hL h0
  subst hR
  have hst1 : st.map (xv bs) = (as.map (xv bs)).reverse ++ rest.map (xv bs) := by rw [hst0]; simp [xv]
  rw [hst1]
  refine va_calli (va_runS (nL := M.2.2.1) (As := as.map (xv bs)) (rest := rest.map (xv bs)) ⟨hx, hb, hml, hown, hts⟩ (hX σ τ hRl hRc l bs D cA) (va_cwS as.length hts hG hw hrm.1 hrm.2 hd hRM) ⟨xblind, fun U hU hW => ⟨rfl, by rw [hU]; exact hP, va_K.moved hW.alike hK, hst.move hS hU hW⟩⟩ rfl (by simp) (hL.1.trans hLn) rfl (lv_room (by rw [List.map_map, xcat_map]; exact hro)) hdg ⟨hkn, by show 6 * k + 0 ≤ _; omega⟩) hS (fun q _ h => h) (fun q h => h) (fun r9 u t H1 locs1 ht _ hpost hB _ _ hS1 => ?_)
  obtain ⟨rfl, e1, e2⟩ := hpost
  exact kk u.1 u.2 (e1 ▸ hRl) (e1 ▸ hRc) H1 locs1 ls (ht ▸ hB) hS1 hL h0
end HC
