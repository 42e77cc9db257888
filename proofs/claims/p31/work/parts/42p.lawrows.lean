/-! THE LAW'S FRAME: the script (its cell b0, L9 ints xs9) in local 0; the calls of cell and low; the calls of the switch -/
abbrev mL_law : xM := (x, code, 11, ret, wsL_law, room_1)
def Lw (x : xC) (b0 L9 : Nat) (xs9 : Nat → Int32) : Prop := Cx x mL_law ∧ Cp x mL_law ∧ match x with
  | (_, l, _, _, s, _, args, _, _, _, bs, _, _) => va_X b0 L9 xs9 s s.heap ∧ b0 < s.heap.size ∧ bs = s.heap.size ∧ L9 ≤ 260 ∧ xThr s ∧ l.stackTraces = false ∧ args = #[Value.ref b0]
theorem Lw.ct {x : xC} {b0 L9 : Nat} {xs9 : Nat → Int32} (C : Lw x b0 L9 xs9) : Ct x mL_law := by
  obtain ⟨p, l, e, R, s, m, args, below, meth, c, bs, D, cA⟩ := x
  obtain ⟨h1, -, -, -, -, -, h2, h3, -⟩ := C
  exact ⟨h1, h2, h3⟩
def Yq (x : xC) (b0 : Nat) (pc : Nat) (L : List (Option Value)) (st : List Value) (σ : xS) (φ : xP) (g k n : Nat) (Z : State → Prop) : Prop := match x with
  | (p, l, e, R, s, m, args, below, meth, c, bs, D, cA) => ∀ (H : Heap) (locs : List Loc) (ls : Array Slot), va_P D vwCl (pws σ φ bs cA g) H → H.size = bs + g → va_S (fun q => bs ≤ q) s.heap H locs → xl bs L ls → ls[0]? = some (.val (.ref b0)) → W p l e R s m args below meth c H locs k n Z (F0 m pc ls (st.map (xv bs)))
def xEw (x : xC) : State → Prop := match x with
  | (_, _, _, _, s, _, args, below, _, _, _, _, _) => lw_Z below args s
section YW
variable {x : xC} {b0 L9 : Nat} {xs9 : Nat → Int32} {pc k n g : Nat} {L : List (Option Value)} {st : List Value} {σ : xS} {φ : xP} {r : Rw} {kp : Nat} {qs : Nat → Rw} {Z : State → Prop}
theorem q_iconst (C : Lw x b0 L9 xs9) {i : Int} {v : Int32} (hdg : decode mL_law.2.1 pc = .ok (.iconst i, 1)) (hv : Int32.ofInt i = v) (kk : Yq x b0 (pc + 1) L (.int v :: st) σ φ g k n Z) : Yq x b0 pc L (st) σ φ g k n Z := by
  obtain ⟨p, l, e, R, s, m, args, below, meth, c, bs, D, cA⟩ := x
  obtain ⟨hx, hb, hr, hml, hown, hts, hlk, hK, hR, hst, hsz, hni⟩ := C.2.1
  intro H locs ls hP hg hS hL h0
  exact lv_iconst hx hb hdg hv (kk H locs ls hP hg hS hL h0)
theorem q_dup (C : Lw x b0 L9 xs9) {u : Value} (hdg : decode mL_law.2.1 pc = .ok (.dup, 1)) (hu : u.category = 1) (kk : Yq x b0 (pc + 1) L (u :: u :: st) σ φ g k n Z) : Yq x b0 pc L (u :: st) σ φ g k n Z := by
  obtain ⟨p, l, e, R, s, m, args, below, meth, c, bs, D, cA⟩ := x
  obtain ⟨hx, hb, hr, hml, hown, hts, hlk, hK, hR, hst, hsz, hni⟩ := C.2.1
  intro H locs ls hP hg hS hL h0
  exact lv_dup hx hb hdg ((xv_cat _ _).trans hu) (kk H locs ls hP hg hS hL h0)
theorem q_new (C : Lw x b0 L9 xs9) {idx ci N : Nat} {fs : List (Option (Option Nat))} {Cn : String} {T : u_T} (ty : Nat → FieldType) (hdg : decode mL_law.2.1 pc = .ok (.new idx, 3)) (hsh : xSH g = .inl (ci, fs)) (hc : vwCl[ci]? = some (Cn, T, N)) (hin : ∀ w ∈ u_ws Cn T N, w ∈ mL_law.2.2.2.2.1) (hty : ∀ k, k < N → parseFieldDescriptor (T k).2.2.1 = some (ty k)) (hcl : Cond.classLink mL_law.1.cls idx Cn ∈ mL_law.2.2.2.2.1) (hinst : Cond.instantiable Cn N ∈ mL_law.2.2.2.2.1) (hini : Cond.initialized Cn ∈ mL_law.2.2.2.2.1) (hdef : ∀ j, j < N → defaultValue (ty j) = vp_V (fs.map zF) j) (hz : ∀ i, σ g i = 0) (hp : ∀ i, φ g i = false) (hkn : k + 1 ≤ mL_law.2.2.2.2.2.cells ∧ n + N ≤ mL_law.2.2.2.2.2.slots) (kk : Yq x b0 (pc + 3) L (.ref g :: st) σ φ (g + 1) (k + 1) (n + N) Z) : Yq x b0 pc L st σ φ g k n Z := by
  obtain ⟨p, l, e, R, s, m, args, below, meth, c, bs, D, cA⟩ := x
  obtain ⟨hx, hb, hr, hml, hown, hts, hlk, hK, hR, hst, hsz, hni⟩ := C.2.1
  intro H locs ls hP hg hS hL h0
  subst hR
  have hKn := hK.1 ci _ hc
  refine W.newcK hx hb hown (hts _ hcl) (hts _ hinst) (hts _ hini) rfl hdg hkn.1 hkn.2 hKn.2.1 rfl fun H1 kC hkC e1 z1 o1 => ?_
  rw [hg] at e1 z1 o1
  have h9 := kk H1 locs ls (pP_push hP (fun q hq => o1 q hq) ?_) z1 ⟨by have := hS.1; omega, fun q h1 h2 => (o1 q (by have := hS.1; omega)).trans (hS.2.1 q h1 h2), hS.2.2⟩ hL h0
  · rw [hg]
    exact h9
  · rw [hsh]
    refine ⟨_, hc, ?_⟩
    show t_OB (bs + g) (D.1 ci) N (D.2 ci) H1 (vp_V (fs.mapIdx (fun i f => pFld σ φ bs g i f)))
    rw [pFld_z hz hp]
    exact (u_born ty hts hin hKn hkC e1 hty).to hdef
theorem q_callI (C : Lw x b0 L9 xs9) {M2 : xM} {rest : List Value} {σ1 : xS} {φ1 : xP} {g1 idx b mc ms : Nat} {ws' : List Cond} (hX : Xp M2 [.ref b] σ φ g σ1 φ1 g1 mc ms) (hdg : decode mL_law.2.1 pc = .ok (.invokespecial idx, 3)) (hst0 : st = .ref b :: rest) (hG : GoodIn mL_law.2.2.2.2.1 M2.2.2.2.2.1) (hw : M2.2.2.2.2.1 = Cond.code M2.1 M2.2.1 M2.2.2.1 none :: ws') (hl : Cond.methodLink mL_law.1.cls idx M2.1 ∈ mL_law.2.2.2.2.1) (hini : Cond.initialized M2.1.cls ∈ mL_law.2.2.2.2.1) (hinm : Cond.instanceMethod M2.1 ∈ mL_law.2.2.2.2.1) (hnm : M2.1.name = "<init>") (hd : M2.1.cls ≠ "java/lang/invoke/MethodHandle" ∧ M2.1.cls ≠ "java/lang/invoke/VarHandle" ∧ (parseMethodDescriptor M2.1.desc).map (fun d => d.parameters.length) = some 0) (hrm : M2.2.2.2.2.2.cells = mc ∧ M2.2.2.2.2.2.slots = ms) (hRM : M2.2.2.2.2.2.frames + 1 ≤ mL_law.2.2.2.2.2.frames ∧ 8 + (M2.2.2.1 + 11) + M2.2.2.2.2.2.locals ≤ mL_law.2.2.2.2.2.locals) (hLn : L.length = mL_law.2.2.1) (hro : (rest.map fun v => v.category).sum ≤ 8) (hkn : k + mc ≤ mL_law.2.2.2.2.2.cells ∧ n + ms ≤ mL_law.2.2.2.2.2.slots) (kk : Yq x b0 (pc + 3) L rest σ1 φ1 g1 (k + mc) (n + ms) Z) : Yq x b0 pc L st σ φ g k n Z := by
  obtain ⟨p, l, e, R, s, m, args, below, meth, c, bs, D, cA⟩ := x
  obtain ⟨hx, hb, hr, hml, hown, hts, hlk, hK, hR, hst, hsz, hni⟩ := C.2.1
  intro H locs ls hP hg hS hL h0
  subst hR
  have hst1 : st.map (xv bs) = .ref (bs + b) :: rest.map (xv bs) := by rw [hst0]; simp [xv]
  rw [hst1]
  refine va_callv (va_runI (nL := mL_law.2.2.1) (As := []) (rest := rest.map (xv bs)) ⟨hx, hb, hml, hown, hts⟩ (hX l bs D cA) (cwI 0 hts hG hw hrm.1 hrm.2 (hts _ hini) (hts _ hl) (hts _ hinm) hnm hd hRM) ⟨pblind, fun U hU hW => ⟨rfl, by rw [hU]; exact hP, by rw [hU]; exact hg, va_K.moved hW.alike hK, hst.move hW⟩⟩ rfl rfl (hL.1.trans hLn) rfl (lv_room (by rw [List.map_map, xcat_map]; exact hro)) hdg hkn) hS (fun q _ h => h) (fun q h => h) (fun u t H1 locs1 ht _ hpost hB _ _ hS1 => kk H1 locs1 ls (ht ▸ hB.1) (ht ▸ hB.2) hS1 hL h0)
theorem q_istore (C : Lw x b0 L9 xs9) {i : Nat} {v : Int32} (hdg : decode mL_law.2.1 pc = .ok (.istore i, 2)) {L' : List (Option Value)} (hi0 : i ≠ 0) (hlt : i < L.length) (hL' : xst L i (some (.int v)) = L') (kk : Yq x b0 (pc + 2) L' st σ φ g k n Z) : Yq x b0 pc L ((.int v) :: st) σ φ g k n Z := by
  obtain ⟨p, l, e, R, s, m, args, below, meth, c, bs, D, cA⟩ := x
  obtain ⟨hx, hb, hr, hml, hown, hts, hlk, hK, hR, hst, hsz⟩ := C.1
  intro H locs ls hP hg hS hL h0
  refine lv_istore hx hb hdg (h0_has hL h0) hlt rfl (fun ls' hl' => ?_)
  obtain ⟨hl2, h02⟩ := h0_st hi0 hl'
  exact kk H locs ls' hP hg hS (by rw [← hL']; exact xl_st1 hlt hl2) h02
theorem q_astore_n (C : Lw x b0 L9 xs9) {q : Fin 4} {v : Nat} (hdg : decode mL_law.2.1 pc = .ok (.astore_n q, 1)) {L' : List (Option Value)} (hi0 : (q : Nat) ≠ 0) (hlt : (q : Nat) < L.length) (hL' : xst L (q : Nat) (some (.ref v)) = L') (kk : Yq x b0 (pc + 1) L' st σ φ g k n Z) : Yq x b0 pc L ((.ref v) :: st) σ φ g k n Z := by
  obtain ⟨p, l, e, R, s, m, args, below, meth, c, bs, D, cA⟩ := x
  obtain ⟨hx, hb, hr, hml, hown, hts, hlk, hK, hR, hst, hsz⟩ := C.1
  intro H locs ls hP hg hS hL h0
  refine lv_astore_n hx hb hdg rfl (h0_has hL h0) hlt rfl (fun ls' hl' => ?_)
  obtain ⟨hl2, h02⟩ := h0_st hi0 hl'
  exact kk H locs ls' hP hg hS (by rw [← hL']; exact xl_st1 hlt hl2) h02
theorem yq_yw {b1 : Nat} (kk : Yw x b1 pc L st σ (fun _ _ => 0) k n Z) : Yq x b1 pc L st σ φF 165 k n Z := by
  obtain ⟨p, l, e, R, s, m, args, below, meth, c, bs, D, cA⟩ := x
  intro H locs ls hP hg hS hL h0
  exact kk H locs ls (pws_xws hP) hS hL h0
theorem yw_hs {b1 k1 : Nat} (h1 : k ≤ k1) (h2 : n ≤ 6 * k1) (hRl : Rel σF 1 r) (hRc : Rc σF kp qs) (kk : Hs x b1 pc L st r kp qs k1 Z) : Yw x b1 pc L st σF (fun _ _ => 0) k n Z := by
  obtain ⟨p, l, e, R, s, m, args, below, meth, c, bs, D, cA⟩ := x
  intro H locs ls hP hS hL h0
  exact W.widen h1 h2 (kk _ _ hRl hRc H locs ls hP hS hL h0)
theorem h_end (C : Lw x b0 L9 xs9) (hdg : decode code pc = .ok (.ireturn, 1)) (hk : k ≤ 600000) : Hs x b0 pc L [.int 1] r kp qs k (xEw x) := by
  obtain ⟨p, l, e, R, s, m, args, below, meth, c, bs, D, cA⟩ := x
  obtain ⟨⟨hx, hb, hr, hml, hown, hts, hlk, hK, hR, hst, hsz⟩, -, hX9, hbl, hbe, hL9, hthr, hl, ha⟩ := C
  intro σ τ hRl hRc H locs ls hP hS hL h0
  subst ha
  subst hR
  refine va_forget (fun q hq => ?_) ?_
  · have h9 : bs ≤ q.base := hS.2.2 q hq
    omega
  refine W.widen (k := 644433) (n := 7168400) (by omega) (by omega) ?_
  exact lw_ret hx hb hr hlk hdg
end YW
/-! cell(script, t): some int -/
def Lc (x : xC) (M : xM) (b0 L9 : Nat) (xs9 : Nat → Int32) : Prop := Cx x M ∧ match x with
  | (_, _, _, _, s, _, _, _, _, _, bs, _, _) => va_X b0 L9 xs9 s s.heap ∧ b0 < s.heap.size ∧ b0 < bs ∧ L9 ≤ 260
section CE
variable {x : xC} {M : xM} {b0 L9 : Nat} {xs9 : Nat → Int32} {pc k : Nat} {L : List (Option Value)} {st : List Value} {r : Rw} {kp : Nat} {qs : Nat → Rw} {Z : State → Prop}
theorem c_len (C : Lc x M b0 L9 xs9) (d0 : decode M.2.1 pc = .ok (.aload_n 0, 1)) (d1 : decode M.2.1 (pc + 1) = .ok (.arraylength, 1)) (kk : Hs x b0 (pc + 2) L (.int (nI L9) :: st) r kp qs k Z) : Hs x b0 pc L st r kp qs k Z := by
  obtain ⟨p, l, e, R, s, m, args, below, meth, c, bs, D, cA⟩ := x
  obtain ⟨⟨hx, hb, hr, hml, hown, hts, hlk, hK, hR, hst, hsz⟩, hX9, hbl, hbb, hL9⟩ := C
  intro σ τ hRl hRc H locs ls hP hS hL h0
  refine lv_aload_n hx hb d0 rfl h0 ?_
  refine va_slen hx hb hX9 hbl (by show ¬ bs ≤ b0; omega) hS d1 ?_
  exact kk σ τ hRl hRc H locs ls hP hS hL h0
theorem c_get (C : Lc x M b0 L9 xs9) {t : Nat} (d0 : decode M.2.1 pc = .ok (.aload_n 0, 1)) (d1 : decode M.2.1 (pc + 1) = .ok (.iload_n 1, 1)) (d2 : decode M.2.1 (pc + 2) = .ok (.iaload, 1)) (h1 : L[1]? = some (some (.int (nI t)))) (ht : t < L9) (kk : Hs x b0 (pc + 3) L (.int (xs9 t) :: st) r kp qs k Z) : Hs x b0 pc L st r kp qs k Z := by
  obtain ⟨p, l, e, R, s, m, args, below, meth, c, bs, D, cA⟩ := x
  obtain ⟨⟨hx, hb, hr, hml, hown, hts, hlk, hK, hR, hst, hsz⟩, hX9, hbl, hbb, hL9⟩ := C
  intro σ τ hRl hRc H locs ls hP hS hL h0
  refine lv_aload_n hx hb d0 rfl h0 ?_
  refine lv_iload_n hx hb d1 rfl (hL.2.2 _ _ h1) ?_
  refine va_sld hx hb hX9 hbl (by show ¬ bs ≤ b0; omega) hS (vp_in_nI ht (by omega)) d2 ?_
  rw [nI_clamp (by omega)]
  exact kk σ τ hRl hRc H locs ls hP hS hL h0
def xCi (x : xC) (r : Rw) (kp : Nat) (qs : Nat → Rw) : State → Prop := match x with
  | (_, _, _, _, s, _, args, below, _, _, bs, D, cA) => MQ below (va_Qi (S := xS × xT) (fun _ u => Rel u.1 1 r ∧ Rc u.1 kp qs) (fun u t => va_P D vwCl (xws u.1 u.2 bs cA) t.heap) (fun q => bs ≤ q)) args s 0 0 (fun q => bs ≤ q)
theorem c_ret (C : Cx x M) {v : Int32} (hrt : M.2.2.2.1 = some .int) (hdg : decode M.2.1 pc = .ok (.ireturn, 1)) : Hs x b0 pc L [.int v] r kp qs 0 (xCi x r kp qs) := by
  obtain ⟨p, l, e, R, s, m, args, below, meth, c, bs, D, cA⟩ := x
  obtain ⟨hx, hb, hr, hml, hown, hts, hlk, hK, hR, hst, hsz⟩ := C
  intro σ τ hRl hRc H locs ls hP hS hL h0
  exact W.iret hx hb (hr.trans hrt) (fun t ht hW => ⟨⟨v, (σ, τ), rfl, ⟨hRl, hRc⟩, by show va_P D vwCl (xws σ τ bs cA) t.heap; rw [ht]; exact hP⟩, hS.F ht⟩) hS.2.2 hdg hlk
end CE
set_option maxHeartbeats 4000000 in
set_option maxRecDepth 100000 in
theorem cell_body {x : xC} {b0 L9 : Nat} {xs9 : Nat → Int32} {r : Rw} {kp : Nat} {qs : Nat → Rw} (C : Lc x mL_cell b0 L9 xs9) {t : Nat} (ht : t < 1000) : Hs x b0 0 [none, some (.int (nI t))] [] r kp qs 0 (xCi x r kp qs) := by
  have C1 := C.1
  have hL9 : L9 ≤ 260 := by
    obtain ⟨p, l, e, R, s, m, args, below, meth, c, bs, D, cA⟩ := x
    exact C.2.2.2.2
  refine h_iload_n C1 dL_cell_0 rfl ?_
  refine c_len C dL_cell_1 dL_cell_2 ?_
  refine h_icmp_ge (t := 12) C1 dL_cell_3 (by decide) (fun kc => ?_) (fun kc => ?_)
  · refine h_ldc (v := 1779033703) C1 dL_cell_12 (by decide +kernel) ?_
    refine h_iload_n C1 dL_cell_14 rfl ?_
    refine h_iconst (v := 1) C1 dL_cell_15 (by decide) ?_
    refine h_iadd C1 dL_cell_16 ?_
    refine h_imul C1 dL_cell_17 ?_
    exact c_ret C1 rfl dL_cell_18
  · have hlt : t < L9 := Nat.lt_of_not_le (fun z => kc (nI_le z (by omega)))
    refine c_get C dL_cell_6 dL_cell_7 dL_cell_8 rfl hlt ?_
    refine h_goto (t := 18) C1 dL_cell_9 (by decide) ?_
    exact c_ret C1 rfl dL_cell_18
def cPre (b0 L9 : Nat) (xs9 : Nat → Int32) (bs : Nat) (D : va_G) (cA : Nat → ClassId) (σ : xS) (τ : xT) (U : State) : Prop := xRep bs D cA σ τ U ∧ va_X b0 L9 xs9 U U.heap ∧ b0 < U.heap.size ∧ b0 < bs ∧ L9 ≤ 260
theorem cblind {b0 L9 : Nat} {xs9 : Nat → Int32} {bs : Nat} {D : va_G} {cA : Nat → ClassId} {av : List Value} {σ : xS} {τ : xT} : FrameBlind (va_Pc av (fun U => cPre b0 L9 xs9 bs D cA σ τ U)) := by
  intro a U g mk q
  obtain ⟨q0, ⟨q1, q2, q3⟩, q4, q5, q6, q7⟩ := q
  exact ⟨q0, ⟨q1, va_K.moved (u := U) (U := U.calling g mk a) (Vm.Alike.refl U.vm) q2, xStat.same (u := U) (U := U.calling g mk a) q3 rfl rfl⟩, va_X.moved (u := U) (U := U.calling g mk a) (Vm.Alike.refl U.vm) q4, q5, q6, q7⟩
set_option maxHeartbeats 4000000 in
theorem e_L_cell {b0 L9 : Nat} {xs9 : Nat → Int32} {r : Rw} {kp : Nat} {qs : Nat → Rw} {t : Nat} (ht : t < 1000) (l : Launch) (bs : Nat) (D : va_G) (cA : Nat → ClassId) (σ : xS) (τ : xT) (hRl : Rel σ 1 r) (hRc : Rc σ kp qs) : Met l mL_cell.1 mL_cell.2.2.2.2.1 mL_cell.2.2.2.2.2 (va_Pc [.ref b0, .int (nI t)] (fun U => cPre b0 L9 xs9 bs D cA σ τ U)) (va_Qi (S := xS × xT) (fun _ u => Rel u.1 1 r ∧ Rc u.1 kp qs) (fun u t => va_P D vwCl (xws u.1 u.2 bs cA) t.heap) (fun q => bs ≤ q)) 0 0 (fun q => bs ≤ q) := by
  refine Met.ofW (by decide) rfl ?_
  intro p e s m args below meth c s₁ B hml hv
  obtain ⟨rfl, hv, hX, hbl, hbb, hL9⟩ := hv
  have C := xCx (M := mL_cell) B hml hv
  have he := lv_entry [Value.ref b0, .int (nI t)] (n := 2) (Nat.le_of_ble_eq_true rfl)
  rw [lg_entry_eq]
  refine cell_body (x := (p, l, e, _, s, m, _, below, meth, c, bs, D, cA)) ⟨C, hX, hbl, hbb, hL9⟩ ht σ τ hRl hRc s.heap [] _ hv.1 va_S.rf ⟨he.1, he.2.1, fun i v h => ?_⟩ (he.2.2 (0, .ref b0) List.mem_cons_self)
  match i, h with
  | 0, h => simp at h
  | 1, h =>
    simp at h
    subst h
    exact he.2.2 (1, .int (nI t)) (List.mem_cons_of_mem _ List.mem_cons_self)
  | i + 2, h => simp at h
theorem h_cell {x : xC} {b0 L9 : Nat} {xs9 : Nat → Int32} {L : List (Option Value)} {st : List Value} {r : Rw} {kp : Nat} {qs : Nat → Rw} {k t : Nat} {Z : State → Prop} (C : Lw x b0 L9 xs9) (ht : t < 1000) (h3 : L[3]? = some (some (.int (nI t)))) (hst0 : st = []) (hLn : L.length = 11) (hk : k ≤ 644433) (kk : ∀ v : Int32, Hs x b0 76 L [.int v] r kp qs k Z) : Hs x b0 71 L st r kp qs k Z := by
  obtain ⟨p, l, e, R, s, m, args, below, meth, c, bs, D, cA⟩ := x
  obtain ⟨⟨hx, hb, hr, hml, hown, hts, hlk, hK, hR, hst, hsz⟩, -, hX9, hbl, hbe, hL9, hthr, hl, ha⟩ := C
  intro σ τ hRl hRc H locs ls hP hS hL h0
  subst hR
  subst hst0
  refine lv_aload_n hx hb dL_law_71 rfl h0 ?_
  refine lv_iload_n hx hb dL_law_72 rfl (hL.2.2 _ _ h3) ?_
  refine va_calli (va_runS (nL := mL_law.2.2.1) (As := [.ref b0, .int (nI t)]) (rest := []) ⟨hx, hb, hml, hown, hts⟩ (e_L_cell (b0 := b0) (L9 := L9) (xs9 := xs9) ht l bs D cA σ τ hRl hRc) (va_cwS 2 hts gL_law_L_cell rfl rfl rfl qL_cell ⟨Nat.le_of_ble_eq_true rfl, Nat.le_of_ble_eq_true rfl⟩) ⟨cblind, fun U hU hW => ⟨rfl, ⟨by rw [hU]; exact hP, va_K.moved hW.alike hK, hst.move hS hU hW⟩, ?_, ?_, by omega, hL9⟩⟩ rfl (by simp) (hL.1.trans hLn) rfl (lv_room (Nat.le_of_ble_eq_true rfl)) dL_law_73 ⟨hk, by show 6 * k + 0 ≤ 7168400; omega⟩) hS (fun q _ h => h) (fun q h => h) (fun r9 u t9 H1 locs1 ht9 _ hpost hB _ _ hS1 => ?_)
  · rw [hU]
    exact va_X.moved hW.alike (hX9.kept (hS.2.1 b0 hbl (by show ¬ bs ≤ b0; omega)))
  · rw [hU]
    exact Nat.lt_of_lt_of_le hbl hS.1
  · exact kk r9 u.1 u.2 hpost.1 hpost.2 H1 locs1 ls (ht9 ▸ hB) hS1 hL h0
/-! the calls of the switch: refused or not, an answer that the law allows -/
def okV (w : Int32) : Prop := 0 ≤ w ∨ w = -2052 ∨ w = -2053 ∨ w = -2051
def okS (T : Nat) (w : Int32) (r1 : Rw) (kp1 : Nat) (qs1 : Nat → Rw) : Prop := okV w ∧ Gk r1 T ∧ Gs T kp1 qs1
def Xq (M : xM) (as : List Value) (r : Rw) (kp : Nat) (qs : Nat → Rw) (T : Nat) : Prop := ∀ (σ : xS) (τ : xT), Rel σ 1 r → Rc σ kp qs → Xw M as σ τ (fun w σ1 _ => ∃ r1 kp1 qs1, Rel σ1 1 r1 ∧ Rc σ1 kp1 qs1 ∧ okS T w r1 kp1 qs1)
theorem Xq_of {M : xM} {as : List Value} {r : Rw} {kp : Nat} {qs : Nat → Rw} {v : Int32} {r1 : Rw} {kp1 : Nat} {qs1 : Nat → Rw} {T : Nat} (h : Xs M as r kp qs v r1 kp1 qs1) (ho : okS T v r1 kp1 qs1) : Xq M as r kp qs T := fun σ τ hRl hRc => Xw_mono (h σ τ hRl hRc) (fun w σ1 τ1 q => ⟨r1, kp1, qs1, q.2.1, q.2.2, q.1 ▸ ho⟩)
section HQ
variable {x : xC} {M : xM} {b0 pc k : Nat} {L : List (Option Value)} {st : List Value} {r : Rw} {kp : Nat} {qs : Nat → Rw} {Z : State → Prop}
theorem h_callXq (T : Ct x M) {M2 : xM} {as rest : List Value} {T9 : Nat} {idx : Nat} {hh : List (Nat × Nat × Nat × Nat)} {ws' : List Cond} (hX : Xq M2 as r kp qs T9) (hdg : decode M.2.1 pc = .ok (.invokestatic idx, 3)) (hst0 : st = as.reverse ++ rest) (hG : GoodIn M.2.2.2.2.1 (va_wsS M.1.cls idx M2.1 M2.2.2.2.2.1)) (hw : M2.2.2.2.2.1 = Cond.codeWith M2.1 M2.2.1 M2.2.2.1 M2.2.2.2.1 hh :: ws') (hd : M2.1.cls ≠ "java/lang/invoke/MethodHandle" ∧ M2.1.cls ≠ "java/lang/invoke/VarHandle" ∧ (parseMethodDescriptor M2.1.desc).map (fun d => d.parameters.length) = some as.length) (hrm : M2.2.2.2.2.2.cells = 1 ∧ M2.2.2.2.2.2.slots = 6) (hRM : M2.2.2.2.2.2.frames + 1 ≤ M.2.2.2.2.2.frames ∧ 8 + (M2.2.2.1 + 11) + M2.2.2.2.2.2.locals ≤ M.2.2.2.2.2.locals) (hLn : L.length = M.2.2.1) (hro : (rest.map fun v => v.category).sum ≤ 8) (hM6 : 6 * M.2.2.2.2.2.cells ≤ M.2.2.2.2.2.slots) (hkn : k + 1 ≤ M.2.2.2.2.2.cells) (kk : ∀ (v : Int32) (r1 : Rw) (kp1 : Nat) (qs1 : Nat → Rw), okS T9 v r1 kp1 qs1 → Hs x b0 (pc + 3) L (.int v :: rest) r1 kp1 qs1 (k + 1) Z) : Hs x b0 pc L st r kp qs k Z := by
  obtain ⟨p, l, e, R, s, m, args, below, meth, c, bs, D, cA⟩ := x
  obtain ⟨⟨hx, hb, hr, hml, hown, hts, hlk, hK, hR, hst, hsz⟩, hthr, hl⟩ := T
  intro σ τ hRl hRc H locs ls hP hS hL h0
  subst hR
  have hst1 : st.map (xv bs) = (as.map (xv bs)).reverse ++ rest.map (xv bs) := by rw [hst0]; simp [xv]
  rw [hst1]
  refine va_calli (vx_runSW (nL := M.2.2.1) (As := as.map (xv bs)) (rest := rest.map (xv bs)) ⟨hx, hb, hml, hown, hts⟩ (hX σ τ hRl hRc l hl bs D cA) (vx_cwSW as.length hts hG hw hrm.1 hrm.2 hd hRM) ⟨zblind, fun U hU hW => ⟨rfl, ⟨by rw [hU]; exact hP, va_K.moved hW.alike hK, hst.move hS hU hW⟩, hthr.move hW⟩⟩ rfl (by simp) (hL.1.trans hLn) rfl (lv_room (by rw [List.map_map, xcat_map]; exact hro)) hdg ⟨hkn, by have := k6 k 1; omega⟩) hS (fun q _ h => h) (fun q h => h) (fun r9 u t H1 locs1 ht _ hpost hB _ _ hS1 => ?_)
  obtain ⟨r1, kp1, qs1, hp1, hp2, hp3⟩ := hpost
  exact kk r9 r1 kp1 qs1 hp3 u.1 u.2 hp1 hp2 H1 locs1 ls (ht ▸ hB) hS1 hL h0
end HQ
