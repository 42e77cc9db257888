/-! THE LAW'S SWITCH, ITS CHECKS, ITS LOOP -/
set_option maxHeartbeats 4000000 in
set_option maxRecDepth 100000 in
theorem e_L_low (σ : xS) (τ : xT) (u v : Int32) (hv : ¬ v = 0) : Xi mL_low [.int u, .int v] σ τ (fun o σ1 τ1 => o = (u &&& 2147483647) - (u &&& 2147483647) / v * v ∧ σ = σ1 ∧ τ = τ1) := by
  refine Xi_mk (L := [some (.int u), some (.int v)]) (by decide) rfl (Nat.le_of_ble_eq_true rfl) rfl (fun x C => ?_)
  refine y_iload_n C dL_low_0 rfl ?_
  refine y_ldc (v := 2147483647) C dL_low_1 (by decide +kernel) ?_
  refine y_iand C dL_low_3 ?_
  refine y_iload_n C dL_low_4 rfl ?_
  refine y_irem C dL_low_5 hv ?_
  exact y_iret C rfl dL_low_6 (⟨rfl, rfl, rfl⟩)
theorem xg_low {r : Rw} {kp : Nat} {qs : Nat → Rw} (u v : Int32) (hv : ¬ v = 0) : Xg mL_low [.int u, .int v] r kp qs ((u &&& 2147483647) - (u &&& 2147483647) / v * v) := fun σ τ _ _ => e_L_low σ τ u v hv
theorem low_n (x : Int32) {N : Nat} (h0 : 0 < N) (hN : N < 2 ^ 31) : ∃ c, c < N ∧ (x &&& 2147483647) - (x &&& 2147483647) / nI N * nI N = nI c := by
  obtain ⟨j, hj, e⟩ := pk_andE x (m := 2147483647) 31 (by decide)
  rw [e]
  exact ⟨j % N, Nat.mod_lt _ h0, pk_rem hj h0 hN⟩
theorem nz {a : Nat} (h : 0 < a) (h2 : a < 2 ^ 31) : ¬ nI a = 0 := by
  intro z
  have h1 := congrArg cN z
  rw [cN_nI h2] at h1
  have h0 : cN 0 = 0 := by decide
  omega
section LC
variable {x : xC} {b0 L9 : Nat} {xs9 : Nat → Int32}
set_option maxHeartbeats 4000000 in
set_option maxRecDepth 100000 in
theorem lc_c0 (C : Lw x b0 L9 xs9) {r : Rw} {R ns nr ne tt kp Tm : Nat} {qs : Nat → Rw} (G : Gd r R ns nr ne tt) (hs : Gs Tm kp qs) (ht : tt ≤ Tm) (hT : Tm + 200 ≤ 1000000) {k t m w : Nat} {X : Int32} (hk : k + 10 ≤ 600000) {v9 v10 : Option Value} {Z : State → Prop} (kk : ∀ (w9 : Int32) (r9 : Rw) (kp9 : Nat) (qs9 : Nat → Rw) (k9 : Nat), k9 ≤ k + 3 → okS (Tm + 60) w9 r9 kp9 qs9 → Hs x b0 686 [none, some (.ref 0), some (.int 1), some (.int (nI t)), some (.int X), some (.int (nI R)), some (.int (nI ns)), some (.int (nI m)), some (.int (nI w)), some (.int w9), v10] [] r9 kp9 qs9 k9 Z) : Hs x b0 220 [none, some (.ref 0), some (.int 1), some (.int (nI t)), some (.int X), some (.int (nI R)), some (.int (nI ns)), some (.int (nI m)), some (.int (nI w)), v9, v10] [] r kp qs k Z := by
  have T := C.ct
  have C := T.1
  have hR := G.1.1.1.2
  refine h_iload C dL_law_220 rfl ?_
  refine h_iconst (v := 4) C dL_law_222 (by decide) ?_
  refine h_ishr C dL_law_223 ?_
  refine h_iconst (v := 4) C dL_law_224 (by decide) ?_
  refine h_callSg T (xg_low _ _ (by decide)) dL_law_225 rfl gL_law_L_low rfl qL_low ⟨rfl, rfl⟩ ⟨Nat.le_of_ble_eq_true rfl, Nat.le_of_ble_eq_true rfl⟩ rfl (Nat.le_of_ble_eq_true rfl) (Nat.le_of_ble_eq_true rfl) (by show _ ≤ 644433; omega) ?_
  refine h_if_ne (t := 244) C dL_law_228 (by decide) (fun kc228 => ?_) (fun kc228 => ?_)
  · -- t
    refine h_aload_n C dL_law_244 rfl ?_
    refine h_iconst (v := 1) C dL_law_245 (by decide) ?_
    refine h_iload C dL_law_246 rfl ?_
    refine h_sipush (v := 200) C dL_law_248 (by decide) ?_
    refine h_irem C dL_law_251 (by decide) ?_
    refine h_iadd C dL_law_252 ?_
    refine h_callXq T (xq_addFuel G hs ht hT _) dL_law_253 rfl gL_law_L_addFuel rfl qL_addFuel ⟨rfl, rfl⟩ ⟨Nat.le_of_ble_eq_true rfl, Nat.le_of_ble_eq_true rfl⟩ rfl (Nat.le_of_ble_eq_true rfl) (Nat.le_of_ble_eq_true rfl) (by show _ ≤ 644433; omega) (fun w9 r9 kp9 qs9 hq9 => ?_)
    refine h_istore C dL_law_256 (L' := [_, _, _, _, _, _, _, _, _, _, _]) (by decide) (Nat.lt_of_lt_of_le (by decide : (9 : Nat) < 11) (Nat.le_refl _)) rfl ?_
    refine h_goto (t := 686) C dL_law_258 (by decide) ?_
    first
      | exact kk _ _ _ _ _ (by omega) hq9
      | exact kk _ _ _ _ _ (by omega) ⟨Or.inl (Int32.le_refl _), (G.k ht).mono (by omega), hs.mono (by omega)⟩
  · -- f
    refine h_aload_n C dL_law_231 rfl ?_
    refine h_iconst (v := 1) C dL_law_232 (by decide) ?_
    refine h_iload C dL_law_233 rfl ?_
    refine h_iconst (v := 4) C dL_law_235 (by decide) ?_
    refine h_irem C dL_law_236 (by decide) ?_
    refine h_iadd C dL_law_237 ?_
    refine h_callXq T (xq_begin G hs ht hT _) dL_law_238 rfl gL_law_L_begin rfl qL_begin ⟨rfl, rfl⟩ ⟨Nat.le_of_ble_eq_true rfl, Nat.le_of_ble_eq_true rfl⟩ rfl (Nat.le_of_ble_eq_true rfl) (Nat.le_of_ble_eq_true rfl) (by show _ ≤ 644433; omega) (fun w9 r9 kp9 qs9 hq9 => ?_)
    refine h_goto (t := 256) C dL_law_241 (by decide) ?_
    refine h_istore C dL_law_256 (L' := [_, _, _, _, _, _, _, _, _, _, _]) (by decide) (Nat.lt_of_lt_of_le (by decide : (9 : Nat) < 11) (Nat.le_refl _)) rfl ?_
    refine h_goto (t := 686) C dL_law_258 (by decide) ?_
    first
      | exact kk _ _ _ _ _ (by omega) hq9
      | exact kk _ _ _ _ _ (by omega) ⟨Or.inl (Int32.le_refl _), (G.k ht).mono (by omega), hs.mono (by omega)⟩
set_option maxHeartbeats 4000000 in
set_option maxRecDepth 100000 in
theorem lc_c1 (C : Lw x b0 L9 xs9) {r : Rw} {R ns nr ne tt kp Tm : Nat} {qs : Nat → Rw} (G : Gd r R ns nr ne tt) (hs : Gs Tm kp qs) (ht : tt ≤ Tm) (hT : Tm + 200 ≤ 1000000) {k t m w : Nat} {X : Int32} (hk : k + 10 ≤ 600000) {v9 v10 : Option Value} {Z : State → Prop} (kk : ∀ (w9 : Int32) (r9 : Rw) (kp9 : Nat) (qs9 : Nat → Rw) (k9 : Nat), k9 ≤ k + 3 → okS (Tm + 60) w9 r9 kp9 qs9 → Hs x b0 686 [none, some (.ref 0), some (.int 1), some (.int (nI t)), some (.int X), some (.int (nI R)), some (.int (nI ns)), some (.int (nI m)), some (.int (nI w)), some (.int w9), v10] [] r9 kp9 qs9 k9 Z) : Hs x b0 261 [none, some (.ref 0), some (.int 1), some (.int (nI t)), some (.int X), some (.int (nI R)), some (.int (nI ns)), some (.int (nI m)), some (.int (nI w)), v9, v10] [] r kp qs k Z := by
  have T := C.ct
  have C := T.1
  have hR := G.1.1.1.2
  refine h_aload_n C dL_law_261 rfl ?_
  refine h_iload C dL_law_262 rfl ?_
  refine h_iload C dL_law_264 rfl ?_
  refine h_iconst (v := 1) C dL_law_266 (by decide) ?_
  refine h_iadd C dL_law_267 ?_
  refine h_topE (nI (R + 1)) (nI_1 R) ?_
  refine h_irem C dL_law_268 (nz (Nat.succ_pos R) (by omega)) ?_
  refine h_iload C dL_law_269 rfl ?_
  refine h_iload C dL_law_271 rfl ?_
  refine h_iconst (v := 1) C dL_law_273 (by decide) ?_
  refine h_iadd C dL_law_274 ?_
  refine h_topE (nI (R + 1)) (nI_1 R) ?_
  refine h_irem C dL_law_275 (nz (Nat.succ_pos R) (by omega)) ?_
  refine h_iload C dL_law_276 rfl ?_
  refine h_iconst (v := 5) C dL_law_278 (by decide) ?_
  refine h_irem C dL_law_279 (by decide) ?_
  refine h_if_le (t := 287) C dL_law_280 (by decide) (fun kc280 => ?_) (fun kc280 => ?_)
  · -- t
    refine h_iconst (v := 0) C dL_law_287 (by decide) ?_
    refine h_callXq T (xq_setDoor G hs ht hT _ _ _ (by first | exact Or.inl rfl | exact Or.inr rfl)) dL_law_288 rfl gL_law_L_setDoor rfl qL_setDoor ⟨rfl, rfl⟩ ⟨Nat.le_of_ble_eq_true rfl, Nat.le_of_ble_eq_true rfl⟩ rfl (Nat.le_of_ble_eq_true rfl) (Nat.le_of_ble_eq_true rfl) (by show _ ≤ 644433; omega) (fun w9 r9 kp9 qs9 hq9 => ?_)
    refine h_istore C dL_law_291 (L' := [_, _, _, _, _, _, _, _, _, _, _]) (by decide) (Nat.lt_of_lt_of_le (by decide : (9 : Nat) < 11) (Nat.le_refl _)) rfl ?_
    refine h_goto (t := 686) C dL_law_293 (by decide) ?_
    first
      | exact kk _ _ _ _ _ (by omega) hq9
      | exact kk _ _ _ _ _ (by omega) ⟨Or.inl (Int32.le_refl _), (G.k ht).mono (by omega), hs.mono (by omega)⟩
  · -- f
    refine h_iconst (v := 1) C dL_law_283 (by decide) ?_
    refine h_goto (t := 288) C dL_law_284 (by decide) ?_
    refine h_callXq T (xq_setDoor G hs ht hT _ _ _ (by first | exact Or.inl rfl | exact Or.inr rfl)) dL_law_288 rfl gL_law_L_setDoor rfl qL_setDoor ⟨rfl, rfl⟩ ⟨Nat.le_of_ble_eq_true rfl, Nat.le_of_ble_eq_true rfl⟩ rfl (Nat.le_of_ble_eq_true rfl) (Nat.le_of_ble_eq_true rfl) (by show _ ≤ 644433; omega) (fun w9 r9 kp9 qs9 hq9 => ?_)
    refine h_istore C dL_law_291 (L' := [_, _, _, _, _, _, _, _, _, _, _]) (by decide) (Nat.lt_of_lt_of_le (by decide : (9 : Nat) < 11) (Nat.le_refl _)) rfl ?_
    refine h_goto (t := 686) C dL_law_293 (by decide) ?_
    first
      | exact kk _ _ _ _ _ (by omega) hq9
      | exact kk _ _ _ _ _ (by omega) ⟨Or.inl (Int32.le_refl _), (G.k ht).mono (by omega), hs.mono (by omega)⟩
set_option maxHeartbeats 4000000 in
set_option maxRecDepth 100000 in
theorem lc_c3 (C : Lw x b0 L9 xs9) {r : Rw} {R ns nr ne tt kp Tm : Nat} {qs : Nat → Rw} (G : Gd r R ns nr ne tt) (hs : Gs Tm kp qs) (ht : tt ≤ Tm) (hT : Tm + 200 ≤ 1000000) {k t m w : Nat} {X : Int32} (hk : k + 10 ≤ 600000) {v9 v10 : Option Value} {Z : State → Prop} (kk : ∀ (w9 : Int32) (r9 : Rw) (kp9 : Nat) (qs9 : Nat → Rw) (k9 : Nat), k9 ≤ k + 3 → okS (Tm + 60) w9 r9 kp9 qs9 → Hs x b0 686 [none, some (.ref 0), some (.int 1), some (.int (nI t)), some (.int X), some (.int (nI R)), some (.int (nI ns)), some (.int (nI m)), some (.int (nI w)), some (.int w9), v10] [] r9 kp9 qs9 k9 Z) : Hs x b0 296 [none, some (.ref 0), some (.int 1), some (.int (nI t)), some (.int X), some (.int (nI R)), some (.int (nI ns)), some (.int (nI m)), some (.int (nI w)), v9, v10] [] r kp qs k Z := by
  have T := C.ct
  have C := T.1
  have hR := G.1.1.1.2
  refine h_aload_n C dL_law_296 rfl ?_
  refine h_iconst (v := 1) C dL_law_297 (by decide) ?_
  refine h_iload C dL_law_298 rfl ?_
  refine h_bipush (v := 120) C dL_law_300 (by decide) ?_
  refine h_irem C dL_law_302 (by decide) ?_
  refine h_iadd C dL_law_303 ?_
  refine h_callXq T (xq_addFuel G hs ht hT _) dL_law_304 rfl gL_law_L_addFuel rfl qL_addFuel ⟨rfl, rfl⟩ ⟨Nat.le_of_ble_eq_true rfl, Nat.le_of_ble_eq_true rfl⟩ rfl (Nat.le_of_ble_eq_true rfl) (Nat.le_of_ble_eq_true rfl) (by show _ ≤ 644433; omega) (fun w9 r9 kp9 qs9 hq9 => ?_)
  refine h_istore C dL_law_307 (L' := [_, _, _, _, _, _, _, _, _, _, _]) (by decide) (Nat.lt_of_lt_of_le (by decide : (9 : Nat) < 11) (Nat.le_refl _)) rfl ?_
  refine h_goto (t := 686) C dL_law_309 (by decide) ?_
  first
    | exact kk _ _ _ _ _ (by omega) hq9
    | exact kk _ _ _ _ _ (by omega) ⟨Or.inl (Int32.le_refl _), (G.k ht).mono (by omega), hs.mono (by omega)⟩
set_option maxHeartbeats 4000000 in
set_option maxRecDepth 100000 in
theorem lc_c4 (C : Lw x b0 L9 xs9) {r : Rw} {R ns nr ne tt kp Tm : Nat} {qs : Nat → Rw} (G : Gd r R ns nr ne tt) (hs : Gs Tm kp qs) (ht : tt ≤ Tm) (hT : Tm + 200 ≤ 1000000) {k t m w : Nat} {X : Int32} (hk : k + 10 ≤ 600000) {v9 v10 : Option Value} {Z : State → Prop} (kk : ∀ (w9 : Int32) (r9 : Rw) (kp9 : Nat) (qs9 : Nat → Rw) (k9 : Nat), k9 ≤ k + 3 → okS (Tm + 60) w9 r9 kp9 qs9 → Hs x b0 686 [none, some (.ref 0), some (.int 1), some (.int (nI t)), some (.int X), some (.int (nI R)), some (.int (nI ns)), some (.int (nI m)), some (.int (nI w)), some (.int w9), v10] [] r9 kp9 qs9 k9 Z) : Hs x b0 312 [none, some (.ref 0), some (.int 1), some (.int (nI t)), some (.int X), some (.int (nI R)), some (.int (nI ns)), some (.int (nI m)), some (.int (nI w)), v9, v10] [] r kp qs k Z := by
  have T := C.ct
  have C := T.1
  have hR := G.1.1.1.2
  refine h_aload_n C dL_law_312 rfl ?_
  refine h_iload C dL_law_313 rfl ?_
  refine h_bipush (v := 9) C dL_law_315 (by decide) ?_
  refine h_irem C dL_law_317 (by decide) ?_
  refine h_callXq T (xq_setTarget G hs ht hT _) dL_law_318 rfl gL_law_L_setTarget rfl qL_setTarget ⟨rfl, rfl⟩ ⟨Nat.le_of_ble_eq_true rfl, Nat.le_of_ble_eq_true rfl⟩ rfl (Nat.le_of_ble_eq_true rfl) (Nat.le_of_ble_eq_true rfl) (by show _ ≤ 644433; omega) (fun w9 r9 kp9 qs9 hq9 => ?_)
  refine h_istore C dL_law_321 (L' := [_, _, _, _, _, _, _, _, _, _, _]) (by decide) (Nat.lt_of_lt_of_le (by decide : (9 : Nat) < 11) (Nat.le_refl _)) rfl ?_
  refine h_goto (t := 686) C dL_law_323 (by decide) ?_
  first
    | exact kk _ _ _ _ _ (by omega) hq9
    | exact kk _ _ _ _ _ (by omega) ⟨Or.inl (Int32.le_refl _), (G.k ht).mono (by omega), hs.mono (by omega)⟩
set_option maxHeartbeats 4000000 in
set_option maxRecDepth 100000 in
theorem lc_c5 (C : Lw x b0 L9 xs9) {r : Rw} {R ns nr ne tt kp Tm : Nat} {qs : Nat → Rw} (G : Gd r R ns nr ne tt) (hs : Gs Tm kp qs) (ht : tt ≤ Tm) (hT : Tm + 200 ≤ 1000000) {k t m w : Nat} {X : Int32} (hk : k + 10 ≤ 600000) {v9 v10 : Option Value} {Z : State → Prop} (kk : ∀ (w9 : Int32) (r9 : Rw) (kp9 : Nat) (qs9 : Nat → Rw) (k9 : Nat), k9 ≤ k + 3 → okS (Tm + 60) w9 r9 kp9 qs9 → Hs x b0 686 [none, some (.ref 0), some (.int 1), some (.int (nI t)), some (.int X), some (.int (nI R)), some (.int (nI ns)), some (.int (nI m)), some (.int (nI w)), some (.int w9), v10] [] r9 kp9 qs9 k9 Z) : Hs x b0 326 [none, some (.ref 0), some (.int 1), some (.int (nI t)), some (.int X), some (.int (nI R)), some (.int (nI ns)), some (.int (nI m)), some (.int (nI w)), v9, v10] [] r kp qs k Z := by
  have T := C.ct
  have C := T.1
  have hR := G.1.1.1.2
  refine h_aload_n C dL_law_326 rfl ?_
  refine h_iload C dL_law_327 rfl ?_
  refine h_bipush (v := 6) C dL_law_329 (by decide) ?_
  refine h_irem C dL_law_331 (by decide) ?_
  refine h_iload C dL_law_332 rfl ?_
  refine h_bipush (v := 6) C dL_law_334 (by decide) ?_
  refine h_irem C dL_law_336 (by decide) ?_
  refine h_iconst (v := 1) C dL_law_337 (by decide) ?_
  refine h_icmp_ne (t := 350) C dL_law_338 (by decide) (fun kc338 => ?_) (fun kc338 => ?_)
  · -- t
    refine h_iload C dL_law_350 rfl ?_
    refine h_bipush (v := 6) C dL_law_352 (by decide) ?_
    refine h_irem C dL_law_354 (by decide) ?_
    refine h_iconst (v := 3) C dL_law_355 (by decide) ?_
    refine h_icmp_ne (t := 366) C dL_law_356 (by decide) (fun kc356 => ?_) (fun kc356 => ?_)
    · -- t
      refine h_iload C dL_law_366 rfl ?_
      refine h_bipush (v := 6) C dL_law_368 (by decide) ?_
      refine h_irem C dL_law_370 (by decide) ?_
      refine h_iconst (v := 4) C dL_law_371 (by decide) ?_
      refine h_icmp_ne (t := 383) C dL_law_372 (by decide) (fun kc372 => ?_) (fun kc372 => ?_)
      · -- t
        refine h_iload C dL_law_383 rfl ?_
        refine h_bipush (v := 31) C dL_law_385 (by decide) ?_
        refine h_irem C dL_law_387 (by decide) ?_
        refine h_callXq T (xq_set G hs ht hT _ _) dL_law_388 rfl gL_law_L_set rfl qL_set ⟨rfl, rfl⟩ ⟨Nat.le_of_ble_eq_true rfl, Nat.le_of_ble_eq_true rfl⟩ rfl (Nat.le_of_ble_eq_true rfl) (Nat.le_of_ble_eq_true rfl) (by show _ ≤ 644433; omega) (fun w9 r9 kp9 qs9 hq9 => ?_)
        refine h_istore C dL_law_391 (L' := [_, _, _, _, _, _, _, _, _, _, _]) (by decide) (Nat.lt_of_lt_of_le (by decide : (9 : Nat) < 11) (Nat.le_refl _)) rfl ?_
        refine h_goto (t := 686) C dL_law_393 (by decide) ?_
        first
          | exact kk _ _ _ _ _ (by omega) hq9
          | exact kk _ _ _ _ _ (by omega) ⟨Or.inl (Int32.le_refl _), (G.k ht).mono (by omega), hs.mono (by omega)⟩
      · -- f
        refine h_iload C dL_law_375 rfl ?_
        refine h_bipush (v := 9) C dL_law_377 (by decide) ?_
        refine h_irem C dL_law_379 (by decide) ?_
        refine h_goto (t := 388) C dL_law_380 (by decide) ?_
        refine h_callXq T (xq_set G hs ht hT _ _) dL_law_388 rfl gL_law_L_set rfl qL_set ⟨rfl, rfl⟩ ⟨Nat.le_of_ble_eq_true rfl, Nat.le_of_ble_eq_true rfl⟩ rfl (Nat.le_of_ble_eq_true rfl) (Nat.le_of_ble_eq_true rfl) (by show _ ≤ 644433; omega) (fun w9 r9 kp9 qs9 hq9 => ?_)
        refine h_istore C dL_law_391 (L' := [_, _, _, _, _, _, _, _, _, _, _]) (by decide) (Nat.lt_of_lt_of_le (by decide : (9 : Nat) < 11) (Nat.le_refl _)) rfl ?_
        refine h_goto (t := 686) C dL_law_393 (by decide) ?_
        first
          | exact kk _ _ _ _ _ (by omega) hq9
          | exact kk _ _ _ _ _ (by omega) ⟨Or.inl (Int32.le_refl _), (G.k ht).mono (by omega), hs.mono (by omega)⟩
    · -- f
      refine h_iload C dL_law_359 rfl ?_
      refine h_iconst (v := 2) C dL_law_361 (by decide) ?_
      refine h_irem C dL_law_362 (by decide) ?_
      refine h_goto (t := 388) C dL_law_363 (by decide) ?_
      refine h_callXq T (xq_set G hs ht hT _ _) dL_law_388 rfl gL_law_L_set rfl qL_set ⟨rfl, rfl⟩ ⟨Nat.le_of_ble_eq_true rfl, Nat.le_of_ble_eq_true rfl⟩ rfl (Nat.le_of_ble_eq_true rfl) (Nat.le_of_ble_eq_true rfl) (by show _ ≤ 644433; omega) (fun w9 r9 kp9 qs9 hq9 => ?_)
      refine h_istore C dL_law_391 (L' := [_, _, _, _, _, _, _, _, _, _, _]) (by decide) (Nat.lt_of_lt_of_le (by decide : (9 : Nat) < 11) (Nat.le_refl _)) rfl ?_
      refine h_goto (t := 686) C dL_law_393 (by decide) ?_
      first
        | exact kk _ _ _ _ _ (by omega) hq9
        | exact kk _ _ _ _ _ (by omega) ⟨Or.inl (Int32.le_refl _), (G.k ht).mono (by omega), hs.mono (by omega)⟩
  · -- f
    refine h_iconst (v := 2) C dL_law_341 (by decide) ?_
    refine h_iload C dL_law_342 rfl ?_
    refine h_iconst (v := 4) C dL_law_344 (by decide) ?_
    refine h_irem C dL_law_345 (by decide) ?_
    refine h_iadd C dL_law_346 ?_
    refine h_goto (t := 388) C dL_law_347 (by decide) ?_
    refine h_callXq T (xq_set G hs ht hT _ _) dL_law_388 rfl gL_law_L_set rfl qL_set ⟨rfl, rfl⟩ ⟨Nat.le_of_ble_eq_true rfl, Nat.le_of_ble_eq_true rfl⟩ rfl (Nat.le_of_ble_eq_true rfl) (Nat.le_of_ble_eq_true rfl) (by show _ ≤ 644433; omega) (fun w9 r9 kp9 qs9 hq9 => ?_)
    refine h_istore C dL_law_391 (L' := [_, _, _, _, _, _, _, _, _, _, _]) (by decide) (Nat.lt_of_lt_of_le (by decide : (9 : Nat) < 11) (Nat.le_refl _)) rfl ?_
    refine h_goto (t := 686) C dL_law_393 (by decide) ?_
    first
      | exact kk _ _ _ _ _ (by omega) hq9
      | exact kk _ _ _ _ _ (by omega) ⟨Or.inl (Int32.le_refl _), (G.k ht).mono (by omega), hs.mono (by omega)⟩
set_option maxHeartbeats 4000000 in
set_option maxRecDepth 100000 in
theorem lc_c6 (C : Lw x b0 L9 xs9) {r : Rw} {R ns nr ne tt kp Tm : Nat} {qs : Nat → Rw} (G : Gd r R ns nr ne tt) (hs : Gs Tm kp qs) (ht : tt ≤ Tm) (hT : Tm + 200 ≤ 1000000) {k t m w : Nat} {X : Int32} (hk : k + 10 ≤ 600000) {v9 v10 : Option Value} {Z : State → Prop} (kk : ∀ (w9 : Int32) (r9 : Rw) (kp9 : Nat) (qs9 : Nat → Rw) (k9 : Nat), k9 ≤ k + 3 → okS (Tm + 60) w9 r9 kp9 qs9 → Hs x b0 686 [none, some (.ref 0), some (.int 1), some (.int (nI t)), some (.int X), some (.int (nI R)), some (.int (nI ns)), some (.int (nI m)), some (.int (nI w)), some (.int w9), v10] [] r9 kp9 qs9 k9 Z) : Hs x b0 396 [none, some (.ref 0), some (.int 1), some (.int (nI t)), some (.int X), some (.int (nI R)), some (.int (nI ns)), some (.int (nI m)), some (.int (nI w)), v9, v10] [] r kp qs k Z := by
  have T := C.ct
  have C := T.1
  have hR := G.1.1.1.2
  refine h_aload_n C dL_law_396 rfl ?_
  refine h_iload C dL_law_397 rfl ?_
  refine h_iload C dL_law_399 rfl ?_
  refine h_irem C dL_law_401 (nz hR.1 (by omega)) ?_
  refine h_iload C dL_law_402 rfl ?_
  refine h_callXq T (xq_setSmoke G hs ht hT _ _) dL_law_404 rfl gL_law_L_setSmoke rfl qL_setSmoke ⟨rfl, rfl⟩ ⟨Nat.le_of_ble_eq_true rfl, Nat.le_of_ble_eq_true rfl⟩ rfl (Nat.le_of_ble_eq_true rfl) (Nat.le_of_ble_eq_true rfl) (by show _ ≤ 644433; omega) (fun w9 r9 kp9 qs9 hq9 => ?_)
  refine h_istore C dL_law_407 (L' := [_, _, _, _, _, _, _, _, _, _, _]) (by decide) (Nat.lt_of_lt_of_le (by decide : (9 : Nat) < 11) (Nat.le_refl _)) rfl ?_
  refine h_goto (t := 686) C dL_law_409 (by decide) ?_
  first
    | exact kk _ _ _ _ _ (by omega) hq9
    | exact kk _ _ _ _ _ (by omega) ⟨Or.inl (Int32.le_refl _), (G.k ht).mono (by omega), hs.mono (by omega)⟩
set_option maxHeartbeats 4000000 in
set_option maxRecDepth 100000 in
theorem lc_c7 (C : Lw x b0 L9 xs9) {r : Rw} {R ns nr ne tt kp Tm : Nat} {qs : Nat → Rw} (G : Gd r R ns nr ne tt) (hs : Gs Tm kp qs) (ht : tt ≤ Tm) (hT : Tm + 200 ≤ 1000000) {k t m w : Nat} {X : Int32} (hk : k + 10 ≤ 600000) {v9 v10 : Option Value} {Z : State → Prop} (kk : ∀ (w9 : Int32) (r9 : Rw) (kp9 : Nat) (qs9 : Nat → Rw) (k9 : Nat), k9 ≤ k + 3 → okS (Tm + 60) w9 r9 kp9 qs9 → Hs x b0 686 [none, some (.ref 0), some (.int 1), some (.int (nI t)), some (.int X), some (.int (nI R)), some (.int (nI ns)), some (.int (nI m)), some (.int (nI w)), some (.int w9), v10] [] r9 kp9 qs9 k9 Z) : Hs x b0 412 [none, some (.ref 0), some (.int 1), some (.int (nI t)), some (.int X), some (.int (nI R)), some (.int (nI ns)), some (.int (nI m)), some (.int (nI w)), v9, v10] [] r kp qs k Z := by
  have T := C.ct
  have C := T.1
  have hR := G.1.1.1.2
  refine h_aload_n C dL_law_412 rfl ?_
  refine h_iload C dL_law_413 rfl ?_
  refine h_iload C dL_law_415 rfl ?_
  refine h_irem C dL_law_417 (nz hR.1 (by omega)) ?_
  refine h_iload C dL_law_418 rfl ?_
  refine h_iconst (v := 3) C dL_law_420 (by decide) ?_
  refine h_irem C dL_law_421 (by decide) ?_
  refine h_iconst (v := 1) C dL_law_422 (by decide) ?_
  refine h_iload C dL_law_423 rfl ?_
  refine h_sipush (v := 300) C dL_law_425 (by decide) ?_
  refine h_irem C dL_law_428 (by decide) ?_
  refine h_iadd C dL_law_429 ?_
  refine h_iload C dL_law_430 rfl ?_
  refine h_bipush (v := 8) C dL_law_432 (by decide) ?_
  refine h_idiv C dL_law_434 (by decide) ?_
  refine h_iconst (v := 3) C dL_law_435 (by decide) ?_
  refine h_irem C dL_law_436 (by decide) ?_
  refine h_iconst (v := 1) C dL_law_437 (by decide) ?_
  refine h_iload C dL_law_438 rfl ?_
  refine h_bipush (v := 32) C dL_law_440 (by decide) ?_
  refine h_idiv C dL_law_442 (by decide) ?_
  refine h_iconst (v := 3) C dL_law_443 (by decide) ?_
  refine h_irem C dL_law_444 (by decide) ?_
  refine h_iadd C dL_law_445 ?_
  refine h_callXq T (xq_addSensor G hs ht hT _ _ _ _ _) dL_law_446 rfl gL_law_L_addSensor rfl qL_addSensor ⟨rfl, rfl⟩ ⟨Nat.le_of_ble_eq_true rfl, Nat.le_of_ble_eq_true rfl⟩ rfl (Nat.le_of_ble_eq_true rfl) (Nat.le_of_ble_eq_true rfl) (by show _ ≤ 644433; omega) (fun w9 r9 kp9 qs9 hq9 => ?_)
  refine h_istore C dL_law_449 (L' := [_, _, _, _, _, _, _, _, _, _, _]) (by decide) (Nat.lt_of_lt_of_le (by decide : (9 : Nat) < 11) (Nat.le_refl _)) rfl ?_
  refine h_goto (t := 686) C dL_law_451 (by decide) ?_
  first
    | exact kk _ _ _ _ _ (by omega) hq9
    | exact kk _ _ _ _ _ (by omega) ⟨Or.inl (Int32.le_refl _), (G.k ht).mono (by omega), hs.mono (by omega)⟩
set_option maxHeartbeats 4000000 in
set_option maxRecDepth 100000 in
theorem lc_c11 (C : Lw x b0 L9 xs9) {r : Rw} {R ns nr ne tt kp Tm : Nat} {qs : Nat → Rw} (G : Gd r R ns nr ne tt) (hs : Gs Tm kp qs) (ht : tt ≤ Tm) (hT : Tm + 200 ≤ 1000000) {k t m w : Nat} {X : Int32} (hk : k + 10 ≤ 600000) {v9 v10 : Option Value} {Z : State → Prop} (kk : ∀ (w9 : Int32) (r9 : Rw) (kp9 : Nat) (qs9 : Nat → Rw) (k9 : Nat), k9 ≤ k + 3 → okS (Tm + 60) w9 r9 kp9 qs9 → Hs x b0 686 [none, some (.ref 0), some (.int 1), some (.int (nI t)), some (.int X), some (.int (nI R)), some (.int (nI ns)), some (.int (nI m)), some (.int (nI w)), some (.int w9), v10] [] r9 kp9 qs9 k9 Z) : Hs x b0 454 [none, some (.ref 0), some (.int 1), some (.int (nI t)), some (.int X), some (.int (nI R)), some (.int (nI ns)), some (.int (nI m)), some (.int (nI w)), v9, v10] [] r kp qs k Z := by
  have T := C.ct
  have C := T.1
  have hR := G.1.1.1.2
  refine h_iload C dL_law_454 rfl ?_
  refine h_if_ne (t := 463) C dL_law_456 (by decide) (fun kc456 => ?_) (fun kc456 => ?_)
  · -- t
    refine h_aload_n C dL_law_463 rfl ?_
    refine h_iload C dL_law_464 rfl ?_
    refine h_iload C dL_law_466 rfl ?_
    refine h_irem C dL_law_468 kc456 ?_
    refine h_iload C dL_law_469 rfl ?_
    refine h_iconst (v := 3) C dL_law_471 (by decide) ?_
    refine h_irem C dL_law_472 (by decide) ?_
    refine h_callXq T (xq_setFault G hs ht hT _ _) dL_law_473 rfl gL_law_L_setFault rfl qL_setFault ⟨rfl, rfl⟩ ⟨Nat.le_of_ble_eq_true rfl, Nat.le_of_ble_eq_true rfl⟩ rfl (Nat.le_of_ble_eq_true rfl) (Nat.le_of_ble_eq_true rfl) (by show _ ≤ 644433; omega) (fun w9 r9 kp9 qs9 hq9 => ?_)
    refine h_istore C dL_law_476 (L' := [_, _, _, _, _, _, _, _, _, _, _]) (by decide) (Nat.lt_of_lt_of_le (by decide : (9 : Nat) < 11) (Nat.le_refl _)) rfl ?_
    refine h_goto (t := 686) C dL_law_478 (by decide) ?_
    first
      | exact kk _ _ _ _ _ (by omega) hq9
      | exact kk _ _ _ _ _ (by omega) ⟨Or.inl (Int32.le_refl _), (G.k ht).mono (by omega), hs.mono (by omega)⟩
  · -- f
    refine h_iconst (v := 0) C dL_law_459 (by decide) ?_
    refine h_goto (t := 476) C dL_law_460 (by decide) ?_
    refine h_istore C dL_law_476 (L' := [_, _, _, _, _, _, _, _, _, _, _]) (by decide) (Nat.lt_of_lt_of_le (by decide : (9 : Nat) < 11) (Nat.le_refl _)) rfl ?_
    refine h_goto (t := 686) C dL_law_478 (by decide) ?_
    first
      | exact kk _ _ _ _ _ (by omega) hq9
      | exact kk _ _ _ _ _ (by omega) ⟨Or.inl (Int32.le_refl _), (G.k ht).mono (by omega), hs.mono (by omega)⟩
set_option maxHeartbeats 4000000 in
set_option maxRecDepth 100000 in
theorem lc_c12 (C : Lw x b0 L9 xs9) {r : Rw} {R ns nr ne tt kp Tm : Nat} {qs : Nat → Rw} (G : Gd r R ns nr ne tt) (hs : Gs Tm kp qs) (ht : tt ≤ Tm) (hT : Tm + 200 ≤ 1000000) {k t m w : Nat} {X : Int32} (hk : k + 10 ≤ 600000) {v9 v10 : Option Value} {Z : State → Prop} (kk : ∀ (w9 : Int32) (r9 : Rw) (kp9 : Nat) (qs9 : Nat → Rw) (k9 : Nat), k9 ≤ k + 3 → okS (Tm + 60) w9 r9 kp9 qs9 → Hs x b0 686 [none, some (.ref 0), some (.int 1), some (.int (nI t)), some (.int X), some (.int (nI R)), some (.int (nI ns)), some (.int (nI m)), some (.int (nI w)), some (.int w9), v10] [] r9 kp9 qs9 k9 Z) : Hs x b0 481 [none, some (.ref 0), some (.int 1), some (.int (nI t)), some (.int X), some (.int (nI R)), some (.int (nI ns)), some (.int (nI m)), some (.int (nI w)), v9, v10] [] r kp qs k Z := by
  have T := C.ct
  have C := T.1
  have hR := G.1.1.1.2
  refine h_aload_n C dL_law_481 rfl ?_
  refine h_iload C dL_law_482 rfl ?_
  refine h_iconst (v := 4) C dL_law_484 (by decide) ?_
  refine h_irem C dL_law_485 (by decide) ?_
  refine h_iload C dL_law_486 rfl ?_
  refine h_iload C dL_law_488 rfl ?_
  refine h_irem C dL_law_490 (nz hR.1 (by omega)) ?_
  refine h_iload C dL_law_491 rfl ?_
  refine h_sipush (v := 400) C dL_law_493 (by decide) ?_
  refine h_irem C dL_law_496 (by decide) ?_
  refine h_iload C dL_law_497 rfl ?_
  refine h_bipush (v := 8) C dL_law_499 (by decide) ?_
  refine h_idiv C dL_law_501 (by decide) ?_
  refine h_bipush (v := 9) C dL_law_502 (by decide) ?_
  refine h_irem C dL_law_504 (by decide) ?_
  refine h_callXq T (xq_addRule G hs ht hT _ _ _ _) dL_law_505 rfl gL_law_L_addRule rfl qL_addRule ⟨rfl, rfl⟩ ⟨Nat.le_of_ble_eq_true rfl, Nat.le_of_ble_eq_true rfl⟩ rfl (Nat.le_of_ble_eq_true rfl) (Nat.le_of_ble_eq_true rfl) (by show _ ≤ 644433; omega) (fun w9 r9 kp9 qs9 hq9 => ?_)
  refine h_istore C dL_law_508 (L' := [_, _, _, _, _, _, _, _, _, _, _]) (by decide) (Nat.lt_of_lt_of_le (by decide : (9 : Nat) < 11) (Nat.le_refl _)) rfl ?_
  refine h_goto (t := 686) C dL_law_510 (by decide) ?_
  first
    | exact kk _ _ _ _ _ (by omega) hq9
    | exact kk _ _ _ _ _ (by omega) ⟨Or.inl (Int32.le_refl _), (G.k ht).mono (by omega), hs.mono (by omega)⟩
set_option maxHeartbeats 4000000 in
set_option maxRecDepth 100000 in
theorem lc_c14 (C : Lw x b0 L9 xs9) {r : Rw} {R ns nr ne tt kp Tm : Nat} {qs : Nat → Rw} (G : Gd r R ns nr ne tt) (hs : Gs Tm kp qs) (ht : tt ≤ Tm) (hT : Tm + 200 ≤ 1000000) {k t m w : Nat} {X : Int32} (hk : k + 10 ≤ 600000) {v9 v10 : Option Value} {Z : State → Prop} (kk : ∀ (w9 : Int32) (r9 : Rw) (kp9 : Nat) (qs9 : Nat → Rw) (k9 : Nat), k9 ≤ k + 3 → okS (Tm + 60) w9 r9 kp9 qs9 → Hs x b0 686 [none, some (.ref 0), some (.int 1), some (.int (nI t)), some (.int X), some (.int (nI R)), some (.int (nI ns)), some (.int (nI m)), some (.int (nI w)), some (.int w9), v10] [] r9 kp9 qs9 k9 Z) : Hs x b0 513 [none, some (.ref 0), some (.int 1), some (.int (nI t)), some (.int X), some (.int (nI R)), some (.int (nI ns)), some (.int (nI m)), some (.int (nI w)), v9, v10] [] r kp qs k Z := by
  have T := C.ct
  have C := T.1
  have hR := G.1.1.1.2
  refine h_aload_n C dL_law_513 rfl ?_
  refine h_iload C dL_law_514 rfl ?_
  refine h_iconst (v := 4) C dL_law_516 (by decide) ?_
  refine h_irem C dL_law_517 (by decide) ?_
  refine h_callXq T (xq_removeRule G hs ht hT _) dL_law_518 rfl gL_law_L_removeRule rfl qL_removeRule ⟨rfl, rfl⟩ ⟨Nat.le_of_ble_eq_true rfl, Nat.le_of_ble_eq_true rfl⟩ rfl (Nat.le_of_ble_eq_true rfl) (Nat.le_of_ble_eq_true rfl) (by show _ ≤ 644433; omega) (fun w9 r9 kp9 qs9 hq9 => ?_)
  refine h_istore C dL_law_521 (L' := [_, _, _, _, _, _, _, _, _, _, _]) (by decide) (Nat.lt_of_lt_of_le (by decide : (9 : Nat) < 11) (Nat.le_refl _)) rfl ?_
  refine h_goto (t := 686) C dL_law_523 (by decide) ?_
  first
    | exact kk _ _ _ _ _ (by omega) hq9
    | exact kk _ _ _ _ _ (by omega) ⟨Or.inl (Int32.le_refl _), (G.k ht).mono (by omega), hs.mono (by omega)⟩
set_option maxHeartbeats 4000000 in
set_option maxRecDepth 100000 in
theorem lc_c15 (C : Lw x b0 L9 xs9) {r : Rw} {R ns nr ne tt kp Tm : Nat} {qs : Nat → Rw} (G : Gd r R ns nr ne tt) (hs : Gs Tm kp qs) (ht : tt ≤ Tm) (hT : Tm + 200 ≤ 1000000) {k t m w : Nat} {X : Int32} (hk : k + 10 ≤ 600000) {v9 v10 : Option Value} {Z : State → Prop} (kk : ∀ (w9 : Int32) (r9 : Rw) (kp9 : Nat) (qs9 : Nat → Rw) (k9 : Nat), k9 ≤ k + 3 → okS (Tm + 60) w9 r9 kp9 qs9 → Hs x b0 686 [none, some (.ref 0), some (.int 1), some (.int (nI t)), some (.int X), some (.int (nI R)), some (.int (nI ns)), some (.int (nI m)), some (.int (nI w)), some (.int w9), v10] [] r9 kp9 qs9 k9 Z) : Hs x b0 526 [none, some (.ref 0), some (.int 1), some (.int (nI t)), some (.int X), some (.int (nI R)), some (.int (nI ns)), some (.int (nI m)), some (.int (nI w)), v9, v10] [] r kp qs k Z := by
  have T := C.ct
  have C := T.1
  have hR := G.1.1.1.2
  refine h_aload_n C dL_law_526 rfl ?_
  refine h_aload_n C dL_law_527 rfl ?_
  refine h_bipush (v := 7) C dL_law_528 (by decide) ?_
  refine h_callXs T (rd_info7 G hs.1) dL_law_530 rfl gL_law_L_info rfl qL_info ⟨rfl, rfl⟩ ⟨Nat.le_of_ble_eq_true rfl, Nat.le_of_ble_eq_true rfl⟩ rfl (Nat.le_of_ble_eq_true rfl) (Nat.le_of_ble_eq_true rfl) (by show _ ≤ 644433; omega) ?_
  refine h_iconst (v := 1) C dL_law_533 (by decide) ?_
  refine h_iadd C dL_law_534 ?_
  refine h_iload C dL_law_535 rfl ?_
  refine h_bipush (v := 12) C dL_law_537 (by decide) ?_
  refine h_irem C dL_law_539 (by decide) ?_
  refine h_iadd C dL_law_540 ?_
  refine h_iconst (v := 1) C dL_law_541 (by decide) ?_
  refine h_iload C dL_law_542 rfl ?_
  refine h_iconst (v := 2) C dL_law_544 (by decide) ?_
  refine h_irem C dL_law_545 (by decide) ?_
  refine h_iadd C dL_law_546 ?_
  refine h_iconst (v := 1) C dL_law_547 (by decide) ?_
  refine h_iload C dL_law_548 rfl ?_
  refine h_bipush (v := 50) C dL_law_550 (by decide) ?_
  refine h_irem C dL_law_552 (by decide) ?_
  refine h_iadd C dL_law_553 ?_
  refine h_iconst (v := 0) C dL_law_554 (by decide) ?_
  refine h_callXq T (xq_addEvent G hs ht hT _ _ _ _) dL_law_555 rfl gL_law_L_addEvent rfl qL_addEvent ⟨rfl, rfl⟩ ⟨Nat.le_of_ble_eq_true rfl, Nat.le_of_ble_eq_true rfl⟩ rfl (Nat.le_of_ble_eq_true rfl) (Nat.le_of_ble_eq_true rfl) (by show _ ≤ 644433; omega) (fun w9 r9 kp9 qs9 hq9 => ?_)
  refine h_istore C dL_law_558 (L' := [_, _, _, _, _, _, _, _, _, _, _]) (by decide) (Nat.lt_of_lt_of_le (by decide : (9 : Nat) < 11) (Nat.le_refl _)) rfl ?_
  refine h_goto (t := 686) C dL_law_560 (by decide) ?_
  first
    | exact kk _ _ _ _ _ (by omega) hq9
    | exact kk _ _ _ _ _ (by omega) ⟨Or.inl (Int32.le_refl _), (G.k ht).mono (by omega), hs.mono (by omega)⟩
set_option maxHeartbeats 4000000 in
set_option maxRecDepth 100000 in
theorem lc_c16 (C : Lw x b0 L9 xs9) {r : Rw} {R ns nr ne tt kp Tm : Nat} {qs : Nat → Rw} (G : Gd r R ns nr ne tt) (hs : Gs Tm kp qs) (ht : tt ≤ Tm) (hT : Tm + 200 ≤ 1000000) {k t m w : Nat} {X : Int32} (hk : k + 10 ≤ 600000) {v9 v10 : Option Value} {Z : State → Prop} (kk : ∀ (w9 : Int32) (r9 : Rw) (kp9 : Nat) (qs9 : Nat → Rw) (k9 : Nat), k9 ≤ k + 3 → okS (Tm + 60) w9 r9 kp9 qs9 → Hs x b0 686 [none, some (.ref 0), some (.int 1), some (.int (nI t)), some (.int X), some (.int (nI R)), some (.int (nI ns)), some (.int (nI m)), some (.int (nI w)), some (.int w9), v10] [] r9 kp9 qs9 k9 Z) : Hs x b0 563 [none, some (.ref 0), some (.int 1), some (.int (nI t)), some (.int X), some (.int (nI R)), some (.int (nI ns)), some (.int (nI m)), some (.int (nI w)), v9, v10] [] r kp qs k Z := by
  have T := C.ct
  have C := T.1
  have hR := G.1.1.1.2
  refine h_aload_n C dL_law_563 rfl ?_
  refine h_aload_n C dL_law_564 rfl ?_
  refine h_bipush (v := 7) C dL_law_565 (by decide) ?_
  refine h_callXs T (rd_info7 G hs.1) dL_law_567 rfl gL_law_L_info rfl qL_info ⟨rfl, rfl⟩ ⟨Nat.le_of_ble_eq_true rfl, Nat.le_of_ble_eq_true rfl⟩ rfl (Nat.le_of_ble_eq_true rfl) (Nat.le_of_ble_eq_true rfl) (by show _ ≤ 644433; omega) ?_
  refine h_iconst (v := 1) C dL_law_570 (by decide) ?_
  refine h_iadd C dL_law_571 ?_
  refine h_iload C dL_law_572 rfl ?_
  refine h_bipush (v := 12) C dL_law_574 (by decide) ?_
  refine h_irem C dL_law_576 (by decide) ?_
  refine h_iadd C dL_law_577 ?_
  refine h_iload C dL_law_578 rfl ?_
  refine h_iconst (v := 2) C dL_law_580 (by decide) ?_
  refine h_irem C dL_law_581 (by decide) ?_
  refine h_if_ne (t := 589) C dL_law_582 (by decide) (fun kc582 => ?_) (fun kc582 => ?_)
  · -- t
    refine h_iconst (v := 3) C dL_law_589 (by decide) ?_
    refine h_iload C dL_law_590 rfl ?_
    refine h_iconst (v := 2) C dL_law_592 (by decide) ?_
    refine h_irem C dL_law_593 (by decide) ?_
    refine h_if_ne (t := 605) C dL_law_594 (by decide) (fun kc594 => ?_) (fun kc594 => ?_)
    · -- t
      refine h_iload C dL_law_605 rfl ?_
      refine h_if_ne (t := 614) C dL_law_607 (by decide) (fun kc607 => ?_) (fun kc607 => ?_)
      · -- t
        refine h_iload C dL_law_614 rfl ?_
        refine h_iload C dL_law_616 rfl ?_
        refine h_irem C dL_law_618 kc607 ?_
        refine h_iload C dL_law_619 rfl ?_
        refine h_iconst (v := 2) C dL_law_621 (by decide) ?_
        refine h_irem C dL_law_622 (by decide) ?_
        refine h_if_ne (t := 631) C dL_law_623 (by decide) (fun kc623 => ?_) (fun kc623 => ?_)
        · -- t
          refine h_iload C dL_law_631 rfl ?_
          refine h_iconst (v := 2) C dL_law_633 (by decide) ?_
          refine h_idiv C dL_law_634 (by decide) ?_
          refine h_iconst (v := 3) C dL_law_635 (by decide) ?_
          refine h_irem C dL_law_636 (by decide) ?_
          refine h_callXq T (xq_addEvent G hs ht hT _ _ _ _) dL_law_637 rfl gL_law_L_addEvent rfl qL_addEvent ⟨rfl, rfl⟩ ⟨Nat.le_of_ble_eq_true rfl, Nat.le_of_ble_eq_true rfl⟩ rfl (Nat.le_of_ble_eq_true rfl) (Nat.le_of_ble_eq_true rfl) (by show _ ≤ 644433; omega) (fun w9 r9 kp9 qs9 hq9 => ?_)
          refine h_istore C dL_law_640 (L' := [_, _, _, _, _, _, _, _, _, _, _]) (by decide) (Nat.lt_of_lt_of_le (by decide : (9 : Nat) < 11) (Nat.le_refl _)) rfl ?_
          refine h_goto (t := 686) C dL_law_642 (by decide) ?_
          first
            | exact kk _ _ _ _ _ (by omega) hq9
            | exact kk _ _ _ _ _ (by omega) ⟨Or.inl (Int32.le_refl _), (G.k ht).mono (by omega), hs.mono (by omega)⟩
        · -- f
          refine h_iload C dL_law_626 rfl ?_
          refine h_goto (t := 637) C dL_law_628 (by decide) ?_
          refine h_callXq T (xq_addEvent G hs ht hT _ _ _ _) dL_law_637 rfl gL_law_L_addEvent rfl qL_addEvent ⟨rfl, rfl⟩ ⟨Nat.le_of_ble_eq_true rfl, Nat.le_of_ble_eq_true rfl⟩ rfl (Nat.le_of_ble_eq_true rfl) (Nat.le_of_ble_eq_true rfl) (by show _ ≤ 644433; omega) (fun w9 r9 kp9 qs9 hq9 => ?_)
          refine h_istore C dL_law_640 (L' := [_, _, _, _, _, _, _, _, _, _, _]) (by decide) (Nat.lt_of_lt_of_le (by decide : (9 : Nat) < 11) (Nat.le_refl _)) rfl ?_
          refine h_goto (t := 686) C dL_law_642 (by decide) ?_
          first
            | exact kk _ _ _ _ _ (by omega) hq9
            | exact kk _ _ _ _ _ (by omega) ⟨Or.inl (Int32.le_refl _), (G.k ht).mono (by omega), hs.mono (by omega)⟩
      · -- f
        refine h_iconst (v := 0) C dL_law_610 (by decide) ?_
        refine h_goto (t := 619) C dL_law_611 (by decide) ?_
        refine h_iload C dL_law_619 rfl ?_
        refine h_iconst (v := 2) C dL_law_621 (by decide) ?_
        refine h_irem C dL_law_622 (by decide) ?_
        refine h_if_ne (t := 631) C dL_law_623 (by decide) (fun kc623 => ?_) (fun kc623 => ?_)
        · -- t
          refine h_iload C dL_law_631 rfl ?_
          refine h_iconst (v := 2) C dL_law_633 (by decide) ?_
          refine h_idiv C dL_law_634 (by decide) ?_
          refine h_iconst (v := 3) C dL_law_635 (by decide) ?_
          refine h_irem C dL_law_636 (by decide) ?_
          refine h_callXq T (xq_addEvent G hs ht hT _ _ _ _) dL_law_637 rfl gL_law_L_addEvent rfl qL_addEvent ⟨rfl, rfl⟩ ⟨Nat.le_of_ble_eq_true rfl, Nat.le_of_ble_eq_true rfl⟩ rfl (Nat.le_of_ble_eq_true rfl) (Nat.le_of_ble_eq_true rfl) (by show _ ≤ 644433; omega) (fun w9 r9 kp9 qs9 hq9 => ?_)
          refine h_istore C dL_law_640 (L' := [_, _, _, _, _, _, _, _, _, _, _]) (by decide) (Nat.lt_of_lt_of_le (by decide : (9 : Nat) < 11) (Nat.le_refl _)) rfl ?_
          refine h_goto (t := 686) C dL_law_642 (by decide) ?_
          first
            | exact kk _ _ _ _ _ (by omega) hq9
            | exact kk _ _ _ _ _ (by omega) ⟨Or.inl (Int32.le_refl _), (G.k ht).mono (by omega), hs.mono (by omega)⟩
        · -- f
          refine h_iload C dL_law_626 rfl ?_
          refine h_goto (t := 637) C dL_law_628 (by decide) ?_
          refine h_callXq T (xq_addEvent G hs ht hT _ _ _ _) dL_law_637 rfl gL_law_L_addEvent rfl qL_addEvent ⟨rfl, rfl⟩ ⟨Nat.le_of_ble_eq_true rfl, Nat.le_of_ble_eq_true rfl⟩ rfl (Nat.le_of_ble_eq_true rfl) (Nat.le_of_ble_eq_true rfl) (by show _ ≤ 644433; omega) (fun w9 r9 kp9 qs9 hq9 => ?_)
          refine h_istore C dL_law_640 (L' := [_, _, _, _, _, _, _, _, _, _, _]) (by decide) (Nat.lt_of_lt_of_le (by decide : (9 : Nat) < 11) (Nat.le_refl _)) rfl ?_
          refine h_goto (t := 686) C dL_law_642 (by decide) ?_
          first
            | exact kk _ _ _ _ _ (by omega) hq9
            | exact kk _ _ _ _ _ (by omega) ⟨Or.inl (Int32.le_refl _), (G.k ht).mono (by omega), hs.mono (by omega)⟩
    · -- f
      refine h_iload C dL_law_597 rfl ?_
      refine h_iload C dL_law_599 rfl ?_
      refine h_irem C dL_law_601 (nz hR.1 (by omega)) ?_
      refine h_goto (t := 619) C dL_law_602 (by decide) ?_
      refine h_iload C dL_law_619 rfl ?_
      refine h_iconst (v := 2) C dL_law_621 (by decide) ?_
      refine h_irem C dL_law_622 (by decide) ?_
      refine h_if_ne (t := 631) C dL_law_623 (by decide) (fun kc623 => ?_) (fun kc623 => ?_)
      · -- t
        refine h_iload C dL_law_631 rfl ?_
        refine h_iconst (v := 2) C dL_law_633 (by decide) ?_
        refine h_idiv C dL_law_634 (by decide) ?_
        refine h_iconst (v := 3) C dL_law_635 (by decide) ?_
        refine h_irem C dL_law_636 (by decide) ?_
        refine h_callXq T (xq_addEvent G hs ht hT _ _ _ _) dL_law_637 rfl gL_law_L_addEvent rfl qL_addEvent ⟨rfl, rfl⟩ ⟨Nat.le_of_ble_eq_true rfl, Nat.le_of_ble_eq_true rfl⟩ rfl (Nat.le_of_ble_eq_true rfl) (Nat.le_of_ble_eq_true rfl) (by show _ ≤ 644433; omega) (fun w9 r9 kp9 qs9 hq9 => ?_)
        refine h_istore C dL_law_640 (L' := [_, _, _, _, _, _, _, _, _, _, _]) (by decide) (Nat.lt_of_lt_of_le (by decide : (9 : Nat) < 11) (Nat.le_refl _)) rfl ?_
        refine h_goto (t := 686) C dL_law_642 (by decide) ?_
        first
          | exact kk _ _ _ _ _ (by omega) hq9
          | exact kk _ _ _ _ _ (by omega) ⟨Or.inl (Int32.le_refl _), (G.k ht).mono (by omega), hs.mono (by omega)⟩
      · -- f
        refine h_iload C dL_law_626 rfl ?_
        refine h_goto (t := 637) C dL_law_628 (by decide) ?_
        refine h_callXq T (xq_addEvent G hs ht hT _ _ _ _) dL_law_637 rfl gL_law_L_addEvent rfl qL_addEvent ⟨rfl, rfl⟩ ⟨Nat.le_of_ble_eq_true rfl, Nat.le_of_ble_eq_true rfl⟩ rfl (Nat.le_of_ble_eq_true rfl) (Nat.le_of_ble_eq_true rfl) (by show _ ≤ 644433; omega) (fun w9 r9 kp9 qs9 hq9 => ?_)
        refine h_istore C dL_law_640 (L' := [_, _, _, _, _, _, _, _, _, _, _]) (by decide) (Nat.lt_of_lt_of_le (by decide : (9 : Nat) < 11) (Nat.le_refl _)) rfl ?_
        refine h_goto (t := 686) C dL_law_642 (by decide) ?_
        first
          | exact kk _ _ _ _ _ (by omega) hq9
          | exact kk _ _ _ _ _ (by omega) ⟨Or.inl (Int32.le_refl _), (G.k ht).mono (by omega), hs.mono (by omega)⟩
  · -- f
    refine h_iconst (v := 0) C dL_law_585 (by decide) ?_
    refine h_goto (t := 590) C dL_law_586 (by decide) ?_
    refine h_iload C dL_law_590 rfl ?_
    refine h_iconst (v := 2) C dL_law_592 (by decide) ?_
    refine h_irem C dL_law_593 (by decide) ?_
    refine h_if_ne (t := 605) C dL_law_594 (by decide) (fun kc594 => ?_) (fun kc594 => ?_)
    · -- t
      refine h_iload C dL_law_605 rfl ?_
      refine h_if_ne (t := 614) C dL_law_607 (by decide) (fun kc607 => ?_) (fun kc607 => ?_)
      · -- t
        refine h_iload C dL_law_614 rfl ?_
        refine h_iload C dL_law_616 rfl ?_
        refine h_irem C dL_law_618 kc607 ?_
        refine h_iload C dL_law_619 rfl ?_
        refine h_iconst (v := 2) C dL_law_621 (by decide) ?_
        refine h_irem C dL_law_622 (by decide) ?_
        refine h_if_ne (t := 631) C dL_law_623 (by decide) (fun kc623 => ?_) (fun kc623 => ?_)
        · -- t
          refine h_iload C dL_law_631 rfl ?_
          refine h_iconst (v := 2) C dL_law_633 (by decide) ?_
          refine h_idiv C dL_law_634 (by decide) ?_
          refine h_iconst (v := 3) C dL_law_635 (by decide) ?_
          refine h_irem C dL_law_636 (by decide) ?_
          refine h_callXq T (xq_addEvent G hs ht hT _ _ _ _) dL_law_637 rfl gL_law_L_addEvent rfl qL_addEvent ⟨rfl, rfl⟩ ⟨Nat.le_of_ble_eq_true rfl, Nat.le_of_ble_eq_true rfl⟩ rfl (Nat.le_of_ble_eq_true rfl) (Nat.le_of_ble_eq_true rfl) (by show _ ≤ 644433; omega) (fun w9 r9 kp9 qs9 hq9 => ?_)
          refine h_istore C dL_law_640 (L' := [_, _, _, _, _, _, _, _, _, _, _]) (by decide) (Nat.lt_of_lt_of_le (by decide : (9 : Nat) < 11) (Nat.le_refl _)) rfl ?_
          refine h_goto (t := 686) C dL_law_642 (by decide) ?_
          first
            | exact kk _ _ _ _ _ (by omega) hq9
            | exact kk _ _ _ _ _ (by omega) ⟨Or.inl (Int32.le_refl _), (G.k ht).mono (by omega), hs.mono (by omega)⟩
        · -- f
          refine h_iload C dL_law_626 rfl ?_
          refine h_goto (t := 637) C dL_law_628 (by decide) ?_
          refine h_callXq T (xq_addEvent G hs ht hT _ _ _ _) dL_law_637 rfl gL_law_L_addEvent rfl qL_addEvent ⟨rfl, rfl⟩ ⟨Nat.le_of_ble_eq_true rfl, Nat.le_of_ble_eq_true rfl⟩ rfl (Nat.le_of_ble_eq_true rfl) (Nat.le_of_ble_eq_true rfl) (by show _ ≤ 644433; omega) (fun w9 r9 kp9 qs9 hq9 => ?_)
          refine h_istore C dL_law_640 (L' := [_, _, _, _, _, _, _, _, _, _, _]) (by decide) (Nat.lt_of_lt_of_le (by decide : (9 : Nat) < 11) (Nat.le_refl _)) rfl ?_
          refine h_goto (t := 686) C dL_law_642 (by decide) ?_
          first
            | exact kk _ _ _ _ _ (by omega) hq9
            | exact kk _ _ _ _ _ (by omega) ⟨Or.inl (Int32.le_refl _), (G.k ht).mono (by omega), hs.mono (by omega)⟩
      · -- f
        refine h_iconst (v := 0) C dL_law_610 (by decide) ?_
        refine h_goto (t := 619) C dL_law_611 (by decide) ?_
        refine h_iload C dL_law_619 rfl ?_
        refine h_iconst (v := 2) C dL_law_621 (by decide) ?_
        refine h_irem C dL_law_622 (by decide) ?_
        refine h_if_ne (t := 631) C dL_law_623 (by decide) (fun kc623 => ?_) (fun kc623 => ?_)
        · -- t
          refine h_iload C dL_law_631 rfl ?_
          refine h_iconst (v := 2) C dL_law_633 (by decide) ?_
          refine h_idiv C dL_law_634 (by decide) ?_
          refine h_iconst (v := 3) C dL_law_635 (by decide) ?_
          refine h_irem C dL_law_636 (by decide) ?_
          refine h_callXq T (xq_addEvent G hs ht hT _ _ _ _) dL_law_637 rfl gL_law_L_addEvent rfl qL_addEvent ⟨rfl, rfl⟩ ⟨Nat.le_of_ble_eq_true rfl, Nat.le_of_ble_eq_true rfl⟩ rfl (Nat.le_of_ble_eq_true rfl) (Nat.le_of_ble_eq_true rfl) (by show _ ≤ 644433; omega) (fun w9 r9 kp9 qs9 hq9 => ?_)
          refine h_istore C dL_law_640 (L' := [_, _, _, _, _, _, _, _, _, _, _]) (by decide) (Nat.lt_of_lt_of_le (by decide : (9 : Nat) < 11) (Nat.le_refl _)) rfl ?_
          refine h_goto (t := 686) C dL_law_642 (by decide) ?_
          first
            | exact kk _ _ _ _ _ (by omega) hq9
            | exact kk _ _ _ _ _ (by omega) ⟨Or.inl (Int32.le_refl _), (G.k ht).mono (by omega), hs.mono (by omega)⟩
        · -- f
          refine h_iload C dL_law_626 rfl ?_
          refine h_goto (t := 637) C dL_law_628 (by decide) ?_
          refine h_callXq T (xq_addEvent G hs ht hT _ _ _ _) dL_law_637 rfl gL_law_L_addEvent rfl qL_addEvent ⟨rfl, rfl⟩ ⟨Nat.le_of_ble_eq_true rfl, Nat.le_of_ble_eq_true rfl⟩ rfl (Nat.le_of_ble_eq_true rfl) (Nat.le_of_ble_eq_true rfl) (by show _ ≤ 644433; omega) (fun w9 r9 kp9 qs9 hq9 => ?_)
          refine h_istore C dL_law_640 (L' := [_, _, _, _, _, _, _, _, _, _, _]) (by decide) (Nat.lt_of_lt_of_le (by decide : (9 : Nat) < 11) (Nat.le_refl _)) rfl ?_
          refine h_goto (t := 686) C dL_law_642 (by decide) ?_
          first
            | exact kk _ _ _ _ _ (by omega) hq9
            | exact kk _ _ _ _ _ (by omega) ⟨Or.inl (Int32.le_refl _), (G.k ht).mono (by omega), hs.mono (by omega)⟩
    · -- f
      refine h_iload C dL_law_597 rfl ?_
      refine h_iload C dL_law_599 rfl ?_
      refine h_irem C dL_law_601 (nz hR.1 (by omega)) ?_
      refine h_goto (t := 619) C dL_law_602 (by decide) ?_
      refine h_iload C dL_law_619 rfl ?_
      refine h_iconst (v := 2) C dL_law_621 (by decide) ?_
      refine h_irem C dL_law_622 (by decide) ?_
      refine h_if_ne (t := 631) C dL_law_623 (by decide) (fun kc623 => ?_) (fun kc623 => ?_)
      · -- t
        refine h_iload C dL_law_631 rfl ?_
        refine h_iconst (v := 2) C dL_law_633 (by decide) ?_
        refine h_idiv C dL_law_634 (by decide) ?_
        refine h_iconst (v := 3) C dL_law_635 (by decide) ?_
        refine h_irem C dL_law_636 (by decide) ?_
        refine h_callXq T (xq_addEvent G hs ht hT _ _ _ _) dL_law_637 rfl gL_law_L_addEvent rfl qL_addEvent ⟨rfl, rfl⟩ ⟨Nat.le_of_ble_eq_true rfl, Nat.le_of_ble_eq_true rfl⟩ rfl (Nat.le_of_ble_eq_true rfl) (Nat.le_of_ble_eq_true rfl) (by show _ ≤ 644433; omega) (fun w9 r9 kp9 qs9 hq9 => ?_)
        refine h_istore C dL_law_640 (L' := [_, _, _, _, _, _, _, _, _, _, _]) (by decide) (Nat.lt_of_lt_of_le (by decide : (9 : Nat) < 11) (Nat.le_refl _)) rfl ?_
        refine h_goto (t := 686) C dL_law_642 (by decide) ?_
        first
          | exact kk _ _ _ _ _ (by omega) hq9
          | exact kk _ _ _ _ _ (by omega) ⟨Or.inl (Int32.le_refl _), (G.k ht).mono (by omega), hs.mono (by omega)⟩
      · -- f
        refine h_iload C dL_law_626 rfl ?_
        refine h_goto (t := 637) C dL_law_628 (by decide) ?_
        refine h_callXq T (xq_addEvent G hs ht hT _ _ _ _) dL_law_637 rfl gL_law_L_addEvent rfl qL_addEvent ⟨rfl, rfl⟩ ⟨Nat.le_of_ble_eq_true rfl, Nat.le_of_ble_eq_true rfl⟩ rfl (Nat.le_of_ble_eq_true rfl) (Nat.le_of_ble_eq_true rfl) (by show _ ≤ 644433; omega) (fun w9 r9 kp9 qs9 hq9 => ?_)
        refine h_istore C dL_law_640 (L' := [_, _, _, _, _, _, _, _, _, _, _]) (by decide) (Nat.lt_of_lt_of_le (by decide : (9 : Nat) < 11) (Nat.le_refl _)) rfl ?_
        refine h_goto (t := 686) C dL_law_642 (by decide) ?_
        first
          | exact kk _ _ _ _ _ (by omega) hq9
          | exact kk _ _ _ _ _ (by omega) ⟨Or.inl (Int32.le_refl _), (G.k ht).mono (by omega), hs.mono (by omega)⟩
set_option maxHeartbeats 4000000 in
set_option maxRecDepth 100000 in
theorem lc_c17 (C : Lw x b0 L9 xs9) {r : Rw} {R ns nr ne tt kp Tm : Nat} {qs : Nat → Rw} (G : Gd r R ns nr ne tt) (hs : Gs Tm kp qs) (ht : tt ≤ Tm) (hT : Tm + 200 ≤ 1000000) {k t m w : Nat} {X : Int32} (hk : k + 10 ≤ 600000) {v9 v10 : Option Value} {Z : State → Prop} (kk : ∀ (w9 : Int32) (r9 : Rw) (kp9 : Nat) (qs9 : Nat → Rw) (k9 : Nat), k9 ≤ k + 3 → okS (Tm + 60) w9 r9 kp9 qs9 → Hs x b0 686 [none, some (.ref 0), some (.int 1), some (.int (nI t)), some (.int X), some (.int (nI R)), some (.int (nI ns)), some (.int (nI m)), some (.int (nI w)), some (.int w9), v10] [] r9 kp9 qs9 k9 Z) : Hs x b0 645 [none, some (.ref 0), some (.int 1), some (.int (nI t)), some (.int X), some (.int (nI R)), some (.int (nI ns)), some (.int (nI m)), some (.int (nI w)), v9, v10] [] r kp qs k Z := by
  have T := C.ct
  have C := T.1
  have hR := G.1.1.1.2
  refine h_aload_n C dL_law_645 rfl ?_
  refine h_iload C dL_law_646 rfl ?_
  refine h_iload C dL_law_648 rfl ?_
  refine h_irem C dL_law_650 (nz hR.1 (by omega)) ?_
  refine h_iload C dL_law_651 rfl ?_
  refine h_bipush (v := 20) C dL_law_653 (by decide) ?_
  refine h_irem C dL_law_655 (by decide) ?_
  refine h_callXq T (xq_mute G hs ht hT _ _) dL_law_656 rfl gL_law_L_mute rfl qL_mute ⟨rfl, rfl⟩ ⟨Nat.le_of_ble_eq_true rfl, Nat.le_of_ble_eq_true rfl⟩ rfl (Nat.le_of_ble_eq_true rfl) (Nat.le_of_ble_eq_true rfl) (by show _ ≤ 644433; omega) (fun w9 r9 kp9 qs9 hq9 => ?_)
  refine h_istore C dL_law_659 (L' := [_, _, _, _, _, _, _, _, _, _, _]) (by decide) (Nat.lt_of_lt_of_le (by decide : (9 : Nat) < 11) (Nat.le_refl _)) rfl ?_
  refine h_goto (t := 686) C dL_law_661 (by decide) ?_
  first
    | exact kk _ _ _ _ _ (by omega) hq9
    | exact kk _ _ _ _ _ (by omega) ⟨Or.inl (Int32.le_refl _), (G.k ht).mono (by omega), hs.mono (by omega)⟩
set_option maxHeartbeats 4000000 in
set_option maxRecDepth 100000 in
theorem lc_c18 (C : Lw x b0 L9 xs9) {r : Rw} {R ns nr ne tt kp Tm : Nat} {qs : Nat → Rw} (G : Gd r R ns nr ne tt) (hs : Gs Tm kp qs) (ht : tt ≤ Tm) (hT : Tm + 200 ≤ 1000000) {k t m w : Nat} {X : Int32} (hk : k + 10 ≤ 600000) {v9 v10 : Option Value} {Z : State → Prop} (kk : ∀ (w9 : Int32) (r9 : Rw) (kp9 : Nat) (qs9 : Nat → Rw) (k9 : Nat), k9 ≤ k + 3 → okS (Tm + 60) w9 r9 kp9 qs9 → Hs x b0 686 [none, some (.ref 0), some (.int 1), some (.int (nI t)), some (.int X), some (.int (nI R)), some (.int (nI ns)), some (.int (nI m)), some (.int (nI w)), some (.int w9), v10] [] r9 kp9 qs9 k9 Z) : Hs x b0 664 [none, some (.ref 0), some (.int 1), some (.int (nI t)), some (.int X), some (.int (nI R)), some (.int (nI ns)), some (.int (nI m)), some (.int (nI w)), v9, v10] [] r kp qs k Z := by
  have T := C.ct
  have C := T.1
  have hR := G.1.1.1.2
  refine h_aload_n C dL_law_664 rfl ?_
  refine h_iconst (v := 1) C dL_law_665 (by decide) ?_
  refine h_iload C dL_law_666 rfl ?_
  refine h_bipush (v := 20) C dL_law_668 (by decide) ?_
  refine h_irem C dL_law_670 (by decide) ?_
  refine h_iadd C dL_law_671 ?_
  refine h_callXq T (xq_pass G hs ht hT _) dL_law_672 rfl gL_law_L_pass rfl qL_pass ⟨rfl, rfl⟩ ⟨Nat.le_of_ble_eq_true rfl, Nat.le_of_ble_eq_true rfl⟩ rfl (Nat.le_of_ble_eq_true rfl) (Nat.le_of_ble_eq_true rfl) (by show _ ≤ 644433; omega) (fun w9 r9 kp9 qs9 hq9 => ?_)
  refine h_istore C dL_law_675 (L' := [_, _, _, _, _, _, _, _, _, _, _]) (by decide) (Nat.lt_of_lt_of_le (by decide : (9 : Nat) < 11) (Nat.le_refl _)) rfl ?_
  refine h_goto (t := 686) C dL_law_677 (by decide) ?_
  first
    | exact kk _ _ _ _ _ (by omega) hq9
    | exact kk _ _ _ _ _ (by omega) ⟨Or.inl (Int32.le_refl _), (G.k ht).mono (by omega), hs.mono (by omega)⟩
set_option maxHeartbeats 4000000 in
set_option maxRecDepth 100000 in
theorem lc_c19 (C : Lw x b0 L9 xs9) {r : Rw} {R ns nr ne tt kp Tm : Nat} {qs : Nat → Rw} (G : Gd r R ns nr ne tt) (hs : Gs Tm kp qs) (ht : tt ≤ Tm) (hT : Tm + 200 ≤ 1000000) {k t m w : Nat} {X : Int32} (hk : k + 10 ≤ 600000) {v9 v10 : Option Value} {Z : State → Prop} (kk : ∀ (w9 : Int32) (r9 : Rw) (kp9 : Nat) (qs9 : Nat → Rw) (k9 : Nat), k9 ≤ k + 3 → okS (Tm + 60) w9 r9 kp9 qs9 → Hs x b0 686 [none, some (.ref 0), some (.int 1), some (.int (nI t)), some (.int X), some (.int (nI R)), some (.int (nI ns)), some (.int (nI m)), some (.int (nI w)), some (.int w9), v10] [] r9 kp9 qs9 k9 Z) : Hs x b0 680 [none, some (.ref 0), some (.int 1), some (.int (nI t)), some (.int X), some (.int (nI R)), some (.int (nI ns)), some (.int (nI m)), some (.int (nI w)), v9, v10] [] r kp qs k Z := by
  have T := C.ct
  have C := T.1
  have hR := G.1.1.1.2
  refine h_aload_n C dL_law_680 rfl ?_
  refine h_callXq T (xq_undo G hs ht) dL_law_681 rfl gL_law_L_undo rfl qL_undo ⟨rfl, rfl⟩ ⟨Nat.le_of_ble_eq_true rfl, Nat.le_of_ble_eq_true rfl⟩ rfl (Nat.le_of_ble_eq_true rfl) (Nat.le_of_ble_eq_true rfl) (by show _ ≤ 644433; omega) (fun w9 r9 kp9 qs9 hq9 => ?_)
  refine h_istore C dL_law_684 (L' := [_, _, _, _, _, _, _, _, _, _, _]) (by decide) (Nat.lt_of_lt_of_le (by decide : (9 : Nat) < 11) (Nat.le_refl _)) rfl ?_
  first
    | exact kk _ _ _ _ _ (by omega) hq9
    | exact kk _ _ _ _ _ (by omega) ⟨Or.inl (Int32.le_refl _), (G.k ht).mono (by omega), hs.mono (by omega)⟩
set_option maxHeartbeats 4000000 in
set_option maxRecDepth 100000 in
theorem lw_switch (C : Lw x b0 L9 xs9) {r : Rw} {R ns nr ne tt kp Tm : Nat} {qs : Nat → Rw} (G : Gd r R ns nr ne tt) (hs : Gs Tm kp qs) (ht : tt ≤ Tm) (hT : Tm + 200 ≤ 1000000) {k t m w : Nat} {X : Int32} (hk : k + 10 ≤ 600000) {v9 v10 : Option Value} {Z : State → Prop} (kk : ∀ (w9 : Int32) (r9 : Rw) (kp9 : Nat) (qs9 : Nat → Rw) (k9 : Nat), k9 ≤ k + 3 → okS (Tm + 60) w9 r9 kp9 qs9 → Hs x b0 686 [none, some (.ref 0), some (.int 1), some (.int (nI t)), some (.int X), some (.int (nI R)), some (.int (nI ns)), some (.int (nI m)), some (.int (nI w)), some (.int w9), v10] [] r9 kp9 qs9 k9 Z) : ∀ c : Nat, c < 20 → Hs x b0 129 [none, some (.ref 0), some (.int 1), some (.int (nI t)), some (.int X), some (.int (nI R)), some (.int (nI ns)), some (.int (nI m)), some (.int (nI w)), v9, v10] [.int (nI c)] r kp qs k Z := by
  have T := C.ct
  have C1 := T.1
  intro c hc
  match c, hc with
  | 0, _ => exact h_tableIn C1 dL_law_129 (by decide) (by decide) (o := 91) rfl (t := 220) rfl (lc_c0 C G hs ht hT hk kk)
  | 1, _ => exact h_tableIn C1 dL_law_129 (by decide) (by decide) (o := 132) rfl (t := 261) rfl (lc_c1 C G hs ht hT hk kk)
  | 2, _ => exact h_tableIn C1 dL_law_129 (by decide) (by decide) (o := 132) rfl (t := 261) rfl (lc_c1 C G hs ht hT hk kk)
  | 3, _ => exact h_tableIn C1 dL_law_129 (by decide) (by decide) (o := 167) rfl (t := 296) rfl (lc_c3 C G hs ht hT hk kk)
  | 4, _ => exact h_tableIn C1 dL_law_129 (by decide) (by decide) (o := 183) rfl (t := 312) rfl (lc_c4 C G hs ht hT hk kk)
  | 5, _ => exact h_tableIn C1 dL_law_129 (by decide) (by decide) (o := 197) rfl (t := 326) rfl (lc_c5 C G hs ht hT hk kk)
  | 6, _ => exact h_tableIn C1 dL_law_129 (by decide) (by decide) (o := 267) rfl (t := 396) rfl (lc_c6 C G hs ht hT hk kk)
  | 7, _ => exact h_tableIn C1 dL_law_129 (by decide) (by decide) (o := 283) rfl (t := 412) rfl (lc_c7 C G hs ht hT hk kk)
  | 8, _ => exact h_tableIn C1 dL_law_129 (by decide) (by decide) (o := 283) rfl (t := 412) rfl (lc_c7 C G hs ht hT hk kk)
  | 9, _ => exact h_tableIn C1 dL_law_129 (by decide) (by decide) (o := 283) rfl (t := 412) rfl (lc_c7 C G hs ht hT hk kk)
  | 10, _ => exact h_tableIn C1 dL_law_129 (by decide) (by decide) (o := 283) rfl (t := 412) rfl (lc_c7 C G hs ht hT hk kk)
  | 11, _ => exact h_tableIn C1 dL_law_129 (by decide) (by decide) (o := 325) rfl (t := 454) rfl (lc_c11 C G hs ht hT hk kk)
  | 12, _ => exact h_tableIn C1 dL_law_129 (by decide) (by decide) (o := 352) rfl (t := 481) rfl (lc_c12 C G hs ht hT hk kk)
  | 13, _ => exact h_tableIn C1 dL_law_129 (by decide) (by decide) (o := 352) rfl (t := 481) rfl (lc_c12 C G hs ht hT hk kk)
  | 14, _ => exact h_tableIn C1 dL_law_129 (by decide) (by decide) (o := 384) rfl (t := 513) rfl (lc_c14 C G hs ht hT hk kk)
  | 15, _ => exact h_tableIn C1 dL_law_129 (by decide) (by decide) (o := 397) rfl (t := 526) rfl (lc_c15 C G hs ht hT hk kk)
  | 16, _ => exact h_tableIn C1 dL_law_129 (by decide) (by decide) (o := 434) rfl (t := 563) rfl (lc_c16 C G hs ht hT hk kk)
  | 17, _ => exact h_tableIn C1 dL_law_129 (by decide) (by decide) (o := 516) rfl (t := 645) rfl (lc_c17 C G hs ht hT hk kk)
  | 18, _ => exact h_tableIn C1 dL_law_129 (by decide) (by decide) (o := 535) rfl (t := 664) rfl (lc_c18 C G hs ht hT hk kk)
  | 19, _ => exact h_tableOut C1 dL_law_129 (t := 680) (Or.inr (by decide)) rfl (lc_c19 C G hs ht hT hk kk)
  | c + 20, hc => exact absurd hc (by omega)
end LC
