/-! THE LAW'S CASES -/
def LwS (σ : xS) (T : Nat) (r : Rw) (kp : Nat) (qs : Nat → Rw) : Prop := Rel σ 1 r ∧ Rc σ kp qs ∧ σ 166 = r ∧ RecM σ kp qs ∧ kp ≤ 4 ∧ Ok r T ∧ ∀ j, j < kp → Ok (qs j) T
theorem okQ {r : Rw} {kp T T' : Nat} {qs : Nat → Rw} (h : Ok r T) (hq : ∀ j, j < kp → Ok (qs j) T) (hT : T ≤ T') : ∀ j, j < kK kp → Ok (kQ kp qs r j) T' := by
  intro j hj
  unfold kQ
  unfold kK at hj
  by_cases e : kp = 4
  · rw [if_pos e] at hj
    by_cases e2 : j = 3
    · rw [if_pos (by rw [if_pos e]; exact e2)]; exact h.mono hT
    · rw [if_neg (by rw [if_pos e]; exact e2), if_pos e]; exact (hq _ (by omega)).mono hT
  · rw [if_neg e] at hj
    by_cases e2 : j = kp
    · rw [if_pos (by rw [if_neg e]; exact e2)]; exact h.mono hT
    · rw [if_neg (by rw [if_neg e]; exact e2), if_neg e]; exact (hq _ (by omega)).mono hT
theorem QL_same {kq a v5 : Int32} {σ σ1 : xS} {τ1 : xT} {r1 : Rw} {kp1 : Nat} {qs1 : Nat → Rw} (h1 : QL kq a σ r1 kp1 qs1 v5 σ1 τ1) : ∀ c, 165 ≤ c → σ1 c = σ c := by
  rcases h1.2 with ⟨-, -, -, -, F⟩ | ⟨-, e⟩
  · exact fun c hc => F c (by show ¬ c < 165; omega)
  · exact fun c _ => by rw [e]
theorem RecM_same {σ σ1 : xS} {kp : Nat} {qs : Nat → Rw} (h : ∀ c, 165 ≤ c → σ1 c = σ c) (hM : RecM σ kp qs) : RecM σ1 kp qs := ⟨(congrFun (h 165 (by decide)) 3).trans hM.1, fun j hj i hi => (congrFun (h 167 (by decide)) _).trans (hM.2 j hj i hi)⟩
theorem QM_v {kq a v6 : Int32} {σ1 σ2 : xS} {τ1 τ2 : xT} {r r1 : Rw} {kp kp1 : Nat} {qs qs1 : Nat → Rw} (h2 : QM kq a σ1 τ1 r kp qs r1 kp1 qs1 v6 σ2 τ2) (h0 : kq = 0) : v6 = a := by
  rcases h2.2 with ⟨-, e, -⟩ | ⟨k, -⟩
  · exact e
  · exact absurd h0 k
theorem LwS_md {σ σ2 : xS} {T T' kp : Nat} {r : Rw} {qs : Nat → Rw} {τ τ2 : xT} (S : LwS σ T r kp qs) (m3 : Fr mS σ σ2) (m1 : σ2 166 = r) (m2 : RecM σ2 kp qs) (hT : T ≤ T') : LwS σ2 T' r kp qs := by
  obtain ⟨hR, hRc, hM, hRM, hk, hOk, hOq⟩ := S
  exact ⟨hR.kept m3 (fun a h1 h2 q => by have q : 165 ≤ a ∧ a < 170 := q; omega), hRc.kept m3 (fun a h1 h2 q => by have q : 165 ≤ a ∧ a < 170 := q; omega), m1, m2, hk, hOk.mono hT, fun j hj => (hOq j hj).mono hT⟩
theorem LwS_both {kq a v5 v6 : Int32} {σ σ1 σ2 : xS} {τ1 τ2 : xT} {T kp kp1 : Nat} {r r1 : Rw} {qs qs1 : Nat → Rw} (S : LwS σ T r kp qs) (h1 : QL kq a σ r1 kp1 qs1 v5 σ1 τ1) (h2 : QM kq a σ1 τ1 r kp qs r1 kp1 qs1 v6 σ2 τ2) (hn : kq = 0 → kp1 ≤ 4 ∧ Ok r1 (T + 60) ∧ ∀ j, j < kp1 → Ok (qs1 j) (T + 60)) : ∃ (r' : Rw) (kp' : Nat) (qs' : Nat → Rw), LwS σ2 (T + 60) r' kp' qs' ∧ v5 = kq ∧ σ2 165 4 = kq ∧ (kq = 0 → τ2 170 0 = v6.toInt64) := by
  obtain ⟨e5, h1⟩ := h1
  obtain ⟨e4, h2⟩ := h2
  rcases h1 with ⟨k0, t1, R1, C1, F1⟩ | ⟨k0, e1⟩
  · rcases h2 with ⟨-, ev, m1, m2, m3, m4⟩ | ⟨k1, -⟩
    · obtain ⟨n1, n2, n3⟩ := hn k0
      exact ⟨r1, kp1, qs1, ⟨R1.kept m3 (fun a h1 h2 q => by have q : 165 ≤ a ∧ a < 170 := q; omega), C1.kept m3 (fun a h1 h2 q => by have q : 165 ≤ a ∧ a < 170 := q; omega), m1, m2, n1, n2, n3⟩, e5, e4, fun _ => by rw [← m4, t1, ev]⟩
    · exact absurd k0 k1
  · rcases h2 with ⟨k1, -⟩ | ⟨-, m1, m2, m3, m4⟩
    · exact absurd k1 k0
    · rw [e1] at m3
      exact ⟨r, kp, qs, LwS_md (τ := τ1) (τ2 := τ2) S m3 m1 m2 (by omega), e5, e4, fun h => absurd h k0⟩
section LC
variable {x : xC} {b0 L9 : Nat} {xs9 : Nat → Int32} {k n : Nat} {σ : xS} {τ : xT} {Z : State → Prop}
theorem tail_i (C : Lw x b0 L9 xs9) {q i : Nat} {o : Int} {v5 v6 kq : Int32} (d0 : decode code q = .ok (.aload_n 2, 1)) (d1 : decode code (q + 1) = .ok (.invokevirtual 111, 3)) (d4 : decode code (q + 4) = .ok (.iload 5, 2)) (d6 : decode code (q + 6) = .ok (.if_icmp .eq 5, 3)) (d11 : decode code (q + 11) = .ok (.iload 5, 2)) (d13 : decode code (q + 13) = .ok (.ifCond .ne 15, 3)) (d16 : decode code (q + 16) = .ok (.aload_n 3, 1)) (d17 : decode code (q + 17) = .ok (.iconst 0, 1)) (d18 : decode code (q + 18) = .ok (.laload, 1)) (d19 : decode code (q + 19) = .ok (.iload 6, 2)) (d21 : decode code (q + 21) = .ok (.i2l, 1)) (d22 : decode code (q + 22) = .ok (.lcmp, 1)) (d23 : decode code (q + 23) = .ok (.ifCond .eq 5, 3)) (d28 : decode code (q + 28) = .ok (.goto o, 3)) (ho : ((q + 28 : Nat) : Int) + o = ((1969 : Nat) : Int)) (h5 : v5 = kq) (h4 : σ 165 4 = kq) (h6 : kq = 0 → τ 170 0 = v6.toInt64) (hkn : k ≤ 601024 ∧ n ≤ 7293034) (kk : Yw x b0 1969 (LB i) [] σ τ k n Z) : Yw x b0 q (LV i v5 v6) [] σ τ k n Z := by
  have G : Yw x b0 (q + 28) (LV i v5 v6) [] σ τ k n Z := yw_goto C d28 ho (yw_drop kk)
  refine yw_aload_n C d0 rfl ?_
  refine yw_callVi C (e_X9_thrown _ _) d1 rfl gL_law_X9_thrown rfl is_X9 ⟨rfl, qX9_thrown⟩ ⟨rfl, rfl⟩ ⟨Nat.le_of_ble_eq_true rfl, Nat.le_of_ble_eq_true rfl⟩ rfl (Nat.le_of_ble_eq_true rfl) hkn (fun v1 σ1 τ1 hq => ?_)
  obtain ⟨e1, rfl, rfl⟩ := hq
  refine yw_iload C d4 rfl ?_
  refine yw_icmp_eq C d6 (t := q + 11) (by omega) (fun hc => ?_) (fun hc => absurd (e1.trans (h4.trans h5.symm)) hc)
  refine yw_iload C d11 rfl ?_
  refine yw_if_ne C d13 (t := q + 28) (by omega) (fun _ => G) (fun hc2 => ?_)
  refine yw_aload_n C d16 rfl ?_
  refine yw_iconst C d17 (v := nI 0) rfl ?_
  refine yw_la (N := 1) C 0 d18 (by decide) rfl (by decide) rfl (by decide) ?_
  refine yw_iload C d19 rfl ?_
  refine yw_i2l C d21 ?_
  refine yw_lcmp C d22 ?_
  refine yw_if_eq C d23 (t := q + 28) (by omega) (fun _ => G) (fun hc3 => absurd ?_ hc3)
  rw [h6 (h5.symm.trans hc2)]
  simp [lg_cmp]
theorem tail_b (C : Lw x b0 L9 xs9) {q i : Nat} {o : Int} {v5 v6 kq : Int32} (d0 : decode code q = .ok (.aload_n 2, 1)) (d1 : decode code (q + 1) = .ok (.invokevirtual 111, 3)) (d4 : decode code (q + 4) = .ok (.iload 5, 2)) (d6 : decode code (q + 6) = .ok (.if_icmp .eq 5, 3)) (d11 : decode code (q + 11) = .ok (.iload 5, 2)) (d13 : decode code (q + 13) = .ok (.ifCond .ne 22, 3)) (d16 : decode code (q + 16) = .ok (.aload_n 3, 1)) (d17 : decode code (q + 17) = .ok (.iconst 0, 1)) (d18 : decode code (q + 18) = .ok (.laload, 1)) (d19 : decode code (q + 19) = .ok (.iload 6, 2)) (d21 : decode code (q + 21) = .ok (.ifCond .eq 7, 3)) (d24 : decode code (q + 24) = .ok (.lconst 1, 1)) (d25 : decode code (q + 25) = .ok (.goto 4, 3)) (d28 : decode code (q + 28) = .ok (.lconst 0, 1)) (d29 : decode code (q + 29) = .ok (.lcmp, 1)) (d30 : decode code (q + 30) = .ok (.ifCond .eq 5, 3)) (d35 : decode code (q + 35) = .ok (.goto o, 3)) (ho : ((q + 35 : Nat) : Int) + o = ((1969 : Nat) : Int)) (h5 : v5 = kq) (h4 : σ 165 4 = kq) (h6 : kq = 0 → τ 170 0 = v6.toInt64) (h7 : kq = 0 → v6 = 0 ∨ v6 = 1) (hkn : k ≤ 601024 ∧ n ≤ 7293034) (kk : Yw x b0 1969 (LB i) [] σ τ k n Z) : Yw x b0 q (LV i v5 v6) [] σ τ k n Z := by
  have G : Yw x b0 (q + 35) (LV i v5 v6) [] σ τ k n Z := yw_goto C d35 ho (yw_drop kk)
  refine yw_aload_n C d0 rfl ?_
  refine yw_callVi C (e_X9_thrown _ _) d1 rfl gL_law_X9_thrown rfl is_X9 ⟨rfl, qX9_thrown⟩ ⟨rfl, rfl⟩ ⟨Nat.le_of_ble_eq_true rfl, Nat.le_of_ble_eq_true rfl⟩ rfl (Nat.le_of_ble_eq_true rfl) hkn (fun v1 σ1 τ1 hq => ?_)
  obtain ⟨e1, rfl, rfl⟩ := hq
  refine yw_iload C d4 rfl ?_
  refine yw_icmp_eq C d6 (t := q + 11) (by omega) (fun hc => ?_) (fun hc => absurd (e1.trans (h4.trans h5.symm)) hc)
  refine yw_iload C d11 rfl ?_
  refine yw_if_ne C d13 (t := q + 35) (by omega) (fun _ => G) (fun hc2 => ?_)
  have k0 : kq = 0 := h5.symm.trans hc2
  refine yw_aload_n C d16 rfl ?_
  refine yw_iconst C d17 (v := nI 0) rfl ?_
  refine yw_la (N := 1) C 0 d18 (by decide) rfl (by decide) rfl (by decide) ?_
  refine yw_iload C d19 rfl ?_
  have J : Yw x b0 (q + 29) (LV i v5 v6) [.long v6.toInt64, .long (τ 170 0)] σ τ k n Z := by
    refine yw_lcmp C d29 ?_
    refine yw_if_eq C d30 (t := q + 35) (by omega) (fun _ => G) (fun hc3 => absurd ?_ hc3)
    rw [h6 k0]
    simp [lg_cmp]
  refine yw_if_eq C d21 (t := q + 28) (by omega) (fun hv => ?_) (fun hv => ?_)
  · refine yw_lconst C d28 (v := v6.toInt64) (by rw [hv]; rfl) J
  · have hv1 : v6 = 1 := (h7 k0).resolve_left hv
    refine yw_lconst C d24 (v := v6.toInt64) (by rw [hv1]; rfl) ?_
    exact yw_goto C d25 (t := q + 29) (by omega) J
set_option maxHeartbeats 4000000 in
set_option maxRecDepth 100000 in
theorem lc_begin (C : Lw x b0 L9 xs9) {i T kp : Nat} {r : Rw} {qs : Nat → Rw} (hi : i + 6 ≤ L9) (hT : T ≤ 40000) (S : LwS σ T r kp qs) (hkn : k + 1 ≤ 601024 ∧ n + 6 ≤ 7293034) (kk : ∀ (σ' : xS) (τ' : xT) (r' : Rw) (kp' : Nat) (qs' : Nat → Rw), LwS σ' (T + 60) r' kp' qs' → Yw x b0 1969 (LB i) [] σ' τ' (k + 1) (n + 6) Z) : Yw x b0 168 (LB i) [] σ τ k n Z := by
  have S0 := S
  obtain ⟨hR, hRc, hM, hRM, hk, hOk, hOq⟩ := S
  have hOk0 := hOk
  obtain ⟨R, ns, nr, ne, t, I, hs, ht⟩ := hOk
  have htt : t + 200 ≤ 1000000 := by omega
  refine yw_aload_n C dL_law_168 rfl ?_
  refine yw_scr C (i := i) (q := 1) dL_law_169 dL_law_170 dL_law_172 dL_law_173 dL_law_174 rfl rfl (by omega) ?_
  refine yw_aload_n C dL_law_175 rfl ?_
  refine yw_callXw C (e_L_begin σ τ hR hRc hk I (xs9 (i + 1))) dL_law_176 rfl gL_law_L_begin rfl qL_begin ⟨rfl, rfl⟩ ⟨Nat.le_of_ble_eq_true rfl, Nat.le_of_ble_eq_true rfl⟩ rfl (Nat.le_of_ble_eq_true rfl) hkn (fun v5 σ1 τ1 h1 => ?_)
  refine yw_istore C dL_law_179 (by decide) (Nat.le_of_ble_eq_true rfl) (L' := LV5 i v5) rfl ?_
  refine yw_aload_n C dL_law_181 rfl ?_
  have hM1 := (QL_same h1 166 (by decide)).trans hM
  have hRM1 := RecM_same (QL_same h1) hRM
  refine yw_scr C (i := i) (q := 1) dL_law_182 dL_law_183 dL_law_185 dL_law_186 dL_law_187 rfl rfl (by omega) ?_
  refine yw_callVi C (e_X9_begin σ1 τ1 hM1 hRM1 hk I (xs9 (i + 1))) dL_law_188 rfl gL_law_X9_begin rfl is_X9 ⟨rfl, qX9_begin⟩ ⟨rfl, rfl⟩ ⟨Nat.le_of_ble_eq_true rfl, Nat.le_of_ble_eq_true rfl⟩ rfl (Nat.le_of_ble_eq_true rfl) hkn (fun v6 σ2 τ2 h2 => ?_)
  refine yw_istore C dL_law_191 (by decide) (Nat.le_of_ble_eq_true rfl) (L' := LV i v5 v6) rfl ?_
  obtain ⟨r', kp', qs', S', e5, e4, e6⟩ := LwS_both S0 h1 h2 (fun h0 => ⟨kK_le hk, (ok_begin I hs htt (xs9 (i + 1)) h0).mono (by omega), okQ hOk0 hOq (by omega)⟩)
  exact tail_i C dL_law_193 dL_law_194 dL_law_197 dL_law_199 dL_law_204 dL_law_206 dL_law_209 dL_law_210 dL_law_211 dL_law_212 dL_law_214 dL_law_215 dL_law_216 dL_law_221 rfl e5 e4 e6 hkn (kk _ _ _ _ _ S')
set_option maxHeartbeats 4000000 in
set_option maxRecDepth 100000 in
theorem lc_setDoor (C : Lw x b0 L9 xs9) {i T kp : Nat} {r : Rw} {qs : Nat → Rw} (hi : i + 6 ≤ L9) (hT : T ≤ 40000) (S : LwS σ T r kp qs) (hkn : k + 1 ≤ 601024 ∧ n + 6 ≤ 7293034) (kk : ∀ (σ' : xS) (τ' : xT) (r' : Rw) (kp' : Nat) (qs' : Nat → Rw), LwS σ' (T + 60) r' kp' qs' → Yw x b0 1969 (LB i) [] σ' τ' (k + 1) (n + 6) Z) : Yw x b0 224 (LB i) [] σ τ k n Z := by
  have S0 := S
  obtain ⟨hR, hRc, hM, hRM, hk, hOk, hOq⟩ := S
  have hOk0 := hOk
  obtain ⟨R, ns, nr, ne, t, I, hs, ht⟩ := hOk
  have htt : t + 200 ≤ 1000000 := by omega
  obtain ⟨o, ho⟩ : ∃ o : Int32, o = if xs9 (i + 3) = 0 then 0 else 1 := ⟨_, rfl⟩
  have ho1 : o = 0 ∨ o = 1 := by rw [ho]; split <;> simp
  refine yw_aload_n C dL_law_224 rfl ?_
  refine yw_scr C (i := i) (q := 1) dL_law_225 dL_law_226 dL_law_228 dL_law_229 dL_law_230 rfl rfl (by omega) ?_
  refine yw_scr C (i := i) (q := 2) dL_law_231 dL_law_232 dL_law_234 dL_law_235 dL_law_236 rfl rfl (by omega) ?_
  refine yw_scr C (i := i) (q := 3) dL_law_237 dL_law_238 dL_law_240 dL_law_241 dL_law_242 rfl rfl (by omega) ?_
  suffices J : Yw x b0 251 (LB i) (.int o :: [.int (xs9 (i + 2)), .int (xs9 (i + 1)), .ref 0]) _ _ _ _ Z by
    refine yw_if_eq C dL_law_243 (t := 250) rfl (fun hz => ?_) (fun hz => ?_)
    · exact yw_iconst C dL_law_250 (v := o) (by rw [ho, if_pos hz]; rfl) J
    · refine yw_iconst C dL_law_246 (v := o) (by rw [ho, if_neg hz]; rfl) ?_
      exact yw_goto C dL_law_247 (t := 251) rfl J
  refine yw_aload_n C dL_law_251 rfl ?_
  refine yw_callXw C (e_L_setDoor σ τ hR hRc hk I (xs9 (i + 1)) (xs9 (i + 2)) o ho1) dL_law_252 rfl gL_law_L_setDoor rfl qL_setDoor ⟨rfl, rfl⟩ ⟨Nat.le_of_ble_eq_true rfl, Nat.le_of_ble_eq_true rfl⟩ rfl (Nat.le_of_ble_eq_true rfl) hkn (fun v5 σ1 τ1 h1 => ?_)
  refine yw_istore C dL_law_255 (by decide) (Nat.le_of_ble_eq_true rfl) (L' := LV5 i v5) rfl ?_
  refine yw_aload_n C dL_law_257 rfl ?_
  have hM1 := (QL_same h1 166 (by decide)).trans hM
  have hRM1 := RecM_same (QL_same h1) hRM
  refine yw_scr C (i := i) (q := 1) dL_law_258 dL_law_259 dL_law_261 dL_law_262 dL_law_263 rfl rfl (by omega) ?_
  refine yw_scr C (i := i) (q := 2) dL_law_264 dL_law_265 dL_law_267 dL_law_268 dL_law_269 rfl rfl (by omega) ?_
  refine yw_scr C (i := i) (q := 3) dL_law_270 dL_law_271 dL_law_273 dL_law_274 dL_law_275 rfl rfl (by omega) ?_
  suffices J : Yw x b0 284 (LV5 i v5) (.int o :: [.int (xs9 (i + 2)), .int (xs9 (i + 1)), .ref 165]) _ _ _ _ Z by
    refine yw_if_eq C dL_law_276 (t := 283) rfl (fun hz => ?_) (fun hz => ?_)
    · exact yw_iconst C dL_law_283 (v := o) (by rw [ho, if_pos hz]; rfl) J
    · refine yw_iconst C dL_law_279 (v := o) (by rw [ho, if_neg hz]; rfl) ?_
      exact yw_goto C dL_law_280 (t := 284) rfl J
  refine yw_callVi C (e_X9_setDoor σ1 τ1 hM1 hRM1 hk I (xs9 (i + 1)) (xs9 (i + 2)) o ho1) dL_law_284 rfl gL_law_X9_setDoor rfl is_X9 ⟨rfl, qX9_setDoor⟩ ⟨rfl, rfl⟩ ⟨Nat.le_of_ble_eq_true rfl, Nat.le_of_ble_eq_true rfl⟩ rfl (Nat.le_of_ble_eq_true rfl) hkn (fun v6 σ2 τ2 h2 => ?_)
  refine yw_istore C dL_law_287 (by decide) (Nat.le_of_ble_eq_true rfl) (L' := LV i v5 v6) rfl ?_
  obtain ⟨r', kp', qs', S', e5, e4, e6⟩ := LwS_both S0 h1 h2 (fun h0 => ⟨kK_le hk, (ok_setDoor I hs htt (xs9 (i + 1)) (xs9 (i + 2)) o h0).mono (by omega), okQ hOk0 hOq (by omega)⟩)
  exact tail_b C dL_law_289 dL_law_290 dL_law_293 dL_law_295 dL_law_300 dL_law_302 dL_law_305 dL_law_306 dL_law_307 dL_law_308 dL_law_310 dL_law_313 dL_law_314 dL_law_317 dL_law_318 dL_law_319 dL_law_324 rfl e5 e4 e6 (fun h0 => by rw [QM_v h2 h0]; exact mDoorI_01 _ _ _) hkn (kk _ _ _ _ _ S')
set_option maxHeartbeats 4000000 in
set_option maxRecDepth 100000 in
theorem lc_isOpen (C : Lw x b0 L9 xs9) {i T kp : Nat} {r : Rw} {qs : Nat → Rw} (hi : i + 6 ≤ L9) (hT : T ≤ 40000) (S : LwS σ T r kp qs) (hkn : k + 1 ≤ 601024 ∧ n + 6 ≤ 7293034) (kk : ∀ (σ' : xS) (τ' : xT) (r' : Rw) (kp' : Nat) (qs' : Nat → Rw), LwS σ' (T + 60) r' kp' qs' → Yw x b0 1969 (LB i) [] σ' τ' (k + 1) (n + 6) Z) : Yw x b0 327 (LB i) [] σ τ k n Z := by
  have S0 := S
  obtain ⟨hR, hRc, hM, hRM, hk, hOk, hOq⟩ := S
  have hOk0 := hOk
  obtain ⟨R, ns, nr, ne, t, I, hs, ht⟩ := hOk
  have htt : t + 200 ≤ 1000000 := by omega
  refine yw_aload_n C dL_law_327 rfl ?_
  refine yw_scr C (i := i) (q := 1) dL_law_328 dL_law_329 dL_law_331 dL_law_332 dL_law_333 rfl rfl (by omega) ?_
  refine yw_scr C (i := i) (q := 2) dL_law_334 dL_law_335 dL_law_337 dL_law_338 dL_law_339 rfl rfl (by omega) ?_
  refine yw_aload_n C dL_law_340 rfl ?_
  refine yw_callXw C (e_L_isOpen σ τ hR hRc hk I (xs9 (i + 1)) (xs9 (i + 2))) dL_law_341 rfl gL_law_L_isOpen rfl qL_isOpen ⟨rfl, rfl⟩ ⟨Nat.le_of_ble_eq_true rfl, Nat.le_of_ble_eq_true rfl⟩ rfl (Nat.le_of_ble_eq_true rfl) hkn (fun v5 σ1 τ1 h1 => ?_)
  refine yw_istore C dL_law_344 (by decide) (Nat.le_of_ble_eq_true rfl) (L' := LV5 i v5) rfl ?_
  refine yw_aload_n C dL_law_346 rfl ?_
  have hM1 := (QL_same h1 166 (by decide)).trans hM
  have hRM1 := RecM_same (QL_same h1) hRM
  refine yw_scr C (i := i) (q := 1) dL_law_347 dL_law_348 dL_law_350 dL_law_351 dL_law_352 rfl rfl (by omega) ?_
  refine yw_scr C (i := i) (q := 2) dL_law_353 dL_law_354 dL_law_356 dL_law_357 dL_law_358 rfl rfl (by omega) ?_
  refine yw_callVi C (e_X9_isOpen σ1 τ1 hM1 hRM1 hk I (xs9 (i + 1)) (xs9 (i + 2))) dL_law_359 rfl gL_law_X9_isOpen rfl is_X9 ⟨rfl, qX9_isOpen⟩ ⟨rfl, rfl⟩ ⟨Nat.le_of_ble_eq_true rfl, Nat.le_of_ble_eq_true rfl⟩ rfl (Nat.le_of_ble_eq_true rfl) hkn (fun v6 σ2 τ2 h2 => ?_)
  refine yw_istore C dL_law_362 (by decide) (Nat.le_of_ble_eq_true rfl) (L' := LV i v5 v6) rfl ?_
  obtain ⟨r', kp', qs', S', e5, e4, e6⟩ := LwS_both S0 h1 h2 (fun _ => ⟨hk, hOk0.mono (by omega), fun j hj => (hOq j hj).mono (by omega)⟩)
  exact tail_b C dL_law_364 dL_law_365 dL_law_368 dL_law_370 dL_law_375 dL_law_377 dL_law_380 dL_law_381 dL_law_382 dL_law_383 dL_law_385 dL_law_388 dL_law_389 dL_law_392 dL_law_393 dL_law_394 dL_law_399 rfl e5 e4 e6 (fun h0 => by rw [QM_v h2 h0]; split <;> simp) hkn (kk _ _ _ _ _ S')
set_option maxHeartbeats 4000000 in
set_option maxRecDepth 100000 in
theorem lc_addFuel (C : Lw x b0 L9 xs9) {i T kp : Nat} {r : Rw} {qs : Nat → Rw} (hi : i + 6 ≤ L9) (hT : T ≤ 40000) (S : LwS σ T r kp qs) (hkn : k + 1 ≤ 601024 ∧ n + 6 ≤ 7293034) (kk : ∀ (σ' : xS) (τ' : xT) (r' : Rw) (kp' : Nat) (qs' : Nat → Rw), LwS σ' (T + 60) r' kp' qs' → Yw x b0 1969 (LB i) [] σ' τ' (k + 1) (n + 6) Z) : Yw x b0 402 (LB i) [] σ τ k n Z := by
  have S0 := S
  obtain ⟨hR, hRc, hM, hRM, hk, hOk, hOq⟩ := S
  have hOk0 := hOk
  obtain ⟨R, ns, nr, ne, t, I, hs, ht⟩ := hOk
  have htt : t + 200 ≤ 1000000 := by omega
  refine yw_aload_n C dL_law_402 rfl ?_
  refine yw_scr C (i := i) (q := 1) dL_law_403 dL_law_404 dL_law_406 dL_law_407 dL_law_408 rfl rfl (by omega) ?_
  refine yw_aload_n C dL_law_409 rfl ?_
  refine yw_callXw C (e_L_addFuel σ τ hR hRc hk I (xs9 (i + 1))) dL_law_410 rfl gL_law_L_addFuel rfl qL_addFuel ⟨rfl, rfl⟩ ⟨Nat.le_of_ble_eq_true rfl, Nat.le_of_ble_eq_true rfl⟩ rfl (Nat.le_of_ble_eq_true rfl) hkn (fun v5 σ1 τ1 h1 => ?_)
  refine yw_istore C dL_law_413 (by decide) (Nat.le_of_ble_eq_true rfl) (L' := LV5 i v5) rfl ?_
  refine yw_aload_n C dL_law_415 rfl ?_
  have hM1 := (QL_same h1 166 (by decide)).trans hM
  have hRM1 := RecM_same (QL_same h1) hRM
  refine yw_scr C (i := i) (q := 1) dL_law_416 dL_law_417 dL_law_419 dL_law_420 dL_law_421 rfl rfl (by omega) ?_
  refine yw_callVi C (e_X9_addFuel σ1 τ1 hM1 hRM1 hk I (xs9 (i + 1))) dL_law_422 rfl gL_law_X9_addFuel rfl is_X9 ⟨rfl, qX9_addFuel⟩ ⟨rfl, rfl⟩ ⟨Nat.le_of_ble_eq_true rfl, Nat.le_of_ble_eq_true rfl⟩ rfl (Nat.le_of_ble_eq_true rfl) hkn (fun v6 σ2 τ2 h2 => ?_)
  refine yw_istore C dL_law_425 (by decide) (Nat.le_of_ble_eq_true rfl) (L' := LV i v5 v6) rfl ?_
  obtain ⟨r', kp', qs', S', e5, e4, e6⟩ := LwS_both S0 h1 h2 (fun h0 => ⟨kK_le hk, (ok_addFuel I hs htt (xs9 (i + 1)) h0).mono (by omega), okQ hOk0 hOq (by omega)⟩)
  exact tail_i C dL_law_427 dL_law_428 dL_law_431 dL_law_433 dL_law_438 dL_law_440 dL_law_443 dL_law_444 dL_law_445 dL_law_446 dL_law_448 dL_law_449 dL_law_450 dL_law_455 rfl e5 e4 e6 hkn (kk _ _ _ _ _ S')
set_option maxHeartbeats 4000000 in
set_option maxRecDepth 100000 in
theorem lc_setTarget (C : Lw x b0 L9 xs9) {i T kp : Nat} {r : Rw} {qs : Nat → Rw} (hi : i + 6 ≤ L9) (hT : T ≤ 40000) (S : LwS σ T r kp qs) (hkn : k + 1 ≤ 601024 ∧ n + 6 ≤ 7293034) (kk : ∀ (σ' : xS) (τ' : xT) (r' : Rw) (kp' : Nat) (qs' : Nat → Rw), LwS σ' (T + 60) r' kp' qs' → Yw x b0 1969 (LB i) [] σ' τ' (k + 1) (n + 6) Z) : Yw x b0 458 (LB i) [] σ τ k n Z := by
  have S0 := S
  obtain ⟨hR, hRc, hM, hRM, hk, hOk, hOq⟩ := S
  have hOk0 := hOk
  obtain ⟨R, ns, nr, ne, t, I, hs, ht⟩ := hOk
  have htt : t + 200 ≤ 1000000 := by omega
  refine yw_aload_n C dL_law_458 rfl ?_
  refine yw_scr C (i := i) (q := 1) dL_law_459 dL_law_460 dL_law_462 dL_law_463 dL_law_464 rfl rfl (by omega) ?_
  refine yw_aload_n C dL_law_465 rfl ?_
  refine yw_callXw C (e_L_setTarget σ τ hR hRc hk I (xs9 (i + 1))) dL_law_466 rfl gL_law_L_setTarget rfl qL_setTarget ⟨rfl, rfl⟩ ⟨Nat.le_of_ble_eq_true rfl, Nat.le_of_ble_eq_true rfl⟩ rfl (Nat.le_of_ble_eq_true rfl) hkn (fun v5 σ1 τ1 h1 => ?_)
  refine yw_istore C dL_law_469 (by decide) (Nat.le_of_ble_eq_true rfl) (L' := LV5 i v5) rfl ?_
  refine yw_aload_n C dL_law_471 rfl ?_
  have hM1 := (QL_same h1 166 (by decide)).trans hM
  have hRM1 := RecM_same (QL_same h1) hRM
  refine yw_scr C (i := i) (q := 1) dL_law_472 dL_law_473 dL_law_475 dL_law_476 dL_law_477 rfl rfl (by omega) ?_
  refine yw_callVi C (e_X9_setTarget σ1 τ1 hM1 hRM1 hk I (xs9 (i + 1))) dL_law_478 rfl gL_law_X9_setTarget rfl is_X9 ⟨rfl, qX9_setTarget⟩ ⟨rfl, rfl⟩ ⟨Nat.le_of_ble_eq_true rfl, Nat.le_of_ble_eq_true rfl⟩ rfl (Nat.le_of_ble_eq_true rfl) hkn (fun v6 σ2 τ2 h2 => ?_)
  refine yw_istore C dL_law_481 (by decide) (Nat.le_of_ble_eq_true rfl) (L' := LV i v5 v6) rfl ?_
  obtain ⟨r', kp', qs', S', e5, e4, e6⟩ := LwS_both S0 h1 h2 (fun h0 => ⟨kK_le hk, (ok_setTarget I hs htt (xs9 (i + 1)) h0).mono (by omega), okQ hOk0 hOq (by omega)⟩)
  exact tail_i C dL_law_483 dL_law_484 dL_law_487 dL_law_489 dL_law_494 dL_law_496 dL_law_499 dL_law_500 dL_law_501 dL_law_502 dL_law_504 dL_law_505 dL_law_506 dL_law_511 rfl e5 e4 e6 hkn (kk _ _ _ _ _ S')
set_option maxHeartbeats 4000000 in
set_option maxRecDepth 100000 in
theorem lc_set (C : Lw x b0 L9 xs9) {i T kp : Nat} {r : Rw} {qs : Nat → Rw} (hi : i + 6 ≤ L9) (hT : T ≤ 40000) (S : LwS σ T r kp qs) (hkn : k + 1 ≤ 601024 ∧ n + 6 ≤ 7293034) (kk : ∀ (σ' : xS) (τ' : xT) (r' : Rw) (kp' : Nat) (qs' : Nat → Rw), LwS σ' (T + 60) r' kp' qs' → Yw x b0 1969 (LB i) [] σ' τ' (k + 1) (n + 6) Z) : Yw x b0 514 (LB i) [] σ τ k n Z := by
  have S0 := S
  obtain ⟨hR, hRc, hM, hRM, hk, hOk, hOq⟩ := S
  have hOk0 := hOk
  obtain ⟨R, ns, nr, ne, t, I, hs, ht⟩ := hOk
  have htt : t + 200 ≤ 1000000 := by omega
  refine yw_aload_n C dL_law_514 rfl ?_
  refine yw_scr C (i := i) (q := 1) dL_law_515 dL_law_516 dL_law_518 dL_law_519 dL_law_520 rfl rfl (by omega) ?_
  refine yw_scr C (i := i) (q := 2) dL_law_521 dL_law_522 dL_law_524 dL_law_525 dL_law_526 rfl rfl (by omega) ?_
  refine yw_aload_n C dL_law_527 rfl ?_
  refine yw_callXw C (e_L_set σ τ hR hRc hk I (xs9 (i + 1)) (xs9 (i + 2))) dL_law_528 rfl gL_law_L_set rfl qL_set ⟨rfl, rfl⟩ ⟨Nat.le_of_ble_eq_true rfl, Nat.le_of_ble_eq_true rfl⟩ rfl (Nat.le_of_ble_eq_true rfl) hkn (fun v5 σ1 τ1 h1 => ?_)
  refine yw_istore C dL_law_531 (by decide) (Nat.le_of_ble_eq_true rfl) (L' := LV5 i v5) rfl ?_
  refine yw_aload_n C dL_law_533 rfl ?_
  have hM1 := (QL_same h1 166 (by decide)).trans hM
  have hRM1 := RecM_same (QL_same h1) hRM
  refine yw_scr C (i := i) (q := 1) dL_law_534 dL_law_535 dL_law_537 dL_law_538 dL_law_539 rfl rfl (by omega) ?_
  refine yw_scr C (i := i) (q := 2) dL_law_540 dL_law_541 dL_law_543 dL_law_544 dL_law_545 rfl rfl (by omega) ?_
  refine yw_callVi C (e_X9_set σ1 τ1 hM1 hRM1 hk I (xs9 (i + 1)) (xs9 (i + 2))) dL_law_546 rfl gL_law_X9_set rfl is_X9 ⟨rfl, qX9_set⟩ ⟨rfl, rfl⟩ ⟨Nat.le_of_ble_eq_true rfl, Nat.le_of_ble_eq_true rfl⟩ rfl (Nat.le_of_ble_eq_true rfl) hkn (fun v6 σ2 τ2 h2 => ?_)
  refine yw_istore C dL_law_549 (by decide) (Nat.le_of_ble_eq_true rfl) (L' := LV i v5 v6) rfl ?_
  obtain ⟨r', kp', qs', S', e5, e4, e6⟩ := LwS_both S0 h1 h2 (fun h0 => ⟨kK_le hk, (ok_set I hs htt (xs9 (i + 1)) (xs9 (i + 2)) h0).mono (by omega), okQ hOk0 hOq (by omega)⟩)
  exact tail_i C dL_law_551 dL_law_552 dL_law_555 dL_law_557 dL_law_562 dL_law_564 dL_law_567 dL_law_568 dL_law_569 dL_law_570 dL_law_572 dL_law_573 dL_law_574 dL_law_579 rfl e5 e4 e6 hkn (kk _ _ _ _ _ S')
set_option maxHeartbeats 4000000 in
set_option maxRecDepth 100000 in
theorem lc_setSmoke (C : Lw x b0 L9 xs9) {i T kp : Nat} {r : Rw} {qs : Nat → Rw} (hi : i + 6 ≤ L9) (hT : T ≤ 40000) (S : LwS σ T r kp qs) (hkn : k + 1 ≤ 601024 ∧ n + 6 ≤ 7293034) (kk : ∀ (σ' : xS) (τ' : xT) (r' : Rw) (kp' : Nat) (qs' : Nat → Rw), LwS σ' (T + 60) r' kp' qs' → Yw x b0 1969 (LB i) [] σ' τ' (k + 1) (n + 6) Z) : Yw x b0 582 (LB i) [] σ τ k n Z := by
  have S0 := S
  obtain ⟨hR, hRc, hM, hRM, hk, hOk, hOq⟩ := S
  have hOk0 := hOk
  obtain ⟨R, ns, nr, ne, t, I, hs, ht⟩ := hOk
  have htt : t + 200 ≤ 1000000 := by omega
  refine yw_aload_n C dL_law_582 rfl ?_
  refine yw_scr C (i := i) (q := 1) dL_law_583 dL_law_584 dL_law_586 dL_law_587 dL_law_588 rfl rfl (by omega) ?_
  refine yw_scr C (i := i) (q := 2) dL_law_589 dL_law_590 dL_law_592 dL_law_593 dL_law_594 rfl rfl (by omega) ?_
  refine yw_aload_n C dL_law_595 rfl ?_
  refine yw_callXw C (e_L_setSmoke σ τ hR hRc hk I (xs9 (i + 1)) (xs9 (i + 2))) dL_law_596 rfl gL_law_L_setSmoke rfl qL_setSmoke ⟨rfl, rfl⟩ ⟨Nat.le_of_ble_eq_true rfl, Nat.le_of_ble_eq_true rfl⟩ rfl (Nat.le_of_ble_eq_true rfl) hkn (fun v5 σ1 τ1 h1 => ?_)
  refine yw_istore C dL_law_599 (by decide) (Nat.le_of_ble_eq_true rfl) (L' := LV5 i v5) rfl ?_
  refine yw_aload_n C dL_law_601 rfl ?_
  have hM1 := (QL_same h1 166 (by decide)).trans hM
  have hRM1 := RecM_same (QL_same h1) hRM
  refine yw_scr C (i := i) (q := 1) dL_law_602 dL_law_603 dL_law_605 dL_law_606 dL_law_607 rfl rfl (by omega) ?_
  refine yw_scr C (i := i) (q := 2) dL_law_608 dL_law_609 dL_law_611 dL_law_612 dL_law_613 rfl rfl (by omega) ?_
  refine yw_callVi C (e_X9_setSmoke σ1 τ1 hM1 hRM1 hk I (xs9 (i + 1)) (xs9 (i + 2))) dL_law_614 rfl gL_law_X9_setSmoke rfl is_X9 ⟨rfl, qX9_setSmoke⟩ ⟨rfl, rfl⟩ ⟨Nat.le_of_ble_eq_true rfl, Nat.le_of_ble_eq_true rfl⟩ rfl (Nat.le_of_ble_eq_true rfl) hkn (fun v6 σ2 τ2 h2 => ?_)
  refine yw_istore C dL_law_617 (by decide) (Nat.le_of_ble_eq_true rfl) (L' := LV i v5 v6) rfl ?_
  obtain ⟨r', kp', qs', S', e5, e4, e6⟩ := LwS_both S0 h1 h2 (fun h0 => ⟨kK_le hk, (ok_setSmoke I hs htt (xs9 (i + 1)) (xs9 (i + 2)) h0).mono (by omega), okQ hOk0 hOq (by omega)⟩)
  exact tail_i C dL_law_619 dL_law_620 dL_law_623 dL_law_625 dL_law_630 dL_law_632 dL_law_635 dL_law_636 dL_law_637 dL_law_638 dL_law_640 dL_law_641 dL_law_642 dL_law_647 rfl e5 e4 e6 hkn (kk _ _ _ _ _ S')
set_option maxHeartbeats 4000000 in
set_option maxRecDepth 100000 in
theorem lc_info (C : Lw x b0 L9 xs9) {i T kp : Nat} {r : Rw} {qs : Nat → Rw} (hi : i + 6 ≤ L9) (hT : T ≤ 40000) (S : LwS σ T r kp qs) (hkn : k + 1 ≤ 601024 ∧ n + 6 ≤ 7293034) (kk : ∀ (σ' : xS) (τ' : xT) (r' : Rw) (kp' : Nat) (qs' : Nat → Rw), LwS σ' (T + 60) r' kp' qs' → Yw x b0 1969 (LB i) [] σ' τ' (k + 1) (n + 6) Z) : Yw x b0 650 (LB i) [] σ τ k n Z := by
  have S0 := S
  obtain ⟨hR, hRc, hM, hRM, hk, hOk, hOq⟩ := S
  have hOk0 := hOk
  obtain ⟨R, ns, nr, ne, t, I, hs, ht⟩ := hOk
  have htt : t + 200 ≤ 1000000 := by omega
  refine yw_aload_n C dL_law_650 rfl ?_
  refine yw_scr C (i := i) (q := 1) dL_law_651 dL_law_652 dL_law_654 dL_law_655 dL_law_656 rfl rfl (by omega) ?_
  refine yw_aload_n C dL_law_657 rfl ?_
  refine yw_callXw C (e_L_info σ τ hR hRc hk I (xs9 (i + 1))) dL_law_658 rfl gL_law_L_info rfl qL_info ⟨rfl, rfl⟩ ⟨Nat.le_of_ble_eq_true rfl, Nat.le_of_ble_eq_true rfl⟩ rfl (Nat.le_of_ble_eq_true rfl) hkn (fun v5 σ1 τ1 h1 => ?_)
  refine yw_istore C dL_law_661 (by decide) (Nat.le_of_ble_eq_true rfl) (L' := LV5 i v5) rfl ?_
  refine yw_aload_n C dL_law_663 rfl ?_
  have hM1 := (QL_same h1 166 (by decide)).trans hM
  have hRM1 := RecM_same (QL_same h1) hRM
  refine yw_scr C (i := i) (q := 1) dL_law_664 dL_law_665 dL_law_667 dL_law_668 dL_law_669 rfl rfl (by omega) ?_
  refine yw_callVi C (e_X9_info σ1 τ1 hM1 hRM1 hk I (xs9 (i + 1))) dL_law_670 rfl gL_law_X9_info rfl is_X9 ⟨rfl, qX9_info⟩ ⟨rfl, rfl⟩ ⟨Nat.le_of_ble_eq_true rfl, Nat.le_of_ble_eq_true rfl⟩ rfl (Nat.le_of_ble_eq_true rfl) hkn (fun v6 σ2 τ2 h2 => ?_)
  refine yw_istore C dL_law_673 (by decide) (Nat.le_of_ble_eq_true rfl) (L' := LV i v5 v6) rfl ?_
  obtain ⟨r', kp', qs', S', e5, e4, e6⟩ := LwS_both S0 h1 h2 (fun _ => ⟨hk, hOk0.mono (by omega), fun j hj => (hOq j hj).mono (by omega)⟩)
  exact tail_i C dL_law_675 dL_law_676 dL_law_679 dL_law_681 dL_law_686 dL_law_688 dL_law_691 dL_law_692 dL_law_693 dL_law_694 dL_law_696 dL_law_697 dL_law_698 dL_law_703 rfl e5 e4 e6 hkn (kk _ _ _ _ _ S')
set_option maxHeartbeats 4000000 in
set_option maxRecDepth 100000 in
theorem lc_room (C : Lw x b0 L9 xs9) {i T kp : Nat} {r : Rw} {qs : Nat → Rw} (hi : i + 6 ≤ L9) (hT : T ≤ 40000) (S : LwS σ T r kp qs) (hkn : k + 1 ≤ 601024 ∧ n + 6 ≤ 7293034) (kk : ∀ (σ' : xS) (τ' : xT) (r' : Rw) (kp' : Nat) (qs' : Nat → Rw), LwS σ' (T + 60) r' kp' qs' → Yw x b0 1969 (LB i) [] σ' τ' (k + 1) (n + 6) Z) : Yw x b0 706 (LB i) [] σ τ k n Z := by
  have S0 := S
  obtain ⟨hR, hRc, hM, hRM, hk, hOk, hOq⟩ := S
  have hOk0 := hOk
  obtain ⟨R, ns, nr, ne, t, I, hs, ht⟩ := hOk
  have htt : t + 200 ≤ 1000000 := by omega
  refine yw_aload_n C dL_law_706 rfl ?_
  refine yw_scr C (i := i) (q := 1) dL_law_707 dL_law_708 dL_law_710 dL_law_711 dL_law_712 rfl rfl (by omega) ?_
  refine yw_scr C (i := i) (q := 2) dL_law_713 dL_law_714 dL_law_716 dL_law_717 dL_law_718 rfl rfl (by omega) ?_
  refine yw_aload_n C dL_law_719 rfl ?_
  refine yw_callXw C (e_L_room σ τ hR hRc hk I (xs9 (i + 1)) (xs9 (i + 2))) dL_law_720 rfl gL_law_L_room rfl qL_room ⟨rfl, rfl⟩ ⟨Nat.le_of_ble_eq_true rfl, Nat.le_of_ble_eq_true rfl⟩ rfl (Nat.le_of_ble_eq_true rfl) hkn (fun v5 σ1 τ1 h1 => ?_)
  refine yw_istore C dL_law_723 (by decide) (Nat.le_of_ble_eq_true rfl) (L' := LV5 i v5) rfl ?_
  refine yw_aload_n C dL_law_725 rfl ?_
  have hM1 := (QL_same h1 166 (by decide)).trans hM
  have hRM1 := RecM_same (QL_same h1) hRM
  refine yw_scr C (i := i) (q := 1) dL_law_726 dL_law_727 dL_law_729 dL_law_730 dL_law_731 rfl rfl (by omega) ?_
  refine yw_scr C (i := i) (q := 2) dL_law_732 dL_law_733 dL_law_735 dL_law_736 dL_law_737 rfl rfl (by omega) ?_
  refine yw_callVi C (e_X9_room σ1 τ1 hM1 hRM1 hk I (xs9 (i + 1)) (xs9 (i + 2))) dL_law_738 rfl gL_law_X9_room rfl is_X9 ⟨rfl, qX9_room⟩ ⟨rfl, rfl⟩ ⟨Nat.le_of_ble_eq_true rfl, Nat.le_of_ble_eq_true rfl⟩ rfl (Nat.le_of_ble_eq_true rfl) hkn (fun v6 σ2 τ2 h2 => ?_)
  refine yw_istore C dL_law_741 (by decide) (Nat.le_of_ble_eq_true rfl) (L' := LV i v5 v6) rfl ?_
  obtain ⟨r', kp', qs', S', e5, e4, e6⟩ := LwS_both S0 h1 h2 (fun _ => ⟨hk, hOk0.mono (by omega), fun j hj => (hOq j hj).mono (by omega)⟩)
  exact tail_i C dL_law_743 dL_law_744 dL_law_747 dL_law_749 dL_law_754 dL_law_756 dL_law_759 dL_law_760 dL_law_761 dL_law_762 dL_law_764 dL_law_765 dL_law_766 dL_law_771 rfl e5 e4 e6 hkn (kk _ _ _ _ _ S')
set_option maxHeartbeats 4000000 in
set_option maxRecDepth 100000 in
theorem lc_addSensor (C : Lw x b0 L9 xs9) {i T kp : Nat} {r : Rw} {qs : Nat → Rw} (hi : i + 6 ≤ L9) (hT : T ≤ 40000) (S : LwS σ T r kp qs) (hkn : k + 1 ≤ 601024 ∧ n + 6 ≤ 7293034) (kk : ∀ (σ' : xS) (τ' : xT) (r' : Rw) (kp' : Nat) (qs' : Nat → Rw), LwS σ' (T + 60) r' kp' qs' → Yw x b0 1969 (LB i) [] σ' τ' (k + 1) (n + 6) Z) : Yw x b0 774 (LB i) [] σ τ k n Z := by
  have S0 := S
  obtain ⟨hR, hRc, hM, hRM, hk, hOk, hOq⟩ := S
  have hOk0 := hOk
  obtain ⟨R, ns, nr, ne, t, I, hs, ht⟩ := hOk
  have htt : t + 200 ≤ 1000000 := by omega
  refine yw_aload_n C dL_law_774 rfl ?_
  refine yw_scr C (i := i) (q := 1) dL_law_775 dL_law_776 dL_law_778 dL_law_779 dL_law_780 rfl rfl (by omega) ?_
  refine yw_scr C (i := i) (q := 2) dL_law_781 dL_law_782 dL_law_784 dL_law_785 dL_law_786 rfl rfl (by omega) ?_
  refine yw_scr C (i := i) (q := 3) dL_law_787 dL_law_788 dL_law_790 dL_law_791 dL_law_792 rfl rfl (by omega) ?_
  refine yw_scr C (i := i) (q := 4) dL_law_793 dL_law_794 dL_law_796 dL_law_797 dL_law_798 rfl rfl (by omega) ?_
  refine yw_scr C (i := i) (q := 5) dL_law_799 dL_law_800 dL_law_802 dL_law_803 dL_law_804 rfl rfl (by omega) ?_
  refine yw_aload_n C dL_law_805 rfl ?_
  refine yw_callXw C (e_L_addSensor σ τ hR hRc hk I (xs9 (i + 1)) (xs9 (i + 2)) (xs9 (i + 3)) (xs9 (i + 4)) (xs9 (i + 5))) dL_law_806 rfl gL_law_L_addSensor rfl qL_addSensor ⟨rfl, rfl⟩ ⟨Nat.le_of_ble_eq_true rfl, Nat.le_of_ble_eq_true rfl⟩ rfl (Nat.le_of_ble_eq_true rfl) hkn (fun v5 σ1 τ1 h1 => ?_)
  refine yw_istore C dL_law_809 (by decide) (Nat.le_of_ble_eq_true rfl) (L' := LV5 i v5) rfl ?_
  refine yw_aload_n C dL_law_811 rfl ?_
  have hM1 := (QL_same h1 166 (by decide)).trans hM
  have hRM1 := RecM_same (QL_same h1) hRM
  refine yw_scr C (i := i) (q := 1) dL_law_812 dL_law_813 dL_law_815 dL_law_816 dL_law_817 rfl rfl (by omega) ?_
  refine yw_scr C (i := i) (q := 2) dL_law_818 dL_law_819 dL_law_821 dL_law_822 dL_law_823 rfl rfl (by omega) ?_
  refine yw_scr C (i := i) (q := 3) dL_law_824 dL_law_825 dL_law_827 dL_law_828 dL_law_829 rfl rfl (by omega) ?_
  refine yw_scr C (i := i) (q := 4) dL_law_830 dL_law_831 dL_law_833 dL_law_834 dL_law_835 rfl rfl (by omega) ?_
  refine yw_scr C (i := i) (q := 5) dL_law_836 dL_law_837 dL_law_839 dL_law_840 dL_law_841 rfl rfl (by omega) ?_
  refine yw_callVi C (e_X9_addSensor σ1 τ1 hM1 hRM1 hk I (xs9 (i + 1)) (xs9 (i + 2)) (xs9 (i + 3)) (xs9 (i + 4)) (xs9 (i + 5))) dL_law_842 rfl gL_law_X9_addSensor rfl is_X9 ⟨rfl, qX9_addSensor⟩ ⟨rfl, rfl⟩ ⟨Nat.le_of_ble_eq_true rfl, Nat.le_of_ble_eq_true rfl⟩ rfl (Nat.le_of_ble_eq_true rfl) hkn (fun v6 σ2 τ2 h2 => ?_)
  refine yw_istore C dL_law_845 (by decide) (Nat.le_of_ble_eq_true rfl) (L' := LV i v5 v6) rfl ?_
  obtain ⟨r', kp', qs', S', e5, e4, e6⟩ := LwS_both S0 h1 h2 (fun h0 => ⟨kK_le hk, (ok_addSensor I hs htt (xs9 (i + 1)) (xs9 (i + 2)) (xs9 (i + 3)) (xs9 (i + 4)) (xs9 (i + 5)) h0).mono (by omega), okQ hOk0 hOq (by omega)⟩)
  exact tail_i C dL_law_847 dL_law_848 dL_law_851 dL_law_853 dL_law_858 dL_law_860 dL_law_863 dL_law_864 dL_law_865 dL_law_866 dL_law_868 dL_law_869 dL_law_870 dL_law_875 rfl e5 e4 e6 hkn (kk _ _ _ _ _ S')
set_option maxHeartbeats 4000000 in
set_option maxRecDepth 100000 in
theorem lc_setFault (C : Lw x b0 L9 xs9) {i T kp : Nat} {r : Rw} {qs : Nat → Rw} (hi : i + 6 ≤ L9) (hT : T ≤ 40000) (S : LwS σ T r kp qs) (hkn : k + 1 ≤ 601024 ∧ n + 6 ≤ 7293034) (kk : ∀ (σ' : xS) (τ' : xT) (r' : Rw) (kp' : Nat) (qs' : Nat → Rw), LwS σ' (T + 60) r' kp' qs' → Yw x b0 1969 (LB i) [] σ' τ' (k + 1) (n + 6) Z) : Yw x b0 878 (LB i) [] σ τ k n Z := by
  have S0 := S
  obtain ⟨hR, hRc, hM, hRM, hk, hOk, hOq⟩ := S
  have hOk0 := hOk
  obtain ⟨R, ns, nr, ne, t, I, hs, ht⟩ := hOk
  have htt : t + 200 ≤ 1000000 := by omega
  refine yw_aload_n C dL_law_878 rfl ?_
  refine yw_scr C (i := i) (q := 1) dL_law_879 dL_law_880 dL_law_882 dL_law_883 dL_law_884 rfl rfl (by omega) ?_
  refine yw_scr C (i := i) (q := 2) dL_law_885 dL_law_886 dL_law_888 dL_law_889 dL_law_890 rfl rfl (by omega) ?_
  refine yw_aload_n C dL_law_891 rfl ?_
  refine yw_callXw C (e_L_setFault σ τ hR hRc hk I (xs9 (i + 1)) (xs9 (i + 2))) dL_law_892 rfl gL_law_L_setFault rfl qL_setFault ⟨rfl, rfl⟩ ⟨Nat.le_of_ble_eq_true rfl, Nat.le_of_ble_eq_true rfl⟩ rfl (Nat.le_of_ble_eq_true rfl) hkn (fun v5 σ1 τ1 h1 => ?_)
  refine yw_istore C dL_law_895 (by decide) (Nat.le_of_ble_eq_true rfl) (L' := LV5 i v5) rfl ?_
  refine yw_aload_n C dL_law_897 rfl ?_
  have hM1 := (QL_same h1 166 (by decide)).trans hM
  have hRM1 := RecM_same (QL_same h1) hRM
  refine yw_scr C (i := i) (q := 1) dL_law_898 dL_law_899 dL_law_901 dL_law_902 dL_law_903 rfl rfl (by omega) ?_
  refine yw_scr C (i := i) (q := 2) dL_law_904 dL_law_905 dL_law_907 dL_law_908 dL_law_909 rfl rfl (by omega) ?_
  refine yw_callVi C (e_X9_setFault σ1 τ1 hM1 hRM1 hk I (xs9 (i + 1)) (xs9 (i + 2))) dL_law_910 rfl gL_law_X9_setFault rfl is_X9 ⟨rfl, qX9_setFault⟩ ⟨rfl, rfl⟩ ⟨Nat.le_of_ble_eq_true rfl, Nat.le_of_ble_eq_true rfl⟩ rfl (Nat.le_of_ble_eq_true rfl) hkn (fun v6 σ2 τ2 h2 => ?_)
  refine yw_istore C dL_law_913 (by decide) (Nat.le_of_ble_eq_true rfl) (L' := LV i v5 v6) rfl ?_
  obtain ⟨r', kp', qs', S', e5, e4, e6⟩ := LwS_both S0 h1 h2 (fun h0 => ⟨kK_le hk, (ok_setFault I hs htt (xs9 (i + 1)) (xs9 (i + 2)) h0).mono (by omega), okQ hOk0 hOq (by omega)⟩)
  exact tail_i C dL_law_915 dL_law_916 dL_law_919 dL_law_921 dL_law_926 dL_law_928 dL_law_931 dL_law_932 dL_law_933 dL_law_934 dL_law_936 dL_law_937 dL_law_938 dL_law_943 rfl e5 e4 e6 hkn (kk _ _ _ _ _ S')
set_option maxHeartbeats 4000000 in
set_option maxRecDepth 100000 in
theorem lc_sensor (C : Lw x b0 L9 xs9) {i T kp : Nat} {r : Rw} {qs : Nat → Rw} (hi : i + 6 ≤ L9) (hT : T ≤ 40000) (S : LwS σ T r kp qs) (hkn : k + 1 ≤ 601024 ∧ n + 6 ≤ 7293034) (kk : ∀ (σ' : xS) (τ' : xT) (r' : Rw) (kp' : Nat) (qs' : Nat → Rw), LwS σ' (T + 60) r' kp' qs' → Yw x b0 1969 (LB i) [] σ' τ' (k + 1) (n + 6) Z) : Yw x b0 946 (LB i) [] σ τ k n Z := by
  have S0 := S
  obtain ⟨hR, hRc, hM, hRM, hk, hOk, hOq⟩ := S
  have hOk0 := hOk
  obtain ⟨R, ns, nr, ne, t, I, hs, ht⟩ := hOk
  have htt : t + 200 ≤ 1000000 := by omega
  refine yw_aload_n C dL_law_946 rfl ?_
  refine yw_scr C (i := i) (q := 1) dL_law_947 dL_law_948 dL_law_950 dL_law_951 dL_law_952 rfl rfl (by omega) ?_
  refine yw_scr C (i := i) (q := 2) dL_law_953 dL_law_954 dL_law_956 dL_law_957 dL_law_958 rfl rfl (by omega) ?_
  refine yw_aload_n C dL_law_959 rfl ?_
  refine yw_callXw C (e_L_sensor σ τ hR hRc hk I (xs9 (i + 1)) (xs9 (i + 2))) dL_law_960 rfl gL_law_L_sensor rfl qL_sensor ⟨rfl, rfl⟩ ⟨Nat.le_of_ble_eq_true rfl, Nat.le_of_ble_eq_true rfl⟩ rfl (Nat.le_of_ble_eq_true rfl) hkn (fun v5 σ1 τ1 h1 => ?_)
  refine yw_istore C dL_law_963 (by decide) (Nat.le_of_ble_eq_true rfl) (L' := LV5 i v5) rfl ?_
  refine yw_aload_n C dL_law_965 rfl ?_
  have hM1 := (QL_same h1 166 (by decide)).trans hM
  have hRM1 := RecM_same (QL_same h1) hRM
  refine yw_scr C (i := i) (q := 1) dL_law_966 dL_law_967 dL_law_969 dL_law_970 dL_law_971 rfl rfl (by omega) ?_
  refine yw_scr C (i := i) (q := 2) dL_law_972 dL_law_973 dL_law_975 dL_law_976 dL_law_977 rfl rfl (by omega) ?_
  refine yw_callVi C (e_X9_sensor σ1 τ1 hM1 hRM1 hk I (xs9 (i + 1)) (xs9 (i + 2))) dL_law_978 rfl gL_law_X9_sensor rfl is_X9 ⟨rfl, qX9_sensor⟩ ⟨rfl, rfl⟩ ⟨Nat.le_of_ble_eq_true rfl, Nat.le_of_ble_eq_true rfl⟩ rfl (Nat.le_of_ble_eq_true rfl) hkn (fun v6 σ2 τ2 h2 => ?_)
  refine yw_istore C dL_law_981 (by decide) (Nat.le_of_ble_eq_true rfl) (L' := LV i v5 v6) rfl ?_
  obtain ⟨r', kp', qs', S', e5, e4, e6⟩ := LwS_both S0 h1 h2 (fun _ => ⟨hk, hOk0.mono (by omega), fun j hj => (hOq j hj).mono (by omega)⟩)
  exact tail_i C dL_law_983 dL_law_984 dL_law_987 dL_law_989 dL_law_994 dL_law_996 dL_law_999 dL_law_1000 dL_law_1001 dL_law_1002 dL_law_1004 dL_law_1005 dL_law_1006 dL_law_1011 rfl e5 e4 e6 hkn (kk _ _ _ _ _ S')
set_option maxHeartbeats 4000000 in
set_option maxRecDepth 100000 in
theorem lc_addRule (C : Lw x b0 L9 xs9) {i T kp : Nat} {r : Rw} {qs : Nat → Rw} (hi : i + 6 ≤ L9) (hT : T ≤ 40000) (S : LwS σ T r kp qs) (hkn : k + 1 ≤ 601024 ∧ n + 6 ≤ 7293034) (kk : ∀ (σ' : xS) (τ' : xT) (r' : Rw) (kp' : Nat) (qs' : Nat → Rw), LwS σ' (T + 60) r' kp' qs' → Yw x b0 1969 (LB i) [] σ' τ' (k + 1) (n + 6) Z) : Yw x b0 1014 (LB i) [] σ τ k n Z := by
  have S0 := S
  obtain ⟨hR, hRc, hM, hRM, hk, hOk, hOq⟩ := S
  have hOk0 := hOk
  obtain ⟨R, ns, nr, ne, t, I, hs, ht⟩ := hOk
  have htt : t + 200 ≤ 1000000 := by omega
  refine yw_aload_n C dL_law_1014 rfl ?_
  refine yw_scr C (i := i) (q := 1) dL_law_1015 dL_law_1016 dL_law_1018 dL_law_1019 dL_law_1020 rfl rfl (by omega) ?_
  refine yw_scr C (i := i) (q := 2) dL_law_1021 dL_law_1022 dL_law_1024 dL_law_1025 dL_law_1026 rfl rfl (by omega) ?_
  refine yw_scr C (i := i) (q := 3) dL_law_1027 dL_law_1028 dL_law_1030 dL_law_1031 dL_law_1032 rfl rfl (by omega) ?_
  refine yw_scr C (i := i) (q := 4) dL_law_1033 dL_law_1034 dL_law_1036 dL_law_1037 dL_law_1038 rfl rfl (by omega) ?_
  refine yw_aload_n C dL_law_1039 rfl ?_
  refine yw_callXw C (e_L_addRule σ τ hR hRc hk I (xs9 (i + 1)) (xs9 (i + 2)) (xs9 (i + 3)) (xs9 (i + 4))) dL_law_1040 rfl gL_law_L_addRule rfl qL_addRule ⟨rfl, rfl⟩ ⟨Nat.le_of_ble_eq_true rfl, Nat.le_of_ble_eq_true rfl⟩ rfl (Nat.le_of_ble_eq_true rfl) hkn (fun v5 σ1 τ1 h1 => ?_)
  refine yw_istore C dL_law_1043 (by decide) (Nat.le_of_ble_eq_true rfl) (L' := LV5 i v5) rfl ?_
  refine yw_aload_n C dL_law_1045 rfl ?_
  have hM1 := (QL_same h1 166 (by decide)).trans hM
  have hRM1 := RecM_same (QL_same h1) hRM
  refine yw_scr C (i := i) (q := 1) dL_law_1046 dL_law_1047 dL_law_1049 dL_law_1050 dL_law_1051 rfl rfl (by omega) ?_
  refine yw_scr C (i := i) (q := 2) dL_law_1052 dL_law_1053 dL_law_1055 dL_law_1056 dL_law_1057 rfl rfl (by omega) ?_
  refine yw_scr C (i := i) (q := 3) dL_law_1058 dL_law_1059 dL_law_1061 dL_law_1062 dL_law_1063 rfl rfl (by omega) ?_
  refine yw_scr C (i := i) (q := 4) dL_law_1064 dL_law_1065 dL_law_1067 dL_law_1068 dL_law_1069 rfl rfl (by omega) ?_
  refine yw_callVi C (e_X9_addRule σ1 τ1 hM1 hRM1 hk I (xs9 (i + 1)) (xs9 (i + 2)) (xs9 (i + 3)) (xs9 (i + 4))) dL_law_1070 rfl gL_law_X9_addRule rfl is_X9 ⟨rfl, qX9_addRule⟩ ⟨rfl, rfl⟩ ⟨Nat.le_of_ble_eq_true rfl, Nat.le_of_ble_eq_true rfl⟩ rfl (Nat.le_of_ble_eq_true rfl) hkn (fun v6 σ2 τ2 h2 => ?_)
  refine yw_istore C dL_law_1073 (by decide) (Nat.le_of_ble_eq_true rfl) (L' := LV i v5 v6) rfl ?_
  obtain ⟨r', kp', qs', S', e5, e4, e6⟩ := LwS_both S0 h1 h2 (fun h0 => ⟨kK_le hk, (ok_addRule I hs htt (xs9 (i + 1)) (xs9 (i + 2)) (xs9 (i + 3)) (xs9 (i + 4)) h0).mono (by omega), okQ hOk0 hOq (by omega)⟩)
  exact tail_i C dL_law_1075 dL_law_1076 dL_law_1079 dL_law_1081 dL_law_1086 dL_law_1088 dL_law_1091 dL_law_1092 dL_law_1093 dL_law_1094 dL_law_1096 dL_law_1097 dL_law_1098 dL_law_1103 rfl e5 e4 e6 hkn (kk _ _ _ _ _ S')
set_option maxHeartbeats 4000000 in
set_option maxRecDepth 100000 in
theorem lc_removeRule (C : Lw x b0 L9 xs9) {i T kp : Nat} {r : Rw} {qs : Nat → Rw} (hi : i + 6 ≤ L9) (hT : T ≤ 40000) (S : LwS σ T r kp qs) (hkn : k + 1 ≤ 601024 ∧ n + 6 ≤ 7293034) (kk : ∀ (σ' : xS) (τ' : xT) (r' : Rw) (kp' : Nat) (qs' : Nat → Rw), LwS σ' (T + 60) r' kp' qs' → Yw x b0 1969 (LB i) [] σ' τ' (k + 1) (n + 6) Z) : Yw x b0 1106 (LB i) [] σ τ k n Z := by
  have S0 := S
  obtain ⟨hR, hRc, hM, hRM, hk, hOk, hOq⟩ := S
  have hOk0 := hOk
  obtain ⟨R, ns, nr, ne, t, I, hs, ht⟩ := hOk
  have htt : t + 200 ≤ 1000000 := by omega
  refine yw_aload_n C dL_law_1106 rfl ?_
  refine yw_scr C (i := i) (q := 1) dL_law_1107 dL_law_1108 dL_law_1110 dL_law_1111 dL_law_1112 rfl rfl (by omega) ?_
  refine yw_aload_n C dL_law_1113 rfl ?_
  refine yw_callXw C (e_L_removeRule σ τ hR hRc hk I (xs9 (i + 1))) dL_law_1114 rfl gL_law_L_removeRule rfl qL_removeRule ⟨rfl, rfl⟩ ⟨Nat.le_of_ble_eq_true rfl, Nat.le_of_ble_eq_true rfl⟩ rfl (Nat.le_of_ble_eq_true rfl) hkn (fun v5 σ1 τ1 h1 => ?_)
  refine yw_istore C dL_law_1117 (by decide) (Nat.le_of_ble_eq_true rfl) (L' := LV5 i v5) rfl ?_
  refine yw_aload_n C dL_law_1119 rfl ?_
  have hM1 := (QL_same h1 166 (by decide)).trans hM
  have hRM1 := RecM_same (QL_same h1) hRM
  refine yw_scr C (i := i) (q := 1) dL_law_1120 dL_law_1121 dL_law_1123 dL_law_1124 dL_law_1125 rfl rfl (by omega) ?_
  refine yw_callVi C (e_X9_removeRule σ1 τ1 hM1 hRM1 hk I (xs9 (i + 1))) dL_law_1126 rfl gL_law_X9_removeRule rfl is_X9 ⟨rfl, qX9_removeRule⟩ ⟨rfl, rfl⟩ ⟨Nat.le_of_ble_eq_true rfl, Nat.le_of_ble_eq_true rfl⟩ rfl (Nat.le_of_ble_eq_true rfl) hkn (fun v6 σ2 τ2 h2 => ?_)
  refine yw_istore C dL_law_1129 (by decide) (Nat.le_of_ble_eq_true rfl) (L' := LV i v5 v6) rfl ?_
  obtain ⟨r', kp', qs', S', e5, e4, e6⟩ := LwS_both S0 h1 h2 (fun h0 => ⟨kK_le hk, (ok_removeRule I hs htt (xs9 (i + 1)) h0).mono (by omega), okQ hOk0 hOq (by omega)⟩)
  exact tail_i C dL_law_1131 dL_law_1132 dL_law_1135 dL_law_1137 dL_law_1142 dL_law_1144 dL_law_1147 dL_law_1148 dL_law_1149 dL_law_1150 dL_law_1152 dL_law_1153 dL_law_1154 dL_law_1159 rfl e5 e4 e6 hkn (kk _ _ _ _ _ S')
set_option maxHeartbeats 4000000 in
set_option maxRecDepth 100000 in
theorem lc_addEvent (C : Lw x b0 L9 xs9) {i T kp : Nat} {r : Rw} {qs : Nat → Rw} (hi : i + 6 ≤ L9) (hT : T ≤ 40000) (S : LwS σ T r kp qs) (hkn : k + 1 ≤ 601024 ∧ n + 6 ≤ 7293034) (kk : ∀ (σ' : xS) (τ' : xT) (r' : Rw) (kp' : Nat) (qs' : Nat → Rw), LwS σ' (T + 60) r' kp' qs' → Yw x b0 1969 (LB i) [] σ' τ' (k + 1) (n + 6) Z) : Yw x b0 1175 (LB i) [] σ τ k n Z := by
  have S0 := S
  obtain ⟨hR, hRc, hM, hRM, hk, hOk, hOq⟩ := S
  have hOk0 := hOk
  obtain ⟨R, ns, nr, ne, t, I, hs, ht⟩ := hOk
  have htt : t + 200 ≤ 1000000 := by omega
  refine yw_aload_n C dL_law_1175 rfl ?_
  refine yw_scr C (i := i) (q := 1) dL_law_1176 dL_law_1177 dL_law_1179 dL_law_1180 dL_law_1181 rfl rfl (by omega) ?_
  refine yw_scr C (i := i) (q := 2) dL_law_1182 dL_law_1183 dL_law_1185 dL_law_1186 dL_law_1187 rfl rfl (by omega) ?_
  refine yw_scr C (i := i) (q := 3) dL_law_1188 dL_law_1189 dL_law_1191 dL_law_1192 dL_law_1193 rfl rfl (by omega) ?_
  refine yw_scr C (i := i) (q := 4) dL_law_1194 dL_law_1195 dL_law_1197 dL_law_1198 dL_law_1199 rfl rfl (by omega) ?_
  refine yw_aload_n C dL_law_1200 rfl ?_
  refine yw_callXw C (e_L_addEvent σ τ hR hRc hk I (xs9 (i + 1)) (xs9 (i + 2)) (xs9 (i + 3)) (xs9 (i + 4))) dL_law_1201 rfl gL_law_L_addEvent rfl qL_addEvent ⟨rfl, rfl⟩ ⟨Nat.le_of_ble_eq_true rfl, Nat.le_of_ble_eq_true rfl⟩ rfl (Nat.le_of_ble_eq_true rfl) hkn (fun v5 σ1 τ1 h1 => ?_)
  refine yw_istore C dL_law_1204 (by decide) (Nat.le_of_ble_eq_true rfl) (L' := LV5 i v5) rfl ?_
  refine yw_aload_n C dL_law_1206 rfl ?_
  have hM1 := (QL_same h1 166 (by decide)).trans hM
  have hRM1 := RecM_same (QL_same h1) hRM
  refine yw_scr C (i := i) (q := 1) dL_law_1207 dL_law_1208 dL_law_1210 dL_law_1211 dL_law_1212 rfl rfl (by omega) ?_
  refine yw_scr C (i := i) (q := 2) dL_law_1213 dL_law_1214 dL_law_1216 dL_law_1217 dL_law_1218 rfl rfl (by omega) ?_
  refine yw_scr C (i := i) (q := 3) dL_law_1219 dL_law_1220 dL_law_1222 dL_law_1223 dL_law_1224 rfl rfl (by omega) ?_
  refine yw_scr C (i := i) (q := 4) dL_law_1225 dL_law_1226 dL_law_1228 dL_law_1229 dL_law_1230 rfl rfl (by omega) ?_
  refine yw_callVi C (e_X9_addEvent σ1 τ1 hM1 hRM1 hk I (xs9 (i + 1)) (xs9 (i + 2)) (xs9 (i + 3)) (xs9 (i + 4))) dL_law_1231 rfl gL_law_X9_addEvent rfl is_X9 ⟨rfl, qX9_addEvent⟩ ⟨rfl, rfl⟩ ⟨Nat.le_of_ble_eq_true rfl, Nat.le_of_ble_eq_true rfl⟩ rfl (Nat.le_of_ble_eq_true rfl) hkn (fun v6 σ2 τ2 h2 => ?_)
  refine yw_istore C dL_law_1234 (by decide) (Nat.le_of_ble_eq_true rfl) (L' := LV i v5 v6) rfl ?_
  obtain ⟨r', kp', qs', S', e5, e4, e6⟩ := LwS_both S0 h1 h2 (fun h0 => ⟨kK_le hk, (ok_addEvent I hs htt (xs9 (i + 1)) (xs9 (i + 2)) (xs9 (i + 3)) (xs9 (i + 4)) h0).mono (by omega), okQ hOk0 hOq (by omega)⟩)
  exact tail_i C dL_law_1236 dL_law_1237 dL_law_1240 dL_law_1242 dL_law_1247 dL_law_1249 dL_law_1252 dL_law_1253 dL_law_1254 dL_law_1255 dL_law_1257 dL_law_1258 dL_law_1259 dL_law_1264 rfl e5 e4 e6 hkn (kk _ _ _ _ _ S')
set_option maxHeartbeats 4000000 in
set_option maxRecDepth 100000 in
theorem lc_event (C : Lw x b0 L9 xs9) {i T kp : Nat} {r : Rw} {qs : Nat → Rw} (hi : i + 6 ≤ L9) (hT : T ≤ 40000) (S : LwS σ T r kp qs) (hkn : k + 1 ≤ 601024 ∧ n + 6 ≤ 7293034) (kk : ∀ (σ' : xS) (τ' : xT) (r' : Rw) (kp' : Nat) (qs' : Nat → Rw), LwS σ' (T + 60) r' kp' qs' → Yw x b0 1969 (LB i) [] σ' τ' (k + 1) (n + 6) Z) : Yw x b0 1267 (LB i) [] σ τ k n Z := by
  have S0 := S
  obtain ⟨hR, hRc, hM, hRM, hk, hOk, hOq⟩ := S
  have hOk0 := hOk
  obtain ⟨R, ns, nr, ne, t, I, hs, ht⟩ := hOk
  have htt : t + 200 ≤ 1000000 := by omega
  refine yw_aload_n C dL_law_1267 rfl ?_
  refine yw_scr C (i := i) (q := 1) dL_law_1268 dL_law_1269 dL_law_1271 dL_law_1272 dL_law_1273 rfl rfl (by omega) ?_
  refine yw_scr C (i := i) (q := 2) dL_law_1274 dL_law_1275 dL_law_1277 dL_law_1278 dL_law_1279 rfl rfl (by omega) ?_
  refine yw_aload_n C dL_law_1280 rfl ?_
  refine yw_callXw C (e_L_event σ τ hR hRc hk I (xs9 (i + 1)) (xs9 (i + 2))) dL_law_1281 rfl gL_law_L_event rfl qL_event ⟨rfl, rfl⟩ ⟨Nat.le_of_ble_eq_true rfl, Nat.le_of_ble_eq_true rfl⟩ rfl (Nat.le_of_ble_eq_true rfl) hkn (fun v5 σ1 τ1 h1 => ?_)
  refine yw_istore C dL_law_1284 (by decide) (Nat.le_of_ble_eq_true rfl) (L' := LV5 i v5) rfl ?_
  refine yw_aload_n C dL_law_1286 rfl ?_
  have hM1 := (QL_same h1 166 (by decide)).trans hM
  have hRM1 := RecM_same (QL_same h1) hRM
  refine yw_scr C (i := i) (q := 1) dL_law_1287 dL_law_1288 dL_law_1290 dL_law_1291 dL_law_1292 rfl rfl (by omega) ?_
  refine yw_scr C (i := i) (q := 2) dL_law_1293 dL_law_1294 dL_law_1296 dL_law_1297 dL_law_1298 rfl rfl (by omega) ?_
  refine yw_callVi C (e_X9_event σ1 τ1 hM1 hRM1 hk I (xs9 (i + 1)) (xs9 (i + 2))) dL_law_1299 rfl gL_law_X9_event rfl is_X9 ⟨rfl, qX9_event⟩ ⟨rfl, rfl⟩ ⟨Nat.le_of_ble_eq_true rfl, Nat.le_of_ble_eq_true rfl⟩ rfl (Nat.le_of_ble_eq_true rfl) hkn (fun v6 σ2 τ2 h2 => ?_)
  refine yw_istore C dL_law_1302 (by decide) (Nat.le_of_ble_eq_true rfl) (L' := LV i v5 v6) rfl ?_
  obtain ⟨r', kp', qs', S', e5, e4, e6⟩ := LwS_both S0 h1 h2 (fun _ => ⟨hk, hOk0.mono (by omega), fun j hj => (hOq j hj).mono (by omega)⟩)
  exact tail_i C dL_law_1304 dL_law_1305 dL_law_1308 dL_law_1310 dL_law_1315 dL_law_1317 dL_law_1320 dL_law_1321 dL_law_1322 dL_law_1323 dL_law_1325 dL_law_1326 dL_law_1327 dL_law_1332 rfl e5 e4 e6 hkn (kk _ _ _ _ _ S')
set_option maxHeartbeats 4000000 in
set_option maxRecDepth 100000 in
theorem lc_mute (C : Lw x b0 L9 xs9) {i T kp : Nat} {r : Rw} {qs : Nat → Rw} (hi : i + 6 ≤ L9) (hT : T ≤ 40000) (S : LwS σ T r kp qs) (hkn : k + 1 ≤ 601024 ∧ n + 6 ≤ 7293034) (kk : ∀ (σ' : xS) (τ' : xT) (r' : Rw) (kp' : Nat) (qs' : Nat → Rw), LwS σ' (T + 60) r' kp' qs' → Yw x b0 1969 (LB i) [] σ' τ' (k + 1) (n + 6) Z) : Yw x b0 1335 (LB i) [] σ τ k n Z := by
  have S0 := S
  obtain ⟨hR, hRc, hM, hRM, hk, hOk, hOq⟩ := S
  have hOk0 := hOk
  obtain ⟨R, ns, nr, ne, t, I, hs, ht⟩ := hOk
  have htt : t + 200 ≤ 1000000 := by omega
  refine yw_aload_n C dL_law_1335 rfl ?_
  refine yw_scr C (i := i) (q := 1) dL_law_1336 dL_law_1337 dL_law_1339 dL_law_1340 dL_law_1341 rfl rfl (by omega) ?_
  refine yw_scr C (i := i) (q := 2) dL_law_1342 dL_law_1343 dL_law_1345 dL_law_1346 dL_law_1347 rfl rfl (by omega) ?_
  refine yw_aload_n C dL_law_1348 rfl ?_
  refine yw_callXw C (e_L_mute σ τ hR hRc hk I (xs9 (i + 1)) (xs9 (i + 2))) dL_law_1349 rfl gL_law_L_mute rfl qL_mute ⟨rfl, rfl⟩ ⟨Nat.le_of_ble_eq_true rfl, Nat.le_of_ble_eq_true rfl⟩ rfl (Nat.le_of_ble_eq_true rfl) hkn (fun v5 σ1 τ1 h1 => ?_)
  refine yw_istore C dL_law_1352 (by decide) (Nat.le_of_ble_eq_true rfl) (L' := LV5 i v5) rfl ?_
  refine yw_aload_n C dL_law_1354 rfl ?_
  have hM1 := (QL_same h1 166 (by decide)).trans hM
  have hRM1 := RecM_same (QL_same h1) hRM
  refine yw_scr C (i := i) (q := 1) dL_law_1355 dL_law_1356 dL_law_1358 dL_law_1359 dL_law_1360 rfl rfl (by omega) ?_
  refine yw_scr C (i := i) (q := 2) dL_law_1361 dL_law_1362 dL_law_1364 dL_law_1365 dL_law_1366 rfl rfl (by omega) ?_
  refine yw_callVi C (e_X9_mute σ1 τ1 hM1 hRM1 hk I (xs9 (i + 1)) (xs9 (i + 2))) dL_law_1367 rfl gL_law_X9_mute rfl is_X9 ⟨rfl, qX9_mute⟩ ⟨rfl, rfl⟩ ⟨Nat.le_of_ble_eq_true rfl, Nat.le_of_ble_eq_true rfl⟩ rfl (Nat.le_of_ble_eq_true rfl) hkn (fun v6 σ2 τ2 h2 => ?_)
  refine yw_istore C dL_law_1370 (by decide) (Nat.le_of_ble_eq_true rfl) (L' := LV i v5 v6) rfl ?_
  obtain ⟨r', kp', qs', S', e5, e4, e6⟩ := LwS_both S0 h1 h2 (fun h0 => ⟨kK_le hk, (ok_mute I hs htt (xs9 (i + 1)) (xs9 (i + 2)) h0).mono (by omega), okQ hOk0 hOq (by omega)⟩)
  exact tail_i C dL_law_1372 dL_law_1373 dL_law_1376 dL_law_1378 dL_law_1383 dL_law_1385 dL_law_1388 dL_law_1389 dL_law_1390 dL_law_1391 dL_law_1393 dL_law_1394 dL_law_1395 dL_law_1400 rfl e5 e4 e6 hkn (kk _ _ _ _ _ S')
set_option maxHeartbeats 4000000 in
set_option maxRecDepth 100000 in
theorem lc_pass (C : Lw x b0 L9 xs9) {i T kp : Nat} {r : Rw} {qs : Nat → Rw} (hi : i + 6 ≤ L9) (hT : T ≤ 40000) (S : LwS σ T r kp qs) (hkn : k + 1 ≤ 601024 ∧ n + 6 ≤ 7293034) (kk : ∀ (σ' : xS) (τ' : xT) (r' : Rw) (kp' : Nat) (qs' : Nat → Rw), LwS σ' (T + 60) r' kp' qs' → Yw x b0 1969 (LB i) [] σ' τ' (k + 1) (n + 6) Z) : Yw x b0 1403 (LB i) [] σ τ k n Z := by
  have S0 := S
  obtain ⟨hR, hRc, hM, hRM, hk, hOk, hOq⟩ := S
  have hOk0 := hOk
  obtain ⟨R, ns, nr, ne, t, I, hs, ht⟩ := hOk
  have htt : t + 200 ≤ 1000000 := by omega
  refine yw_aload_n C dL_law_1403 rfl ?_
  refine yw_scr C (i := i) (q := 1) dL_law_1404 dL_law_1405 dL_law_1407 dL_law_1408 dL_law_1409 rfl rfl (by omega) ?_
  refine yw_aload_n C dL_law_1410 rfl ?_
  refine yw_callXw C (e_L_pass σ τ hR hRc hk I hs htt (xs9 (i + 1))) dL_law_1411 rfl gL_law_L_pass rfl qL_pass ⟨rfl, rfl⟩ ⟨Nat.le_of_ble_eq_true rfl, Nat.le_of_ble_eq_true rfl⟩ rfl (Nat.le_of_ble_eq_true rfl) hkn (fun v5 σ1 τ1 h1 => ?_)
  refine yw_istore C dL_law_1414 (by decide) (Nat.le_of_ble_eq_true rfl) (L' := LV5 i v5) rfl ?_
  refine yw_aload_n C dL_law_1416 rfl ?_
  have hM1 := (QL_same h1 166 (by decide)).trans hM
  have hRM1 := RecM_same (QL_same h1) hRM
  refine yw_scr C (i := i) (q := 1) dL_law_1417 dL_law_1418 dL_law_1420 dL_law_1421 dL_law_1422 rfl rfl (by omega) ?_
  refine yw_callVi C (e_X9_pass σ1 τ1 hM1 hRM1 hk I hs htt (xs9 (i + 1))) dL_law_1423 rfl gL_law_X9_pass rfl is_X9 ⟨rfl, qX9_pass⟩ ⟨rfl, rfl⟩ ⟨Nat.le_of_ble_eq_true rfl, Nat.le_of_ble_eq_true rfl⟩ rfl (Nat.le_of_ble_eq_true rfl) hkn (fun v6 σ2 τ2 h2 => ?_)
  refine yw_istore C dL_law_1426 (by decide) (Nat.le_of_ble_eq_true rfl) (L' := LV i v5 v6) rfl ?_
  obtain ⟨r', kp', qs', S', e5, e4, e6⟩ := LwS_both S0 h1 h2 (fun h0 => ⟨kK_le hk, (ok_pass I hs htt (xs9 (i + 1)) h0).mono (by omega), okQ hOk0 hOq (by omega)⟩)
  exact tail_i C dL_law_1428 dL_law_1429 dL_law_1432 dL_law_1434 dL_law_1439 dL_law_1441 dL_law_1444 dL_law_1445 dL_law_1446 dL_law_1447 dL_law_1449 dL_law_1450 dL_law_1451 dL_law_1456 rfl e5 e4 e6 hkn (kk _ _ _ _ _ S')
set_option maxHeartbeats 4000000 in
set_option maxRecDepth 100000 in
theorem lc_told (C : Lw x b0 L9 xs9) {i T kp : Nat} {r : Rw} {qs : Nat → Rw} (hi : i + 6 ≤ L9) (hT : T ≤ 40000) (S : LwS σ T r kp qs) (hkn : k + 1 ≤ 601024 ∧ n + 6 ≤ 7293034) (kk : ∀ (σ' : xS) (τ' : xT) (r' : Rw) (kp' : Nat) (qs' : Nat → Rw), LwS σ' (T + 60) r' kp' qs' → Yw x b0 1969 (LB i) [] σ' τ' (k + 1) (n + 6) Z) : Yw x b0 1459 (LB i) [] σ τ k n Z := by
  have S0 := S
  obtain ⟨hR, hRc, hM, hRM, hk, hOk, hOq⟩ := S
  have hOk0 := hOk
  obtain ⟨R, ns, nr, ne, t, I, hs, ht⟩ := hOk
  have htt : t + 200 ≤ 1000000 := by omega
  refine yw_aload_n C dL_law_1459 rfl ?_
  refine yw_scr C (i := i) (q := 1) dL_law_1460 dL_law_1461 dL_law_1463 dL_law_1464 dL_law_1465 rfl rfl (by omega) ?_
  refine yw_aload_n C dL_law_1466 rfl ?_
  refine yw_callXw C (e_L_told σ τ hR hRc hk I (xs9 (i + 1))) dL_law_1467 rfl gL_law_L_told rfl qL_told ⟨rfl, rfl⟩ ⟨Nat.le_of_ble_eq_true rfl, Nat.le_of_ble_eq_true rfl⟩ rfl (Nat.le_of_ble_eq_true rfl) hkn (fun v5 σ1 τ1 h1 => ?_)
  refine yw_istore C dL_law_1470 (by decide) (Nat.le_of_ble_eq_true rfl) (L' := LV5 i v5) rfl ?_
  refine yw_aload_n C dL_law_1472 rfl ?_
  have hM1 := (QL_same h1 166 (by decide)).trans hM
  have hRM1 := RecM_same (QL_same h1) hRM
  refine yw_scr C (i := i) (q := 1) dL_law_1473 dL_law_1474 dL_law_1476 dL_law_1477 dL_law_1478 rfl rfl (by omega) ?_
  refine yw_callVi C (e_X9_told σ1 τ1 hM1 hRM1 hk I (xs9 (i + 1))) dL_law_1479 rfl gL_law_X9_told rfl is_X9 ⟨rfl, qX9_told⟩ ⟨rfl, rfl⟩ ⟨Nat.le_of_ble_eq_true rfl, Nat.le_of_ble_eq_true rfl⟩ rfl (Nat.le_of_ble_eq_true rfl) hkn (fun v6 σ2 τ2 h2 => ?_)
  refine yw_istore C dL_law_1482 (by decide) (Nat.le_of_ble_eq_true rfl) (L' := LV i v5 v6) rfl ?_
  obtain ⟨r', kp', qs', S', e5, e4, e6⟩ := LwS_both S0 h1 h2 (fun _ => ⟨hk, hOk0.mono (by omega), fun j hj => (hOq j hj).mono (by omega)⟩)
  exact tail_i C dL_law_1484 dL_law_1485 dL_law_1488 dL_law_1490 dL_law_1495 dL_law_1497 dL_law_1500 dL_law_1501 dL_law_1502 dL_law_1503 dL_law_1505 dL_law_1506 dL_law_1507 dL_law_1512 rfl e5 e4 e6 hkn (kk _ _ _ _ _ S')
set_option maxHeartbeats 4000000 in
set_option maxRecDepth 100000 in
theorem lc_alarmIn (C : Lw x b0 L9 xs9) {i T kp : Nat} {r : Rw} {qs : Nat → Rw} (hi : i + 6 ≤ L9) (hT : T ≤ 40000) (S : LwS σ T r kp qs) (hkn : k + 1 ≤ 601024 ∧ n + 6 ≤ 7293034) (kk : ∀ (σ' : xS) (τ' : xT) (r' : Rw) (kp' : Nat) (qs' : Nat → Rw), LwS σ' (T + 60) r' kp' qs' → Yw x b0 1969 (LB i) [] σ' τ' (k + 1) (n + 6) Z) : Yw x b0 1515 (LB i) [] σ τ k n Z := by
  have S0 := S
  obtain ⟨hR, hRc, hM, hRM, hk, hOk, hOq⟩ := S
  have hOk0 := hOk
  obtain ⟨R, ns, nr, ne, t, I, hs, ht⟩ := hOk
  have htt : t + 200 ≤ 1000000 := by omega
  refine yw_aload_n C dL_law_1515 rfl ?_
  refine yw_scr C (i := i) (q := 1) dL_law_1516 dL_law_1517 dL_law_1519 dL_law_1520 dL_law_1521 rfl rfl (by omega) ?_
  refine yw_scr C (i := i) (q := 2) dL_law_1522 dL_law_1523 dL_law_1525 dL_law_1526 dL_law_1527 rfl rfl (by omega) ?_
  refine yw_aload_n C dL_law_1528 rfl ?_
  refine yw_callXw C (e_L_alarmIn σ τ hR hRc hk I hs htt (xs9 (i + 1)) (xs9 (i + 2))) dL_law_1529 rfl gL_law_L_alarmIn rfl qL_alarmIn ⟨rfl, rfl⟩ ⟨Nat.le_of_ble_eq_true rfl, Nat.le_of_ble_eq_true rfl⟩ rfl (Nat.le_of_ble_eq_true rfl) hkn (fun v5 σ1 τ1 h1 => ?_)
  refine yw_istore C dL_law_1532 (by decide) (Nat.le_of_ble_eq_true rfl) (L' := LV5 i v5) rfl ?_
  refine yw_aload_n C dL_law_1534 rfl ?_
  have hM1 := (QL_same h1 166 (by decide)).trans hM
  have hRM1 := RecM_same (QL_same h1) hRM
  refine yw_scr C (i := i) (q := 1) dL_law_1535 dL_law_1536 dL_law_1538 dL_law_1539 dL_law_1540 rfl rfl (by omega) ?_
  refine yw_scr C (i := i) (q := 2) dL_law_1541 dL_law_1542 dL_law_1544 dL_law_1545 dL_law_1546 rfl rfl (by omega) ?_
  refine yw_callVi C (e_X9_alarmIn σ1 τ1 hM1 hRM1 hk I hs htt (xs9 (i + 1)) (xs9 (i + 2))) dL_law_1547 rfl gL_law_X9_alarmIn rfl is_X9 ⟨rfl, qX9_alarmIn⟩ ⟨rfl, rfl⟩ ⟨Nat.le_of_ble_eq_true rfl, Nat.le_of_ble_eq_true rfl⟩ rfl (Nat.le_of_ble_eq_true rfl) hkn (fun v6 σ2 τ2 h2 => ?_)
  refine yw_istore C dL_law_1550 (by decide) (Nat.le_of_ble_eq_true rfl) (L' := LV i v5 v6) rfl ?_
  obtain ⟨r', kp', qs', S', e5, e4, e6⟩ := LwS_both S0 h1 h2 (fun _ => ⟨hk, hOk0.mono (by omega), fun j hj => (hOq j hj).mono (by omega)⟩)
  exact tail_i C dL_law_1552 dL_law_1553 dL_law_1556 dL_law_1558 dL_law_1563 dL_law_1565 dL_law_1568 dL_law_1569 dL_law_1570 dL_law_1571 dL_law_1573 dL_law_1574 dL_law_1575 dL_law_1580 rfl e5 e4 e6 hkn (kk _ _ _ _ _ S')
set_option maxHeartbeats 4000000 in
set_option maxRecDepth 100000 in
theorem lc_smokeAfter (C : Lw x b0 L9 xs9) {i T kp : Nat} {r : Rw} {qs : Nat → Rw} (hi : i + 6 ≤ L9) (hT : T ≤ 40000) (S : LwS σ T r kp qs) (hkn : k + 1 ≤ 601024 ∧ n + 6 ≤ 7293034) (kk : ∀ (σ' : xS) (τ' : xT) (r' : Rw) (kp' : Nat) (qs' : Nat → Rw), LwS σ' (T + 60) r' kp' qs' → Yw x b0 1969 (LB i) [] σ' τ' (k + 1) (n + 6) Z) : Yw x b0 1583 (LB i) [] σ τ k n Z := by
  have S0 := S
  obtain ⟨hR, hRc, hM, hRM, hk, hOk, hOq⟩ := S
  have hOk0 := hOk
  obtain ⟨R, ns, nr, ne, t, I, hs, ht⟩ := hOk
  have htt : t + 200 ≤ 1000000 := by omega
  refine yw_aload_n C dL_law_1583 rfl ?_
  refine yw_scr C (i := i) (q := 1) dL_law_1584 dL_law_1585 dL_law_1587 dL_law_1588 dL_law_1589 rfl rfl (by omega) ?_
  refine yw_scr C (i := i) (q := 2) dL_law_1590 dL_law_1591 dL_law_1593 dL_law_1594 dL_law_1595 rfl rfl (by omega) ?_
  refine yw_aload_n C dL_law_1596 rfl ?_
  refine yw_callXw C (e_L_smokeAfter σ τ hR hRc hk I hs htt (xs9 (i + 1)) (xs9 (i + 2))) dL_law_1597 rfl gL_law_L_smokeAfter rfl qL_smokeAfter ⟨rfl, rfl⟩ ⟨Nat.le_of_ble_eq_true rfl, Nat.le_of_ble_eq_true rfl⟩ rfl (Nat.le_of_ble_eq_true rfl) hkn (fun v5 σ1 τ1 h1 => ?_)
  refine yw_istore C dL_law_1600 (by decide) (Nat.le_of_ble_eq_true rfl) (L' := LV5 i v5) rfl ?_
  refine yw_aload_n C dL_law_1602 rfl ?_
  have hM1 := (QL_same h1 166 (by decide)).trans hM
  have hRM1 := RecM_same (QL_same h1) hRM
  refine yw_scr C (i := i) (q := 1) dL_law_1603 dL_law_1604 dL_law_1606 dL_law_1607 dL_law_1608 rfl rfl (by omega) ?_
  refine yw_scr C (i := i) (q := 2) dL_law_1609 dL_law_1610 dL_law_1612 dL_law_1613 dL_law_1614 rfl rfl (by omega) ?_
  refine yw_callVi C (e_X9_smokeAfter σ1 τ1 hM1 hRM1 hk I hs htt (xs9 (i + 1)) (xs9 (i + 2))) dL_law_1615 rfl gL_law_X9_smokeAfter rfl is_X9 ⟨rfl, qX9_smokeAfter⟩ ⟨rfl, rfl⟩ ⟨Nat.le_of_ble_eq_true rfl, Nat.le_of_ble_eq_true rfl⟩ rfl (Nat.le_of_ble_eq_true rfl) hkn (fun v6 σ2 τ2 h2 => ?_)
  refine yw_istore C dL_law_1618 (by decide) (Nat.le_of_ble_eq_true rfl) (L' := LV i v5 v6) rfl ?_
  obtain ⟨r', kp', qs', S', e5, e4, e6⟩ := LwS_both S0 h1 h2 (fun _ => ⟨hk, hOk0.mono (by omega), fun j hj => (hOq j hj).mono (by omega)⟩)
  exact tail_i C dL_law_1620 dL_law_1621 dL_law_1624 dL_law_1626 dL_law_1631 dL_law_1633 dL_law_1636 dL_law_1637 dL_law_1638 dL_law_1639 dL_law_1641 dL_law_1642 dL_law_1643 dL_law_1648 rfl e5 e4 e6 hkn (kk _ _ _ _ _ S')
set_option maxHeartbeats 4000000 in
set_option maxRecDepth 100000 in
theorem lc_peak (C : Lw x b0 L9 xs9) {i T kp : Nat} {r : Rw} {qs : Nat → Rw} (hi : i + 6 ≤ L9) (hT : T ≤ 40000) (S : LwS σ T r kp qs) (hkn : k + 1 ≤ 601024 ∧ n + 6 ≤ 7293034) (kk : ∀ (σ' : xS) (τ' : xT) (r' : Rw) (kp' : Nat) (qs' : Nat → Rw), LwS σ' (T + 60) r' kp' qs' → Yw x b0 1969 (LB i) [] σ' τ' (k + 1) (n + 6) Z) : Yw x b0 1651 (LB i) [] σ τ k n Z := by
  have S0 := S
  obtain ⟨hR, hRc, hM, hRM, hk, hOk, hOq⟩ := S
  have hOk0 := hOk
  obtain ⟨R, ns, nr, ne, t, I, hs, ht⟩ := hOk
  have htt : t + 200 ≤ 1000000 := by omega
  refine yw_aload_n C dL_law_1651 rfl ?_
  refine yw_scr C (i := i) (q := 1) dL_law_1652 dL_law_1653 dL_law_1655 dL_law_1656 dL_law_1657 rfl rfl (by omega) ?_
  refine yw_scr C (i := i) (q := 2) dL_law_1658 dL_law_1659 dL_law_1661 dL_law_1662 dL_law_1663 rfl rfl (by omega) ?_
  refine yw_scr C (i := i) (q := 3) dL_law_1664 dL_law_1665 dL_law_1667 dL_law_1668 dL_law_1669 rfl rfl (by omega) ?_
  refine yw_aload_n C dL_law_1670 rfl ?_
  refine yw_callXw C (e_L_peak σ τ hR hRc hk I hs htt (xs9 (i + 1)) (xs9 (i + 2)) (xs9 (i + 3))) dL_law_1671 rfl gL_law_L_peak rfl qL_peak ⟨rfl, rfl⟩ ⟨Nat.le_of_ble_eq_true rfl, Nat.le_of_ble_eq_true rfl⟩ rfl (Nat.le_of_ble_eq_true rfl) hkn (fun v5 σ1 τ1 h1 => ?_)
  refine yw_istore C dL_law_1674 (by decide) (Nat.le_of_ble_eq_true rfl) (L' := LV5 i v5) rfl ?_
  refine yw_aload_n C dL_law_1676 rfl ?_
  have hM1 := (QL_same h1 166 (by decide)).trans hM
  have hRM1 := RecM_same (QL_same h1) hRM
  refine yw_scr C (i := i) (q := 1) dL_law_1677 dL_law_1678 dL_law_1680 dL_law_1681 dL_law_1682 rfl rfl (by omega) ?_
  refine yw_scr C (i := i) (q := 2) dL_law_1683 dL_law_1684 dL_law_1686 dL_law_1687 dL_law_1688 rfl rfl (by omega) ?_
  refine yw_scr C (i := i) (q := 3) dL_law_1689 dL_law_1690 dL_law_1692 dL_law_1693 dL_law_1694 rfl rfl (by omega) ?_
  refine yw_callVi C (e_X9_peak σ1 τ1 hM1 hRM1 hk I hs htt (xs9 (i + 1)) (xs9 (i + 2)) (xs9 (i + 3))) dL_law_1695 rfl gL_law_X9_peak rfl is_X9 ⟨rfl, qX9_peak⟩ ⟨rfl, rfl⟩ ⟨Nat.le_of_ble_eq_true rfl, Nat.le_of_ble_eq_true rfl⟩ rfl (Nat.le_of_ble_eq_true rfl) hkn (fun v6 σ2 τ2 h2 => ?_)
  refine yw_istore C dL_law_1698 (by decide) (Nat.le_of_ble_eq_true rfl) (L' := LV i v5 v6) rfl ?_
  obtain ⟨r', kp', qs', S', e5, e4, e6⟩ := LwS_both S0 h1 h2 (fun _ => ⟨hk, hOk0.mono (by omega), fun j hj => (hOq j hj).mono (by omega)⟩)
  exact tail_i C dL_law_1700 dL_law_1701 dL_law_1704 dL_law_1706 dL_law_1711 dL_law_1713 dL_law_1716 dL_law_1717 dL_law_1718 dL_law_1719 dL_law_1721 dL_law_1722 dL_law_1723 dL_law_1728 rfl e5 e4 e6 hkn (kk _ _ _ _ _ S')
set_option maxHeartbeats 4000000 in
set_option maxRecDepth 100000 in
theorem lc_bestOpening (C : Lw x b0 L9 xs9) {i T kp : Nat} {r : Rw} {qs : Nat → Rw} (hi : i + 6 ≤ L9) (hT : T ≤ 40000) (S : LwS σ T r kp qs) (hkn : k + 1 ≤ 601024 ∧ n + 6 ≤ 7293034) (kk : ∀ (σ' : xS) (τ' : xT) (r' : Rw) (kp' : Nat) (qs' : Nat → Rw), LwS σ' (T + 60) r' kp' qs' → Yw x b0 1969 (LB i) [] σ' τ' (k + 1) (n + 6) Z) : Yw x b0 1731 (LB i) [] σ τ k n Z := by
  have S0 := S
  obtain ⟨hR, hRc, hM, hRM, hk, hOk, hOq⟩ := S
  have hOk0 := hOk
  obtain ⟨R, ns, nr, ne, t, I, hs, ht⟩ := hOk
  have htt : t + 200 ≤ 1000000 := by omega
  refine yw_aload_n C dL_law_1731 rfl ?_
  refine yw_scr C (i := i) (q := 1) dL_law_1732 dL_law_1733 dL_law_1735 dL_law_1736 dL_law_1737 rfl rfl (by omega) ?_
  refine yw_aload_n C dL_law_1738 rfl ?_
  refine yw_callXw C (e_L_bestOpening σ τ hR hRc hk I hs htt (xs9 (i + 1))) dL_law_1739 rfl gL_law_L_bestOpening rfl qL_bestOpening ⟨rfl, rfl⟩ ⟨Nat.le_of_ble_eq_true rfl, Nat.le_of_ble_eq_true rfl⟩ rfl (Nat.le_of_ble_eq_true rfl) hkn (fun v5 σ1 τ1 h1 => ?_)
  refine yw_istore C dL_law_1742 (by decide) (Nat.le_of_ble_eq_true rfl) (L' := LV5 i v5) rfl ?_
  refine yw_aload_n C dL_law_1744 rfl ?_
  have hM1 := (QL_same h1 166 (by decide)).trans hM
  have hRM1 := RecM_same (QL_same h1) hRM
  refine yw_scr C (i := i) (q := 1) dL_law_1745 dL_law_1746 dL_law_1748 dL_law_1749 dL_law_1750 rfl rfl (by omega) ?_
  refine yw_callVi C (e_X9_bestOpening σ1 τ1 hM1 hRM1 hk I hs htt (xs9 (i + 1))) dL_law_1751 rfl gL_law_X9_bestOpening rfl is_X9 ⟨rfl, qX9_bestOpening⟩ ⟨rfl, rfl⟩ ⟨Nat.le_of_ble_eq_true rfl, Nat.le_of_ble_eq_true rfl⟩ rfl (Nat.le_of_ble_eq_true rfl) hkn (fun v6 σ2 τ2 h2 => ?_)
  refine yw_istore C dL_law_1754 (by decide) (Nat.le_of_ble_eq_true rfl) (L' := LV i v5 v6) rfl ?_
  obtain ⟨r', kp', qs', S', e5, e4, e6⟩ := LwS_both S0 h1 h2 (fun _ => ⟨hk, hOk0.mono (by omega), fun j hj => (hOq j hj).mono (by omega)⟩)
  exact tail_i C dL_law_1756 dL_law_1757 dL_law_1760 dL_law_1762 dL_law_1767 dL_law_1769 dL_law_1772 dL_law_1773 dL_law_1774 dL_law_1775 dL_law_1777 dL_law_1778 dL_law_1779 dL_law_1784 rfl e5 e4 e6 hkn (kk _ _ _ _ _ S')
set_option maxHeartbeats 4000000 in
set_option maxRecDepth 100000 in
theorem lc_neededSensors (C : Lw x b0 L9 xs9) {i T kp : Nat} {r : Rw} {qs : Nat → Rw} (hi : i + 6 ≤ L9) (hT : T ≤ 40000) (S : LwS σ T r kp qs) (hkn : k + 1 ≤ 601024 ∧ n + 6 ≤ 7293034) (kk : ∀ (σ' : xS) (τ' : xT) (r' : Rw) (kp' : Nat) (qs' : Nat → Rw), LwS σ' (T + 60) r' kp' qs' → Yw x b0 1969 (LB i) [] σ' τ' (k + 1) (n + 6) Z) : Yw x b0 1787 (LB i) [] σ τ k n Z := by
  have S0 := S
  obtain ⟨hR, hRc, hM, hRM, hk, hOk, hOq⟩ := S
  have hOk0 := hOk
  obtain ⟨R, ns, nr, ne, t, I, hs, ht⟩ := hOk
  have htt : t + 200 ≤ 1000000 := by omega
  refine yw_aload_n C dL_law_1787 rfl ?_
  refine yw_scr C (i := i) (q := 1) dL_law_1788 dL_law_1789 dL_law_1791 dL_law_1792 dL_law_1793 rfl rfl (by omega) ?_
  refine yw_scr C (i := i) (q := 2) dL_law_1794 dL_law_1795 dL_law_1797 dL_law_1798 dL_law_1799 rfl rfl (by omega) ?_
  refine yw_aload_n C dL_law_1800 rfl ?_
  refine yw_callXw C (e_L_neededSensors σ τ hR hRc hk I hs htt (xs9 (i + 1)) (xs9 (i + 2))) dL_law_1801 rfl gL_law_L_neededSensors rfl qL_neededSensors ⟨rfl, rfl⟩ ⟨Nat.le_of_ble_eq_true rfl, Nat.le_of_ble_eq_true rfl⟩ rfl (Nat.le_of_ble_eq_true rfl) hkn (fun v5 σ1 τ1 h1 => ?_)
  refine yw_istore C dL_law_1804 (by decide) (Nat.le_of_ble_eq_true rfl) (L' := LV5 i v5) rfl ?_
  refine yw_aload_n C dL_law_1806 rfl ?_
  have hM1 := (QL_same h1 166 (by decide)).trans hM
  have hRM1 := RecM_same (QL_same h1) hRM
  refine yw_scr C (i := i) (q := 1) dL_law_1807 dL_law_1808 dL_law_1810 dL_law_1811 dL_law_1812 rfl rfl (by omega) ?_
  refine yw_scr C (i := i) (q := 2) dL_law_1813 dL_law_1814 dL_law_1816 dL_law_1817 dL_law_1818 rfl rfl (by omega) ?_
  refine yw_callVi C (e_X9_neededSensors σ1 τ1 hM1 hRM1 hk I hs htt (xs9 (i + 1)) (xs9 (i + 2))) dL_law_1819 rfl gL_law_X9_neededSensors rfl is_X9 ⟨rfl, qX9_neededSensors⟩ ⟨rfl, rfl⟩ ⟨Nat.le_of_ble_eq_true rfl, Nat.le_of_ble_eq_true rfl⟩ rfl (Nat.le_of_ble_eq_true rfl) hkn (fun v6 σ2 τ2 h2 => ?_)
  refine yw_istore C dL_law_1822 (by decide) (Nat.le_of_ble_eq_true rfl) (L' := LV i v5 v6) rfl ?_
  obtain ⟨r', kp', qs', S', e5, e4, e6⟩ := LwS_both S0 h1 h2 (fun _ => ⟨hk, hOk0.mono (by omega), fun j hj => (hOq j hj).mono (by omega)⟩)
  exact tail_i C dL_law_1824 dL_law_1825 dL_law_1828 dL_law_1830 dL_law_1835 dL_law_1837 dL_law_1840 dL_law_1841 dL_law_1842 dL_law_1843 dL_law_1845 dL_law_1846 dL_law_1847 dL_law_1852 rfl e5 e4 e6 hkn (kk _ _ _ _ _ S')
set_option maxHeartbeats 4000000 in
set_option maxRecDepth 100000 in
theorem lc_burnsFor (C : Lw x b0 L9 xs9) {i T kp : Nat} {r : Rw} {qs : Nat → Rw} (hi : i + 6 ≤ L9) (hT : T ≤ 40000) (S : LwS σ T r kp qs) (hkn : k + 1 ≤ 601024 ∧ n + 6 ≤ 7293034) (kk : ∀ (σ' : xS) (τ' : xT) (r' : Rw) (kp' : Nat) (qs' : Nat → Rw), LwS σ' (T + 60) r' kp' qs' → Yw x b0 1969 (LB i) [] σ' τ' (k + 1) (n + 6) Z) : Yw x b0 1855 (LB i) [] σ τ k n Z := by
  have S0 := S
  obtain ⟨hR, hRc, hM, hRM, hk, hOk, hOq⟩ := S
  have hOk0 := hOk
  obtain ⟨R, ns, nr, ne, t, I, hs, ht⟩ := hOk
  have htt : t + 200 ≤ 1000000 := by omega
  refine yw_aload_n C dL_law_1855 rfl ?_
  refine yw_scr C (i := i) (q := 1) dL_law_1856 dL_law_1857 dL_law_1859 dL_law_1860 dL_law_1861 rfl rfl (by omega) ?_
  refine yw_aload_n C dL_law_1862 rfl ?_
  refine yw_callXw C (e_L_burnsFor σ τ hR hRc hk I hs htt (xs9 (i + 1))) dL_law_1863 rfl gL_law_L_burnsFor rfl qL_burnsFor ⟨rfl, rfl⟩ ⟨Nat.le_of_ble_eq_true rfl, Nat.le_of_ble_eq_true rfl⟩ rfl (Nat.le_of_ble_eq_true rfl) hkn (fun v5 σ1 τ1 h1 => ?_)
  refine yw_istore C dL_law_1866 (by decide) (Nat.le_of_ble_eq_true rfl) (L' := LV5 i v5) rfl ?_
  refine yw_aload_n C dL_law_1868 rfl ?_
  have hM1 := (QL_same h1 166 (by decide)).trans hM
  have hRM1 := RecM_same (QL_same h1) hRM
  refine yw_scr C (i := i) (q := 1) dL_law_1869 dL_law_1870 dL_law_1872 dL_law_1873 dL_law_1874 rfl rfl (by omega) ?_
  refine yw_callVi C (e_X9_burnsFor σ1 τ1 hM1 hRM1 hk I hs htt (xs9 (i + 1))) dL_law_1875 rfl gL_law_X9_burnsFor rfl is_X9 ⟨rfl, qX9_burnsFor⟩ ⟨rfl, rfl⟩ ⟨Nat.le_of_ble_eq_true rfl, Nat.le_of_ble_eq_true rfl⟩ rfl (Nat.le_of_ble_eq_true rfl) hkn (fun v6 σ2 τ2 h2 => ?_)
  refine yw_istore C dL_law_1878 (by decide) (Nat.le_of_ble_eq_true rfl) (L' := LV i v5 v6) rfl ?_
  obtain ⟨r', kp', qs', S', e5, e4, e6⟩ := LwS_both S0 h1 h2 (fun _ => ⟨hk, hOk0.mono (by omega), fun j hj => (hOq j hj).mono (by omega)⟩)
  exact tail_i C dL_law_1880 dL_law_1881 dL_law_1884 dL_law_1886 dL_law_1891 dL_law_1893 dL_law_1896 dL_law_1897 dL_law_1898 dL_law_1899 dL_law_1901 dL_law_1902 dL_law_1903 dL_law_1908 rfl e5 e4 e6 hkn (kk _ _ _ _ _ S')
set_option maxHeartbeats 4000000 in
set_option maxRecDepth 100000 in
theorem lc_undo (C : Lw x b0 L9 xs9) {i T kp : Nat} {r : Rw} {qs : Nat → Rw} (hi : i + 6 ≤ L9) (hT : T ≤ 40000) (S : LwS σ T r kp qs) (hkn : k + 1 ≤ 601024 ∧ n + 6 ≤ 7293034) (kk : ∀ (σ' : xS) (τ' : xT) (r' : Rw) (kp' : Nat) (qs' : Nat → Rw), LwS σ' (T + 60) r' kp' qs' → Yw x b0 1969 (LB i) [] σ' τ' (k + 1) (n + 6) Z) : Yw x b0 1911 (LB i) [] σ τ k n Z := by
  have S0 := S
  obtain ⟨hR, hRc, hM, hRM, hk, hOk, hOq⟩ := S
  have hOk0 := hOk
  obtain ⟨R, ns, nr, ne, t, I, hs, ht⟩ := hOk
  have htt : t + 200 ≤ 1000000 := by omega
  refine yw_aload_n C dL_law_1911 rfl ?_
  refine yw_aload_n C dL_law_1912 rfl ?_
  refine yw_callXw C (e_L_undo σ τ hR hRc hk I (fun j hj => (hOq j hj).jam) ) dL_law_1913 rfl gL_law_L_undo rfl qL_undo ⟨rfl, rfl⟩ ⟨Nat.le_of_ble_eq_true rfl, Nat.le_of_ble_eq_true rfl⟩ rfl (Nat.le_of_ble_eq_true rfl) hkn (fun v5 σ1 τ1 h1 => ?_)
  refine yw_istore C dL_law_1916 (by decide) (Nat.le_of_ble_eq_true rfl) (L' := LV5 i v5) rfl ?_
  refine yw_aload_n C dL_law_1918 rfl ?_
  have hM1 := (QL_same h1 166 (by decide)).trans hM
  have hRM1 := RecM_same (QL_same h1) hRM
  refine yw_callVi C (e_X9_undo σ1 τ1 hM1 hRM1 hk I ) dL_law_1919 rfl gL_law_X9_undo rfl is_X9 ⟨rfl, qX9_undo⟩ ⟨rfl, rfl⟩ ⟨Nat.le_of_ble_eq_true rfl, Nat.le_of_ble_eq_true rfl⟩ rfl (Nat.le_of_ble_eq_true rfl) hkn (fun v6 σ2 τ2 h2 => ?_)
  refine yw_istore C dL_law_1922 (by decide) (Nat.le_of_ble_eq_true rfl) (L' := LV i v5 v6) rfl ?_
  obtain ⟨r', kp', qs', S', e5, e4, e6⟩ := LwS_both S0 h1 h2 (fun h0 => by
    have h9 : ¬ kp = 0 := fun z => by unfold kUnd at h0; rw [if_pos z] at h0; exact absurd h0 (by decide)
    exact ⟨by omega, (hOq (kp - 1) (by omega)).mono (by omega), fun j hj => (hOq j (by omega)).mono (by omega)⟩)
  exact tail_i C dL_law_1924 dL_law_1925 dL_law_1928 dL_law_1930 dL_law_1935 dL_law_1937 dL_law_1940 dL_law_1941 dL_law_1942 dL_law_1943 dL_law_1945 dL_law_1946 dL_law_1947 dL_law_1952 rfl e5 e4 e6 hkn (kk _ _ _ _ _ S')
set_option maxHeartbeats 4000000 in
set_option maxRecDepth 100000 in
theorem lc_applying (C : Lw x b0 L9 xs9) {i T kp : Nat} {r : Rw} {qs : Nat → Rw} (hi : i + 6 ≤ L9) (hT : T ≤ 40000) (S : LwS σ T r kp qs) (hkn : k + 1 ≤ 601024 ∧ n + 6 ≤ 7293034) (kk : ∀ (σ' : xS) (τ' : xT) (r' : Rw) (kp' : Nat) (qs' : Nat → Rw), LwS σ' (T + 60) r' kp' qs' → Yw x b0 1969 (LB i) [] σ' τ' (k + 1) (n + 6) Z) : Yw x b0 1162 (LB i) [] σ τ k n Z := by
  have S0 := S
  obtain ⟨hR, hRc, hM, hRM, hk, hOk, hOq⟩ := S
  obtain ⟨R, ns, nr, ne, t, I, hs, ht⟩ := hOk
  refine yw_widen (Nat.le_succ k) (Nat.le_add_right n 6) ?_
  refine yw_aload_n C dL_law_1162 rfl ?_
  refine yw_callVi C (e_X8_applying σ τ hR I) dL_law_1163 rfl gL_law_X8_applying rfl is_X8 ⟨rfl, qX8_applying⟩ ⟨rfl, rfl⟩ ⟨Nat.le_of_ble_eq_true rfl, Nat.le_of_ble_eq_true rfl⟩ rfl (Nat.le_of_ble_eq_true rfl) hkn (fun v5 σ1 τ1 h1 => ?_)
  obtain ⟨e5, rfl, rfl⟩ := h1
  refine yw_aload_n C dL_law_1166 rfl ?_
  refine yw_callVi C (e_X9_applying σ τ hM hRM hk I) dL_law_1167 rfl gL_law_X9_applying rfl is_X9 ⟨rfl, qX9_applying⟩ ⟨rfl, rfl⟩ ⟨Nat.le_of_ble_eq_true rfl, Nat.le_of_ble_eq_true rfl⟩ rfl (Nat.le_of_ble_eq_true rfl) hkn (fun v6 σ2 τ2 h2 => ?_)
  have e6 := QM_v h2 rfl
  obtain ⟨-, h2⟩ := h2
  have S2 : LwS σ2 (T + 60) r kp qs := by
    rcases h2 with ⟨-, -, m1, m2, m3, -⟩ | ⟨k1, -⟩
    · exact LwS_md (τ := τ) (τ2 := τ2) S0 m3 m1 m2 (by omega)
    · exact absurd rfl k1
  exact yw_icmp_eq C dL_law_1170 (t := 1969) rfl (fun _ => kk _ _ _ _ _ S2) (fun h => absurd (e5.trans e6.symm) h)
set_option maxHeartbeats 4000000 in
set_option maxRecDepth 100000 in
theorem lc_checksum (C : Lw x b0 L9 xs9) {i T kp : Nat} {r : Rw} {qs : Nat → Rw} (hi : i + 6 ≤ L9) (hT : T ≤ 40000) (S : LwS σ T r kp qs) (hkn : k + 1 ≤ 601024 ∧ n + 6 ≤ 7293034) (kk : ∀ (σ' : xS) (τ' : xT) (r' : Rw) (kp' : Nat) (qs' : Nat → Rw), LwS σ' (T + 60) r' kp' qs' → Yw x b0 1969 (LB i) [] σ' τ' (k + 1) (n + 6) Z) : Yw x b0 1955 (LB i) [] σ τ k n Z := by
  have S0 := S
  obtain ⟨hR, hRc, hM, hRM, hk, hOk, hOq⟩ := S
  obtain ⟨R, ns, nr, ne, t, I, hs, ht⟩ := hOk
  refine yw_widen (Nat.le_succ k) (Nat.le_add_right n 6) ?_
  refine yw_aload_n C dL_law_1955 rfl ?_
  refine yw_callVl C (e_X8_checksum σ τ hR I hRc) dL_law_1956 rfl gL_law_X8_checksum rfl is_X8 ⟨rfl, qX8_checksum⟩ ⟨rfl, rfl⟩ ⟨Nat.le_of_ble_eq_true rfl, Nat.le_of_ble_eq_true rfl⟩ rfl (Nat.le_of_ble_eq_true rfl) hkn (fun v5 σ1 τ1 h1 => ?_)
  obtain ⟨e5, rfl, rfl⟩ := h1
  refine yw_aload_n C dL_law_1959 rfl ?_
  refine yw_callVl C (e_X9_checksum σ τ hM hRM I) dL_law_1960 rfl gL_law_X9_checksum rfl is_X9 ⟨rfl, qX9_checksum⟩ ⟨rfl, rfl⟩ ⟨Nat.le_of_ble_eq_true rfl, Nat.le_of_ble_eq_true rfl⟩ rfl (Nat.le_of_ble_eq_true rfl) hkn (fun v6 σ2 τ2 h2 => ?_)
  obtain ⟨e6, -, m1, m2, m3⟩ := h2
  have S2 : LwS σ2 (T + 60) r kp qs := LwS_md (τ := τ) (τ2 := τ2) S0 m3 m1 m2 (by omega)
  refine yw_lcmp C dL_law_1963 ?_
  refine yw_if_eq C dL_law_1964 (t := 1969) rfl (fun _ => kk _ _ _ _ _ S2) (fun h => absurd ?_ h)
  rw [e5, e6]
  simp [lg_cmp]
end LC
