/-! isHouse(o): what the votes add up to; the loops; all is so -/
def mSet (r : Rw) (a : Nat) : Nat → Int32 := mVts r (nI a)
def hVo (r : Rw) (a k : Nat) : Int32 := if r (57 + 7 * k + 0) = nI a ∧ ¬ mVotI r k = 0 then 1 else 0
theorem hVo_01 (r : Rw) (a k : Nat) : hVo r a k = 0 ∨ hVo r a k = 1 := by unfold hVo; split <;> simp
def hSu (r : Rw) (a : Nat) : Nat → Int32
  | 0 => 0
  | k + 1 => hSu r a k + (if hVo r a k = 0 then 0 else r (57 + 7 * k + 4))
def hMa (r : Rw) (a : Nat) : Nat → Nat
  | 0 => 0
  | k + 1 => if hVo r a k = 0 then hMa r a k else hMa r a k + 1
theorem hMa_le (r : Rw) (a : Nat) : ∀ k, hMa r a k ≤ k := by
  intro k
  induction k with
  | zero => exact Nat.le_refl _
  | succ k ih => simp only [hMa]; split <;> omega
theorem mVts_S0 {r : Rw} {a k : Nat} (h : hVo r a k = 0) : mVts r (nI a) k ||| 0 = mVts r (nI a) (k + 1) := by
  simp only [mVts]
  rw [if_neg (fun z => by unfold hVo at h; rw [if_pos z] at h; exact absurd h (by decide)), Int32.or_zero]
theorem mVts_S1 {r : Rw} {a k : Nat} (h : ¬ hVo r a k = 0) : mVts r (nI a) k ||| ((1 : Int32) <<< (nI k &&& 31)) = mVts r (nI a) (k + 1) := by
  simp only [mVts]
  rw [if_pos (by
    by_cases z : r (57 + 7 * k + 0) = nI a ∧ ¬ mVotI r k = 0
    · exact z
    · exact absurd (by unfold hVo; rw [if_neg z]) h)]
theorem bit_or9 : ∀ m, m < 256 → ∀ n, n < 8 → ∀ k, k < 8 → ((nI m ||| ((1 : Int32) <<< (nI n &&& 31))) >>> (nI k &&& 31)) &&& 1 = if k = n then 1 else (nI m >>> (nI k &&& 31)) &&& 1 := by decide +kernel
theorem bit_09 : ∀ k, k < 8 → ((0 : Int32) >>> (nI k &&& 31)) &&& 1 = 0 := by decide +kernel
theorem mVts_bit {r : Rw} {a : Nat} : ∀ n, n ≤ 8 → ∀ k, k < 8 → (mVts r (nI a) n >>> (nI k &&& 31)) &&& 1 = if k < n ∧ ¬ hVo r a k = 0 then 1 else 0 := by
  intro n
  induction n with
  | zero =>
    intro _ k hk
    rw [if_neg (fun z => Nat.not_lt_zero _ z.1)]
    exact bit_09 k hk
  | succ n ih =>
    intro hn k hk
    by_cases q : hVo r a n = 0
    · rw [← mVts_S0 q, Int32.or_zero, ih (by omega) k hk]
      by_cases e : k = n
      · subst e
        rw [if_neg (fun z => absurd z.1 (Nat.lt_irrefl _)), if_neg (fun z => z.2 q)]
      · by_cases z : k < n ∧ ¬ hVo r a k = 0
        · rw [if_pos z, if_pos ⟨by omega, z.2⟩]
        · rw [if_neg z, if_neg (fun w => z ⟨by omega, w.2⟩)]
    · rw [← mVts_S1 q]
      obtain ⟨m, hm, em⟩ := mVts_small r (nI a) n (by omega)
      have h2 : 2 ^ n ≤ 2 ^ 8 := Nat.pow_le_pow_right (by decide) (by omega)
      have hb := ih (by omega) k hk
      rw [em] at hb ⊢
      rw [bit_or9 m (by omega) n (by omega) k hk]
      by_cases e : k = n
      · subst e
        rw [if_pos rfl, if_pos ⟨by omega, q⟩]
      · rw [if_neg e, hb]
        by_cases z : k < n ∧ ¬ hVo r a k = 0
        · rw [if_pos z, if_pos ⟨by omega, z.2⟩]
        · rw [if_neg z, if_neg (fun w => z ⟨by omega, w.2⟩)]
theorem hSu_wei {r : Rw} {a ns : Nat} (h8 : ns ≤ 8) : ∀ k, k ≤ ns → mWei r (mVts r (nI a) ns) k = hSu r a k := by
  intro k
  induction k with
  | zero => intro _; rfl
  | succ k ih =>
    intro hk
    simp only [mWei, hSu]
    rw [ih (by omega), mVts_bit ns h8 k (by omega)]
    by_cases q : hVo r a k = 0
    · rw [if_neg (by rw [if_neg (fun z => z.2 q)]; decide), if_pos q]
    · rw [if_pos (by rw [if_pos ⟨by omega, q⟩]), if_neg q]
theorem hMa_mny {r : Rw} {a ns : Nat} (h8 : ns ≤ 8) : ∀ k, k ≤ 8 → mMny (mVts r (nI a) ns) k = nI (hMa r a (min k ns)) := by
  intro k
  induction k with
  | zero => intro _; rw [Nat.zero_min]; rfl
  | succ k ih =>
    intro hk
    simp only [mMny]
    rw [ih (by omega), mVts_bit ns h8 k (by omega)]
    by_cases z : k < ns
    · rw [show min k ns = k by omega, show min (k + 1) ns = k + 1 by omega]
      simp only [hMa]
      by_cases q : hVo r a k = 0
      · rw [if_neg (fun w => w.2 q), if_pos q, Int32.add_zero]
      · rw [if_pos ⟨z, q⟩, if_neg q]
        exact nI_1 _
    · rw [show min k ns = ns by omega, show min (k + 1) ns = ns by omega, if_neg (fun w => z w.1), Int32.add_zero]
theorem hAgr {r : Rw} {a R ns nr ne t tl : Nat} (I : Inv r R ns nr ne t tl) : mAgrI r (nI a) = if (1 : Int32) < nI (hMa r a ns) ∧ r 1 ≤ hSu r a ns then 1 else 0 := by
  have h8 := I.1.2.1.2
  have hm := hMa_le r a ns
  unfold mAgrI
  rw [inv_cs I, hMa_mny h8 8 (Nat.le_refl _), show min 8 ns = ns by omega, hSu_wei h8 ns (Nat.le_refl _)]
  have e : (2 : Int32) ≤ nI (hMa r a ns) ↔ (1 : Int32) < nI (hMa r a ns) := by
    rw [show (2 : Int32) = nI 2 from rfl, show (1 : Int32) = nI 1 from rfl, nI_leI (by decide) (by omega), nI_ltI (by decide) (by omega)]
    omega
  by_cases z : (1 : Int32) < nI (hMa r a ns) ∧ r 1 ≤ hSu r a ns
  · rw [if_pos z, if_pos ⟨e.mpr z.1, z.2⟩]
  · rw [if_neg z, if_neg (fun w => z ⟨e.mp w.1, w.2⟩)]
theorem mOpn_sym {r : Rw} (h : ∀ a b, a < 5 → b < 5 → a ≠ b → (r (32 + 5 * a + b) = 1 ↔ r (32 + 5 * b + a) = 1)) {a b : Nat} (ha : a < 5) (hb : b < 5) : mOpn r a b = mOpn r b a := by
  unfold mOpn
  by_cases e : a = b
  · rw [if_pos e, if_pos e.symm]
  · rw [if_neg e, if_neg (Ne.symm e)]
    unfold mDoorI
    by_cases z : r (32 + 5 * a + b) = 1
    · rw [if_pos z, if_pos ((h a b ha hb e).mp z)]
    · rw [if_neg z, if_neg (fun w => z ((h a b ha hb e).mpr w))]
theorem rel_sym {σ : xS} {r : Rw} (h : Rel σ 1 r) : ∀ a b, a < 5 → b < 5 → a ≠ b → (r (32 + 5 * a + b) = 1 ↔ r (32 + 5 * b + a) = 1) := by
  intro a b ha hb hab
  have h1 := h.2 a b ha hb hab
  have h2 := h.2 b a hb ha (Ne.symm hab)
  have e : xbit a b = xbit b a := by
    unfold xbit
    rcases Nat.lt_or_gt_of_ne hab with q | q
    · rw [if_pos q, if_neg (by omega)]
    · rw [if_neg (by omega), if_pos q]
  rw [e] at h1
  exact h1.symm.trans h2
theorem hv_1 {r : Rw} {i k : Nat} (h : mVotI r k = 1) (h2 : r (57 + 7 * k + 0) = nI i) : hVo r i k = 1 := if_pos ⟨h2, by rw [h]; decide⟩
theorem hv_2 {r : Rw} {i k : Nat} (_ : mVotI r k = 1) (h2 : ¬ r (57 + 7 * k + 0) = nI i) : hVo r i k = 0 := if_neg (fun z => h2 z.1)
theorem hv_3 {r : Rw} {i k : Nat} (h : ¬ mVotI r k = 1) : hVo r i k = 0 := if_neg (fun z => z.2 ((mVotI_01 r k).resolve_right h))
theorem vt_1 {r : Rw} {k : Nat} (h : r (57 + 7 * k + 5) = 2) : mVotI r k = 1 := if_pos (Or.inl h)
theorem vt_2 {r : Rw} {k : Nat} (h : ¬ r (57 + 7 * k + 5) = 2) (h2 : ¬ r (57 + 7 * k + 5) = 0) : mVotI r k = 0 := if_neg (fun z => z.elim h (fun w => h2 w.1))
theorem vt_3 {r : Rw} {k : Nat} (h2 : r (57 + 7 * k + 5) = 0) (h3 : ¬ r (57 + 7 * k + 6) ≤ r (57 + 7 * k + 3)) : mVotI r k = 1 := if_pos (Or.inr ⟨h2, Int32.not_le.mp h3⟩)
theorem vt_4 {r : Rw} {k : Nat} (h : ¬ r (57 + 7 * k + 5) = 2) (_ : r (57 + 7 * k + 5) = 0) (h3 : r (57 + 7 * k + 6) ≤ r (57 + 7 * k + 3)) : mVotI r k = 0 := if_neg (fun z => z.elim h (fun w => Int32.not_lt.mpr h3 w.2))
set_option maxHeartbeats 4000000 in
set_option maxRecDepth 100000 in
theorem l_house2 {x : xC} {b0 : Nat} (T : Ct x mL_isHouse) {r : Rw} {R ns nr ne t kp Tm : Nat} {qs : Nat → Rw} (G : Gd r R ns nr ne t) (hs : Gs Tm kp qs) (i m : Nat) (hi : i < R) (hm : m + 200 ≤ 800) (x2 : Int32) {Z : State → Prop} (kx : ∀ v9 : Option Value, Hs x b0 327 [some (.ref 0), some (.int (nI R)), some (.int x2), some (.int 1), some (.int (nI i)), some (.int (mVts r (nI i) ns)), some (.int (hSu r i ns)), some (.int (nI (hMa r i ns))), some (.int (nI ns)), v9] [] r kp qs (m + 9 * ns + 1) Z) : ∀ n k : Nat, k + n = ns → ∀ v9 : Option Value, Hs x b0 151 [some (.ref 0), some (.int (nI R)), some (.int x2), some (.int 1), some (.int (nI i)), some (.int (mVts r (nI i) k)), some (.int (hSu r i k)), some (.int (nI (hMa r i k))), some (.int (nI k)), v9] [] r kp qs (m + 9 * k) Z := by
  have C := T.1
  intro n
  induction n with
  | zero =>
    intro k hk
    intro v9
    have h8 := G.1.1.2.1.2
    have hR4 := G.1.1.1.2.2
    refine h_iload C dL_isHouse_151 rfl ?_
    refine h_aload_n C dL_isHouse_153 rfl ?_
    refine h_bipush (v := 12) C dL_isHouse_154 (by decide) ?_
    refine h_callXs T (rd_info12 G hs.1) dL_isHouse_156 rfl gL_isHouse_L_info rfl qL_info ⟨rfl, rfl⟩ ⟨Nat.le_of_ble_eq_true rfl, Nat.le_of_ble_eq_true rfl⟩ rfl (Nat.le_of_ble_eq_true rfl) (Nat.le_of_ble_eq_true rfl) (by show _ ≤ 800; omega) ?_
    refine h_icmp_ge (t := 327) C dL_isHouse_159 (by decide) (fun kc159 => ?_) (fun kc159 => absurd (by rw [show k = ns by omega]; exact Int32.le_refl _) kc159)
    obtain rfl : k = ns := by omega
    exact kx v9
  | succ n ih =>
    intro k hk
    intro v9
    have h8 := G.1.1.2.1.2
    have hR4 := G.1.1.1.2.2
    refine h_iload C dL_isHouse_151 rfl ?_
    refine h_aload_n C dL_isHouse_153 rfl ?_
    refine h_bipush (v := 12) C dL_isHouse_154 (by decide) ?_
    refine h_callXs T (rd_info12 G hs.1) dL_isHouse_156 rfl gL_isHouse_L_info rfl qL_info ⟨rfl, rfl⟩ ⟨Nat.le_of_ble_eq_true rfl, Nat.le_of_ble_eq_true rfl⟩ rfl (Nat.le_of_ble_eq_true rfl) (Nat.le_of_ble_eq_true rfl) (by show _ ≤ 800; omega) ?_
    refine h_icmp_ge (t := 327) C dL_isHouse_159 (by decide) (fun kc159 => absurd kc159 (nI_ge (by omega) (by omega))) (fun kc159 => ?_)
    refine h_join (t := 191) (v := .int (hVo r i k)) (k' := m + 9 * k + 3) ?_ (fun K162 => ?_)
    ·
      refine h_istore C dL_isHouse_191 (L' := [_, _, _, _, _, _, _, _, _, _]) (by decide) (Nat.lt_of_lt_of_le (by decide : (9 : Nat) < 10) (Nat.le_refl _)) rfl ?_
      refine h_iload C dL_isHouse_193 rfl ?_
      refine h_join (t := 208) (v := .int (if hVo r i k = 0 then 0 else (1 : Int32) <<< (nI k &&& 31))) (k' := m + 9 * k + 3) ?_ (fun K195 => ?_)
      ·
        refine h_ior C dL_isHouse_208 ?_
        refine h_topE (mVts r (nI i) (k + 1)) (by by_cases q : hVo r i k = 0; rw [if_pos q]; exact mVts_S0 q; rw [if_neg q]; exact mVts_S1 q) ?_
        refine h_istore C dL_isHouse_209 (L' := [_, _, _, _, _, _, _, _, _, _]) (by decide) (Nat.lt_of_lt_of_le (by decide : (5 : Nat) < 10) (Nat.le_refl _)) rfl ?_
        refine h_iload C dL_isHouse_211 rfl ?_
        refine h_join (t := 229) (v := .int (if hVo r i k = 0 then 0 else r (57 + 7 * k + 4))) (k' := m + 9 * k + 4) ?_ (fun K213 => ?_)
        ·
          refine h_iadd C dL_isHouse_229 ?_
          refine h_istore C dL_isHouse_230 (L' := [_, _, _, _, _, _, _, _, _, _]) (by decide) (Nat.lt_of_lt_of_le (by decide : (6 : Nat) < 10) (Nat.le_refl _)) rfl ?_
          refine h_iload C dL_isHouse_232 rfl ?_
          refine h_join (t := 244) (v := .int (if hVo r i k = 0 then (0 : Int32) else 1)) (k' := m + 9 * k + 4) ?_ (fun K234 => ?_)
          ·
            refine h_iadd C dL_isHouse_244 ?_
            refine h_topE (nI (hMa r i (k + 1))) (by simp only [hMa]; by_cases q : hVo r i k = 0; rw [if_pos q, if_pos q]; exact Int32.add_zero _; rw [if_neg q, if_neg q]; exact nI_1 _) ?_
            refine h_istore C dL_isHouse_245 (L' := [_, _, _, _, _, _, _, _, _, _]) (by decide) (Nat.lt_of_lt_of_le (by decide : (7 : Nat) < 10) (Nat.le_refl _)) rfl ?_
            refine h_iload_n C dL_isHouse_247 rfl ?_
            refine h_if_eq (t := 319) C dL_isHouse_248 (by decide) (fun kc248 => absurd kc248 (by decide)) (fun kc248 => ?_)
            refine h_join (t := 268) (v := .int (mVotI r k)) (k' := m + 9 * k + 5) ?_ (fun K251 => ?_)
            ·
              refine h_join (t := 312) (v := .int (mVotI r k)) (k' := m + 9 * k + 9) ?_ (fun K268 => ?_)
              ·
                refine h_icmp_ne (t := 319) C dL_isHouse_312 (by decide) (fun kc312 => absurd (rfl) kc312) (fun kc312 => ?_)
                refine h_iconst (v := 1) C dL_isHouse_315 (by decide) ?_
                refine h_goto (t := 320) C dL_isHouse_316 (by decide) ?_
                refine h_istore_n C dL_isHouse_320 (L' := [_, _, _, _, _, _, _, _, _, _]) (by decide) (Nat.lt_of_lt_of_le (by decide : (3 : Nat) < 10) (Nat.le_refl _)) rfl ?_
                refine h_iinc C dL_isHouse_321 (L' := [_, _, _, _, _, _, _, _, _, _]) (by decide) rfl (nI_1 k) rfl ?_
                refine h_goto (t := 151) C dL_isHouse_324 (by decide) ?_
                exact h_widen (by omega) (ih (k + 1) (by omega) _)
              ·
                refine h_aload_n C dL_isHouse_268 rfl ?_
                refine h_iload C dL_isHouse_269 rfl ?_
                refine h_iconst (v := 5) C dL_isHouse_271 (by decide) ?_
                refine h_callXs T (rd_sensor5 G hs.1 (i := k) (by omega)) dL_isHouse_272 rfl gL_isHouse_L_sensor rfl qL_sensor ⟨rfl, rfl⟩ ⟨Nat.le_of_ble_eq_true rfl, Nat.le_of_ble_eq_true rfl⟩ rfl (Nat.le_of_ble_eq_true rfl) (Nat.le_of_ble_eq_true rfl) (by show _ ≤ 800; omega) ?_
                refine h_iconst (v := 2) C dL_isHouse_275 (by decide) ?_
                refine h_icmp_eq (t := 307) C dL_isHouse_276 (by decide) (fun kc276 => ?_) (fun kc276 => ?_)
                · -- t
                  refine h_iconst (v := 1) C dL_isHouse_307 (by decide) ?_
                  refine h_goto (t := 312) C dL_isHouse_308 (by decide) ?_
                  exact h_kE K268 (by omega) (by first | exact (vt_1 kc276).symm | exact (vt_2 kc276 kc286).symm | exact (vt_3 kc286 kc304).symm | exact (vt_4 kc276 kc286 kc304).symm)
                · -- f
                  refine h_aload_n C dL_isHouse_279 rfl ?_
                  refine h_iload C dL_isHouse_280 rfl ?_
                  refine h_iconst (v := 5) C dL_isHouse_282 (by decide) ?_
                  refine h_callXs T (rd_sensor5 G hs.1 (i := k) (by omega)) dL_isHouse_283 rfl gL_isHouse_L_sensor rfl qL_sensor ⟨rfl, rfl⟩ ⟨Nat.le_of_ble_eq_true rfl, Nat.le_of_ble_eq_true rfl⟩ rfl (Nat.le_of_ble_eq_true rfl) (Nat.le_of_ble_eq_true rfl) (by show _ ≤ 800; omega) ?_
                  refine h_if_ne (t := 311) C dL_isHouse_286 (by decide) (fun kc286 => ?_) (fun kc286 => ?_)
                  · -- t
                    refine h_iconst (v := 0) C dL_isHouse_311 (by decide) ?_
                    exact h_kE K268 (by omega) (by first | exact (vt_1 kc276).symm | exact (vt_2 kc276 kc286).symm | exact (vt_3 kc286 kc304).symm | exact (vt_4 kc276 kc286 kc304).symm)
                  · -- f
                    refine h_aload_n C dL_isHouse_289 rfl ?_
                    refine h_iload C dL_isHouse_290 rfl ?_
                    refine h_bipush (v := 6) C dL_isHouse_292 (by decide) ?_
                    refine h_callXs T (rd_sensor6 G hs.1 (i := k) (by omega)) dL_isHouse_294 rfl gL_isHouse_L_sensor rfl qL_sensor ⟨rfl, rfl⟩ ⟨Nat.le_of_ble_eq_true rfl, Nat.le_of_ble_eq_true rfl⟩ rfl (Nat.le_of_ble_eq_true rfl) (Nat.le_of_ble_eq_true rfl) (by show _ ≤ 800; omega) ?_
                    refine h_aload_n C dL_isHouse_297 rfl ?_
                    refine h_iload C dL_isHouse_298 rfl ?_
                    refine h_iconst (v := 3) C dL_isHouse_300 (by decide) ?_
                    refine h_callXs T (rd_sensor3 G hs.1 (i := k) (by omega)) dL_isHouse_301 rfl gL_isHouse_L_sensor rfl qL_sensor ⟨rfl, rfl⟩ ⟨Nat.le_of_ble_eq_true rfl, Nat.le_of_ble_eq_true rfl⟩ rfl (Nat.le_of_ble_eq_true rfl) (Nat.le_of_ble_eq_true rfl) (by show _ ≤ 800; omega) ?_
                    refine h_icmp_le (t := 311) C dL_isHouse_304 (by decide) (fun kc304 => ?_) (fun kc304 => ?_)
                    · -- t
                      refine h_iconst (v := 0) C dL_isHouse_311 (by decide) ?_
                      exact h_kE K268 (by omega) (by first | exact (vt_1 kc276).symm | exact (vt_2 kc276 kc286).symm | exact (vt_3 kc286 kc304).symm | exact (vt_4 kc276 kc286 kc304).symm)
                    · -- f
                      refine h_iconst (v := 1) C dL_isHouse_307 (by decide) ?_
                      refine h_goto (t := 312) C dL_isHouse_308 (by decide) ?_
                      exact h_kE K268 (by omega) (by first | exact (vt_1 kc276).symm | exact (vt_2 kc276 kc286).symm | exact (vt_3 kc286 kc304).symm | exact (vt_4 kc276 kc286 kc304).symm)
            ·
              refine h_aload_n C dL_isHouse_251 rfl ?_
              refine h_iload C dL_isHouse_252 rfl ?_
              refine h_bipush (v := 8) C dL_isHouse_254 (by decide) ?_
              refine h_callXs T (rd_sensor8 G hs.1 (i := k) (by omega)) dL_isHouse_256 rfl gL_isHouse_L_sensor rfl qL_sensor ⟨rfl, rfl⟩ ⟨Nat.le_of_ble_eq_true rfl, Nat.le_of_ble_eq_true rfl⟩ rfl (Nat.le_of_ble_eq_true rfl) (Nat.le_of_ble_eq_true rfl) (by show _ ≤ 800; omega) ?_
              refine h_iconst (v := 1) C dL_isHouse_259 (by decide) ?_
              refine h_icmp_ne (t := 267) C dL_isHouse_260 (by decide) (fun kc260 => ?_) (fun kc260 => ?_)
              · -- t
                refine h_iconst (v := 0) C dL_isHouse_267 (by decide) ?_
                exact h_kE K251 (by omega) (by first | exact kc260.symm | exact ((mVotI_01 r k).resolve_right kc260).symm)
              · -- f
                refine h_iconst (v := 1) C dL_isHouse_263 (by decide) ?_
                refine h_goto (t := 268) C dL_isHouse_264 (by decide) ?_
                exact h_kE K251 (by omega) (by first | exact kc260.symm | exact ((mVotI_01 r k).resolve_right kc260).symm)
          ·
            refine h_iload C dL_isHouse_234 rfl ?_
            refine h_if_eq (t := 243) C dL_isHouse_236 (by decide) (fun kc236 => ?_) (fun kc236 => ?_)
            · -- t
              refine h_iconst (v := 0) C dL_isHouse_243 (by decide) ?_
              exact h_kE K234 (by omega) (by first | exact (if_pos kc236).symm | exact (if_neg kc236).symm)
            · -- f
              refine h_iconst (v := 1) C dL_isHouse_239 (by decide) ?_
              refine h_goto (t := 244) C dL_isHouse_240 (by decide) ?_
              exact h_kE K234 (by omega) (by first | exact (if_pos kc236).symm | exact (if_neg kc236).symm)
        ·
          refine h_iload C dL_isHouse_213 rfl ?_
          refine h_if_eq (t := 228) C dL_isHouse_215 (by decide) (fun kc215 => ?_) (fun kc215 => ?_)
          · -- t
            refine h_iconst (v := 0) C dL_isHouse_228 (by decide) ?_
            exact h_kE K213 (by omega) (by first | exact (if_pos kc215).symm | exact (if_neg kc215).symm)
          · -- f
            refine h_aload_n C dL_isHouse_218 rfl ?_
            refine h_iload C dL_isHouse_219 rfl ?_
            refine h_iconst (v := 4) C dL_isHouse_221 (by decide) ?_
            refine h_callXs T (rd_sensor4 G hs.1 (i := k) (by omega)) dL_isHouse_222 rfl gL_isHouse_L_sensor rfl qL_sensor ⟨rfl, rfl⟩ ⟨Nat.le_of_ble_eq_true rfl, Nat.le_of_ble_eq_true rfl⟩ rfl (Nat.le_of_ble_eq_true rfl) (Nat.le_of_ble_eq_true rfl) (by show _ ≤ 800; omega) ?_
            refine h_goto (t := 229) C dL_isHouse_225 (by decide) ?_
            exact h_kE K213 (by omega) (by first | exact (if_pos kc215).symm | exact (if_neg kc215).symm)
      ·
        refine h_iload C dL_isHouse_195 rfl ?_
        refine h_if_eq (t := 207) C dL_isHouse_197 (by decide) (fun kc197 => ?_) (fun kc197 => ?_)
        · -- t
          refine h_iconst (v := 0) C dL_isHouse_207 (by decide) ?_
          exact h_kE K195 (by omega) (by first | exact (if_pos kc197).symm | exact (if_neg kc197).symm)
        · -- f
          refine h_iconst (v := 1) C dL_isHouse_200 (by decide) ?_
          refine h_iload C dL_isHouse_201 rfl ?_
          refine h_ishl C dL_isHouse_203 ?_
          refine h_goto (t := 208) C dL_isHouse_204 (by decide) ?_
          exact h_kE K195 (by omega) (by first | exact (if_pos kc197).symm | exact (if_neg kc197).symm)
    ·
      refine h_aload_n C dL_isHouse_162 rfl ?_
      refine h_iload C dL_isHouse_163 rfl ?_
      refine h_bipush (v := 8) C dL_isHouse_165 (by decide) ?_
      refine h_callXs T (rd_sensor8 G hs.1 (i := k) (by omega)) dL_isHouse_167 rfl gL_isHouse_L_sensor rfl qL_sensor ⟨rfl, rfl⟩ ⟨Nat.le_of_ble_eq_true rfl, Nat.le_of_ble_eq_true rfl⟩ rfl (Nat.le_of_ble_eq_true rfl) (Nat.le_of_ble_eq_true rfl) (by show _ ≤ 800; omega) ?_
      refine h_iconst (v := 1) C dL_isHouse_170 (by decide) ?_
      refine h_icmp_ne (t := 190) C dL_isHouse_171 (by decide) (fun kc171 => ?_) (fun kc171 => ?_)
      · -- t
        refine h_iconst (v := 0) C dL_isHouse_190 (by decide) ?_
        exact h_kE K162 (by omega) (by first | exact (hv_1 kc171 kc183).symm | exact (hv_2 kc171 kc183).symm | exact (hv_3 kc171).symm)
      · -- f
        refine h_aload_n C dL_isHouse_174 rfl ?_
        refine h_iload C dL_isHouse_175 rfl ?_
        refine h_iconst (v := 0) C dL_isHouse_177 (by decide) ?_
        refine h_callXs T (rd_sensor0 G hs.1 (i := k) (by omega)) dL_isHouse_178 rfl gL_isHouse_L_sensor rfl qL_sensor ⟨rfl, rfl⟩ ⟨Nat.le_of_ble_eq_true rfl, Nat.le_of_ble_eq_true rfl⟩ rfl (Nat.le_of_ble_eq_true rfl) (Nat.le_of_ble_eq_true rfl) (by show _ ≤ 800; omega) ?_
        refine h_iload C dL_isHouse_181 rfl ?_
        refine h_icmp_ne (t := 190) C dL_isHouse_183 (by decide) (fun kc183 => ?_) (fun kc183 => ?_)
        · -- t
          refine h_iconst (v := 0) C dL_isHouse_190 (by decide) ?_
          exact h_kE K162 (by omega) (by first | exact (hv_1 kc171 kc183).symm | exact (hv_2 kc171 kc183).symm | exact (hv_3 kc171).symm)
        · -- f
          refine h_iconst (v := 1) C dL_isHouse_186 (by decide) ?_
          refine h_goto (t := 191) C dL_isHouse_187 (by decide) ?_
          exact h_kE K162 (by omega) (by first | exact (hv_1 kc171 kc183).symm | exact (hv_2 kc171 kc183).symm | exact (hv_3 kc171).symm)
set_option maxHeartbeats 4000000 in
set_option maxRecDepth 100000 in
theorem l_house3 {x : xC} {b0 : Nat} (T : Ct x mL_isHouse) {r : Rw} {R ns nr ne t kp Tm : Nat} {qs : Nat → Rw} (G : Gd r R ns nr ne t) (hs : Gs Tm kp qs) (hsy : ∀ a b, a < 5 → b < 5 → a ≠ b → (r (32 + 5 * a + b) = 1 ↔ r (32 + 5 * b + a) = 1)) (i m : Nat) (hi : i < R) (hm : m + 200 ≤ 800) (x2 x7 : Int32) (v5 v6 v9 : Option Value) {Z : State → Prop} (kx : Hs x b0 542 [some (.ref 0), some (.int (nI R)), some (.int x2), some (.int 1), some (.int (nI i)), v5, v6, some (.int x7), some (.int (nI (R + 1))), v9] [] r kp qs (m + 3 * (R + 1)) Z) : ∀ n k : Nat, k + n = R + 1 → Hs x b0 483 [some (.ref 0), some (.int (nI R)), some (.int x2), some (.int 1), some (.int (nI i)), v5, v6, some (.int x7), some (.int (nI k)), v9] [] r kp qs (m + 3 * k) Z := by
  have C := T.1
  intro n
  induction n with
  | zero =>
    intro k hk
    have h8 := G.1.1.2.1.2
    have hR4 := G.1.1.1.2.2
    refine h_iload C dL_isHouse_483 rfl ?_
    refine h_iload_n C dL_isHouse_485 rfl ?_
    refine h_icmp_gt (t := 542) C dL_isHouse_486 (by decide) (fun kc486 => ?_) (fun kc486 => absurd (by rw [show k = R + 1 by omega]; exact nI_lt (by omega) (by omega)) kc486)
    obtain rfl : k = R + 1 := by omega
    exact kx
  | succ n ih =>
    intro k hk
    have h8 := G.1.1.2.1.2
    have hR4 := G.1.1.1.2.2
    refine h_iload C dL_isHouse_483 rfl ?_
    refine h_iload_n C dL_isHouse_485 rfl ?_
    refine h_icmp_gt (t := 542) C dL_isHouse_486 (by decide) (fun kc486 => absurd kc486 (nI_nlt (by omega) (by omega))) (fun kc486 => ?_)
    refine h_iload_n C dL_isHouse_489 rfl ?_
    refine h_if_eq (t := 542) C dL_isHouse_490 (by decide) (fun kc490 => absurd kc490 (by decide)) (fun kc490 => ?_)
    refine h_aload_n C dL_isHouse_493 rfl ?_
    refine h_iload C dL_isHouse_494 rfl ?_
    refine h_iload C dL_isHouse_496 rfl ?_
    refine h_callXs T (rd_isOpen G hs.1 (a := i) (b := k) (by omega) (by omega)) dL_isHouse_498 rfl gL_isHouse_L_isOpen rfl qL_isOpen ⟨rfl, rfl⟩ ⟨Nat.le_of_ble_eq_true rfl, Nat.le_of_ble_eq_true rfl⟩ rfl (Nat.le_of_ble_eq_true rfl) (Nat.le_of_ble_eq_true rfl) (by show _ ≤ 800; omega) ?_
    refine h_aload_n C dL_isHouse_501 rfl ?_
    refine h_iload C dL_isHouse_502 rfl ?_
    refine h_iload C dL_isHouse_504 rfl ?_
    refine h_callXs T (rd_isOpen G hs.1 (a := k) (b := i) (by omega) (by omega)) dL_isHouse_506 rfl gL_isHouse_L_isOpen rfl qL_isOpen ⟨rfl, rfl⟩ ⟨Nat.le_of_ble_eq_true rfl, Nat.le_of_ble_eq_true rfl⟩ rfl (Nat.le_of_ble_eq_true rfl) (Nat.le_of_ble_eq_true rfl) (by show _ ≤ 800; omega) ?_
    refine h_icmp_ne (t := 534) C dL_isHouse_509 (by decide) (fun kc509 => absurd (mOpn_sym hsy (by omega) (by omega)) kc509) (fun kc509 => ?_)
    refine h_join (t := 535) (v := .int (1)) (k' := m + 3 * k + 3) ?_ (fun K512 => ?_)
    ·
      refine h_istore_n C dL_isHouse_535 (L' := [_, _, _, _, _, _, _, _, _, _]) (by decide) (Nat.lt_of_lt_of_le (by decide : (3 : Nat) < 10) (Nat.le_refl _)) rfl ?_
      refine h_iinc C dL_isHouse_536 (L' := [_, _, _, _, _, _, _, _, _, _]) (by decide) rfl (nI_1 k) rfl ?_
      refine h_goto (t := 483) C dL_isHouse_539 (by decide) ?_
      exact h_widen (by omega) (ih (k + 1) (by omega))
    ·
      refine h_iload C dL_isHouse_512 rfl ?_
      refine h_iload C dL_isHouse_514 rfl ?_
      refine h_icmp_ne (t := 530) C dL_isHouse_516 (by decide) (fun kc516 => ?_) (fun kc516 => ?_)
      · -- t
        refine h_iconst (v := 1) C dL_isHouse_530 (by decide) ?_
        refine h_goto (t := 535) C dL_isHouse_531 (by decide) ?_
        exact h_kE K512 (by omega) (rfl)
      · -- f
        refine h_aload_n C dL_isHouse_519 rfl ?_
        refine h_iload C dL_isHouse_520 rfl ?_
        refine h_iload C dL_isHouse_522 rfl ?_
        refine h_callXs T (rd_isOpen G hs.1 (a := i) (b := k) (by omega) (by omega)) dL_isHouse_524 rfl gL_isHouse_L_isOpen rfl qL_isOpen ⟨rfl, rfl⟩ ⟨Nat.le_of_ble_eq_true rfl, Nat.le_of_ble_eq_true rfl⟩ rfl (Nat.le_of_ble_eq_true rfl) (Nat.le_of_ble_eq_true rfl) (by show _ ≤ 800; omega) ?_
        refine h_if_ne (t := 534) C dL_isHouse_527 (by decide) (fun kc527 => absurd (by have e9 : k = i := (by have h1 := congrArg cN kc516; rw [cN_nI (by omega), cN_nI (by omega)] at h1; exact h1); subst e9; exact if_pos rfl) kc527) (fun kc527 => ?_)
        refine h_iconst (v := 1) C dL_isHouse_530 (by decide) ?_
        refine h_goto (t := 535) C dL_isHouse_531 (by decide) ?_
        exact h_kE K512 (by omega) (rfl)
theorem ag_1 {r : Rw} {a R ns nr ne t tl : Nat} (I : Inv r R ns nr ne t tl) (h : nI (hMa r a ns) ≤ 1) : mAgrI r (nI a) = 0 := by rw [hAgr I, if_neg (fun z => Int32.not_lt.mpr h z.1)]
theorem ag_2 {r : Rw} {a R ns nr ne t tl : Nat} (I : Inv r R ns nr ne t tl) (h : hSu r a ns < r 1) : mAgrI r (nI a) = 0 := by rw [hAgr I, if_neg (fun z => Int32.not_le.mpr h z.2)]
theorem ag_3 {r : Rw} {a R ns nr ne t tl : Nat} (I : Inv r R ns nr ne t tl) (h : ¬ nI (hMa r a ns) ≤ 1) (h2 : ¬ hSu r a ns < r 1) : mAgrI r (nI a) = 1 := by rw [hAgr I, if_pos ⟨Int32.not_le.mp h, Int32.not_lt.mp h2⟩]
theorem al_1 {r : Rw} {k : Nat} (h : r (24 + k) ≤ 0) : mAlaI r k = 0 := if_neg (fun z => Int32.not_lt.mpr h z.1)
theorem al_2 {r : Rw} {k : Nat} (h : ¬ r (28 + k) = 0) : mAlaI r k = 0 := if_neg (fun z => h z.2)
theorem al_3 {r : Rw} {k : Nat} (h : ¬ r (24 + k) ≤ 0) (h2 : r (28 + k) = 0) : mAlaI r k = 1 := if_pos ⟨Int32.not_le.mp h, h2⟩
set_option maxHeartbeats 4000000 in
set_option maxRecDepth 100000 in
theorem l_house1 {x : xC} {b0 : Nat} (T : Ct x mL_isHouse) {r : Rw} {R ns nr ne t kp Tm : Nat} {qs : Nat → Rw} (G : Gd r R ns nr ne t) (hs : Gs Tm kp qs) (x2 : Int32) {Z : State → Prop} (kx : ∀ v5 v6 v7 v8 v9 : Option Value, Hs x b0 548 [some (.ref 0), some (.int (nI R)), some (.int x2), some (.int 1), some (.int (nI R)), v5, v6, v7, v8, v9] [] r kp qs (20 + 100 * R) Z) : ∀ n k : Nat, k + n = R → ∀ v5 v6 v7 v8 v9 : Option Value, Hs x b0 129 [some (.ref 0), some (.int (nI R)), some (.int x2), some (.int 1), some (.int (nI k)), v5, v6, v7, v8, v9] [] r kp qs (20 + 100 * k) Z := by
  have C := T.1
  intro n
  induction n with
  | zero =>
    intro k hk
    intro v5 v6 v7 v8 v9
    have h8 := G.1.1.2.1.2
    have hR4 := G.1.1.1.2.2
    refine h_iload C dL_isHouse_129 rfl ?_
    refine h_iload_n C dL_isHouse_131 rfl ?_
    refine h_icmp_ge (t := 548) C dL_isHouse_132 (by decide) (fun kc132 => ?_) (fun kc132 => absurd (by rw [show k = R by omega]; exact Int32.le_refl _) kc132)
    obtain rfl : k = R := by omega
    exact kx v5 v6 v7 v8 v9
  | succ n ih =>
    intro k hk
    intro v5 v6 v7 v8 v9
    have h8 := G.1.1.2.1.2
    have hR4 := G.1.1.1.2.2
    have hd := G.1.2.2.2.2.2.2.1 k (by omega)
    refine h_iload C dL_isHouse_129 rfl ?_
    refine h_iload_n C dL_isHouse_131 rfl ?_
    refine h_icmp_ge (t := 548) C dL_isHouse_132 (by decide) (fun kc132 => absurd kc132 (nI_ge (by omega) (by omega))) (fun kc132 => ?_)
    refine h_iload_n C dL_isHouse_135 rfl ?_
    refine h_if_eq (t := 548) C dL_isHouse_136 (by decide) (fun kc136 => absurd kc136 (by decide)) (fun kc136 => ?_)
    refine h_iconst (v := 0) C dL_isHouse_139 (by decide) ?_
    refine h_istore C dL_isHouse_140 (L' := [_, _, _, _, _, _, _, _, _, _]) (by decide) (Nat.lt_of_lt_of_le (by decide : (5 : Nat) < 10) (Nat.le_refl _)) rfl ?_
    refine h_iconst (v := 0) C dL_isHouse_142 (by decide) ?_
    refine h_istore C dL_isHouse_143 (L' := [_, _, _, _, _, _, _, _, _, _]) (by decide) (Nat.lt_of_lt_of_le (by decide : (6 : Nat) < 10) (Nat.le_refl _)) rfl ?_
    refine h_iconst (v := 0) C dL_isHouse_145 (by decide) ?_
    refine h_istore C dL_isHouse_146 (L' := [_, _, _, _, _, _, _, _, _, _]) (by decide) (Nat.lt_of_lt_of_le (by decide : (7 : Nat) < 10) (Nat.le_refl _)) rfl ?_
    refine h_iconst (v := 0) C dL_isHouse_148 (by decide) ?_
    refine h_istore C dL_isHouse_149 (L' := [_, _, _, _, _, _, _, _, _, _]) (by decide) (Nat.lt_of_lt_of_le (by decide : (8 : Nat) < 10) (Nat.le_refl _)) rfl ?_
    refine l_house2 T G hs k (20 + 100 * k) (by omega) (by omega) x2 (fun v9 => ?_) ns 0 (Nat.zero_add _) _
    refine h_iload_n C dL_isHouse_327 rfl ?_
    refine h_if_eq (t := 478) C dL_isHouse_328 (by decide) (fun kc328 => absurd kc328 (by decide)) (fun kc328 => ?_)
    refine h_aload_n C dL_isHouse_331 rfl ?_
    refine h_iload C dL_isHouse_332 rfl ?_
    refine h_iconst (v := 5) C dL_isHouse_334 (by decide) ?_
    refine h_callXs T (rd_room5 G hs.1 (i := k) (by omega)) dL_isHouse_335 rfl gL_isHouse_L_room rfl qL_room ⟨rfl, rfl⟩ ⟨Nat.le_of_ble_eq_true rfl, Nat.le_of_ble_eq_true rfl⟩ rfl (Nat.le_of_ble_eq_true rfl) (Nat.le_of_ble_eq_true rfl) (by show _ ≤ 800; omega) ?_
    refine h_iload C dL_isHouse_338 rfl ?_
    refine h_icmp_ne (t := 478) C dL_isHouse_340 (by decide) (fun kc340 => absurd (rfl) kc340) (fun kc340 => ?_)
    refine h_aload_n C dL_isHouse_343 rfl ?_
    refine h_iload C dL_isHouse_344 rfl ?_
    refine h_bipush (v := 6) C dL_isHouse_346 (by decide) ?_
    refine h_callXs T (rd_room6 G hs.1 (i := k) (by omega)) dL_isHouse_348 rfl gL_isHouse_L_room rfl qL_room ⟨rfl, rfl⟩ ⟨Nat.le_of_ble_eq_true rfl, Nat.le_of_ble_eq_true rfl⟩ rfl (Nat.le_of_ble_eq_true rfl) (Nat.le_of_ble_eq_true rfl) (by show _ ≤ 800; omega) ?_
    refine h_iload C dL_isHouse_351 rfl ?_
    refine h_icmp_ne (t := 478) C dL_isHouse_353 (by decide) (fun kc353 => absurd (hSu_wei h8 ns (Nat.le_refl _)) kc353) (fun kc353 => ?_)
    refine h_join (t := 372) (v := .int (mAgrI r (nI k))) (k' := 20 + 100 * k + 9 * ns + 4) ?_ (fun K356 => ?_)
    ·
      refine h_join (t := 393) (v := .int (mAgrI r (nI k))) (k' := 20 + 100 * k + 9 * ns + 5) ?_ (fun K372 => ?_)
      ·
        refine h_icmp_ne (t := 478) C dL_isHouse_393 (by decide) (fun kc393 => absurd (rfl) kc393) (fun kc393 => ?_)
        refine h_join (t := 412) (v := .int (mAlaI r k)) (k' := 20 + 100 * k + 9 * ns + 6) ?_ (fun K396 => ?_)
        ·
          refine h_join (t := 437) (v := .int (mAlaI r k)) (k' := 20 + 100 * k + 9 * ns + 8) ?_ (fun K412 => ?_)
          ·
            refine h_icmp_ne (t := 478) C dL_isHouse_437 (by decide) (fun kc437 => absurd (rfl) kc437) (fun kc437 => ?_)
            refine h_aload_n C dL_isHouse_440 rfl ?_
            refine h_iload C dL_isHouse_441 rfl ?_
            refine h_iconst (v := 0) C dL_isHouse_443 (by decide) ?_
            refine h_callXs T (rd_room0 G hs.1 (i := k) (by omega)) dL_isHouse_444 rfl gL_isHouse_L_room rfl qL_room ⟨rfl, rfl⟩ ⟨Nat.le_of_ble_eq_true rfl, Nat.le_of_ble_eq_true rfl⟩ rfl (Nat.le_of_ble_eq_true rfl) (Nat.le_of_ble_eq_true rfl) (by show _ ≤ 800; omega) ?_
            refine h_if_lt (t := 478) C dL_isHouse_447 (by decide) (fun kc447 => absurd kc447 (Int32.not_lt.mpr hd.1.1)) (fun kc447 => ?_)
            refine h_aload_n C dL_isHouse_450 rfl ?_
            refine h_iload C dL_isHouse_451 rfl ?_
            refine h_iconst (v := 0) C dL_isHouse_453 (by decide) ?_
            refine h_callXs T (rd_room0 G hs.1 (i := k) (by omega)) dL_isHouse_454 rfl gL_isHouse_L_room rfl qL_room ⟨rfl, rfl⟩ ⟨Nat.le_of_ble_eq_true rfl, Nat.le_of_ble_eq_true rfl⟩ rfl (Nat.le_of_ble_eq_true rfl) (Nat.le_of_ble_eq_true rfl) (by show _ ≤ 800; omega) ?_
            refine h_ldc (v := 99999) C dL_isHouse_457 (by decide +kernel) ?_
            refine h_icmp_gt (t := 478) C dL_isHouse_459 (by decide) (fun kc459 => absurd kc459 (Int32.not_lt.mpr (G.2.1 k (by omega)))) (fun kc459 => ?_)
            refine h_aload_n C dL_isHouse_462 rfl ?_
            refine h_iload C dL_isHouse_463 rfl ?_
            refine h_iconst (v := 1) C dL_isHouse_465 (by decide) ?_
            refine h_callXs T (rd_room1 G hs.1 (i := k) (by omega)) dL_isHouse_466 rfl gL_isHouse_L_room rfl qL_room ⟨rfl, rfl⟩ ⟨Nat.le_of_ble_eq_true rfl, Nat.le_of_ble_eq_true rfl⟩ rfl (Nat.le_of_ble_eq_true rfl) (Nat.le_of_ble_eq_true rfl) (by show _ ≤ 800; omega) ?_
            refine h_bipush (v := 31) C dL_isHouse_469 (by decide) ?_
            refine h_icmp_gt (t := 478) C dL_isHouse_471 (by decide) (fun kc471 => absurd kc471 (Int32.not_lt.mpr hd.2.1.2)) (fun kc471 => ?_)
            refine h_iconst (v := 1) C dL_isHouse_474 (by decide) ?_
            refine h_goto (t := 479) C dL_isHouse_475 (by decide) ?_
            refine h_istore_n C dL_isHouse_479 (L' := [_, _, _, _, _, _, _, _, _, _]) (by decide) (Nat.lt_of_lt_of_le (by decide : (3 : Nat) < 10) (Nat.le_refl _)) rfl ?_
            refine h_iconst (v := 0) C dL_isHouse_480 (by decide) ?_
            refine h_istore C dL_isHouse_481 (L' := [_, _, _, _, _, _, _, _, _, _]) (by decide) (Nat.lt_of_lt_of_le (by decide : (8 : Nat) < 10) (Nat.le_refl _)) rfl ?_
            refine h_rel (fun σ hσ => rel_sym hσ) (fun hsy => ?_)
            refine h_widen (k' := 20 + 100 * k + 9 * ns + 12) (by omega) ?_
            refine l_house3 T G hs hsy k (20 + 100 * k + 9 * ns + 12) (by omega) (by omega) _ _ _ _ _ ?_ (R + 1) 0 (Nat.zero_add _)
            refine h_iinc C dL_isHouse_542 (L' := [_, _, _, _, _, _, _, _, _, _]) (by decide) rfl (nI_1 k) rfl ?_
            refine h_goto (t := 129) C dL_isHouse_545 (by decide) ?_
            exact h_widen (by omega) (ih (k + 1) (by omega) _ _ _ _ _)
          ·
            refine h_aload_n C dL_isHouse_412 rfl ?_
            refine h_iload C dL_isHouse_413 rfl ?_
            refine h_iconst (v := 1) C dL_isHouse_415 (by decide) ?_
            refine h_callXs T (rd_room1 G hs.1 (i := k) (by omega)) dL_isHouse_416 rfl gL_isHouse_L_room rfl qL_room ⟨rfl, rfl⟩ ⟨Nat.le_of_ble_eq_true rfl, Nat.le_of_ble_eq_true rfl⟩ rfl (Nat.le_of_ble_eq_true rfl) (Nat.le_of_ble_eq_true rfl) (by show _ ≤ 800; omega) ?_
            refine h_if_le (t := 436) C dL_isHouse_419 (by decide) (fun kc419 => ?_) (fun kc419 => ?_)
            · -- t
              refine h_iconst (v := 0) C dL_isHouse_436 (by decide) ?_
              exact h_kE K412 (by omega) (by first | exact (al_1 kc419).symm | exact (al_2 kc429).symm | exact (al_3 kc419 kc429).symm)
            · -- f
              refine h_aload_n C dL_isHouse_422 rfl ?_
              refine h_iload C dL_isHouse_423 rfl ?_
              refine h_iconst (v := 2) C dL_isHouse_425 (by decide) ?_
              refine h_callXs T (rd_room2 G hs.1 (i := k) (by omega)) dL_isHouse_426 rfl gL_isHouse_L_room rfl qL_room ⟨rfl, rfl⟩ ⟨Nat.le_of_ble_eq_true rfl, Nat.le_of_ble_eq_true rfl⟩ rfl (Nat.le_of_ble_eq_true rfl) (Nat.le_of_ble_eq_true rfl) (by show _ ≤ 800; omega) ?_
              refine h_if_ne (t := 436) C dL_isHouse_429 (by decide) (fun kc429 => ?_) (fun kc429 => ?_)
              · -- t
                refine h_iconst (v := 0) C dL_isHouse_436 (by decide) ?_
                exact h_kE K412 (by omega) (by first | exact (al_1 kc419).symm | exact (al_2 kc429).symm | exact (al_3 kc419 kc429).symm)
              · -- f
                refine h_iconst (v := 1) C dL_isHouse_432 (by decide) ?_
                refine h_goto (t := 437) C dL_isHouse_433 (by decide) ?_
                exact h_kE K412 (by omega) (by first | exact (al_1 kc419).symm | exact (al_2 kc429).symm | exact (al_3 kc419 kc429).symm)
        ·
          refine h_aload_n C dL_isHouse_396 rfl ?_
          refine h_iload C dL_isHouse_397 rfl ?_
          refine h_iconst (v := 3) C dL_isHouse_399 (by decide) ?_
          refine h_callXs T (rd_room3 G hs.1 (i := k) (by omega)) dL_isHouse_400 rfl gL_isHouse_L_room rfl qL_room ⟨rfl, rfl⟩ ⟨Nat.le_of_ble_eq_true rfl, Nat.le_of_ble_eq_true rfl⟩ rfl (Nat.le_of_ble_eq_true rfl) (Nat.le_of_ble_eq_true rfl) (by show _ ≤ 800; omega) ?_
          refine h_iconst (v := 1) C dL_isHouse_403 (by decide) ?_
          refine h_icmp_ne (t := 411) C dL_isHouse_404 (by decide) (fun kc404 => ?_) (fun kc404 => ?_)
          · -- t
            refine h_iconst (v := 0) C dL_isHouse_411 (by decide) ?_
            exact h_kE K396 (by omega) (by first | exact kc404.symm | exact ((mAlaI_01 r k).resolve_right kc404).symm)
          · -- f
            refine h_iconst (v := 1) C dL_isHouse_407 (by decide) ?_
            refine h_goto (t := 412) C dL_isHouse_408 (by decide) ?_
            exact h_kE K396 (by omega) (by first | exact kc404.symm | exact ((mAlaI_01 r k).resolve_right kc404).symm)
      ·
        refine h_iload C dL_isHouse_372 rfl ?_
        refine h_iconst (v := 1) C dL_isHouse_374 (by decide) ?_
        refine h_icmp_le (t := 392) C dL_isHouse_375 (by decide) (fun kc375 => ?_) (fun kc375 => ?_)
        · -- t
          refine h_iconst (v := 0) C dL_isHouse_392 (by decide) ?_
          exact h_kE K372 (by omega) (by first | exact (ag_1 G.1 kc375).symm | exact (ag_2 G.1 kc385).symm | exact (ag_3 G.1 kc375 kc385).symm)
        · -- f
          refine h_iload C dL_isHouse_378 rfl ?_
          refine h_aload_n C dL_isHouse_380 rfl ?_
          refine h_iconst (v := 1) C dL_isHouse_381 (by decide) ?_
          refine h_callXs T (rd_info1 G hs.1) dL_isHouse_382 rfl gL_isHouse_L_info rfl qL_info ⟨rfl, rfl⟩ ⟨Nat.le_of_ble_eq_true rfl, Nat.le_of_ble_eq_true rfl⟩ rfl (Nat.le_of_ble_eq_true rfl) (Nat.le_of_ble_eq_true rfl) (by show _ ≤ 800; omega) ?_
          refine h_icmp_lt (t := 392) C dL_isHouse_385 (by decide) (fun kc385 => ?_) (fun kc385 => ?_)
          · -- t
            refine h_iconst (v := 0) C dL_isHouse_392 (by decide) ?_
            exact h_kE K372 (by omega) (by first | exact (ag_1 G.1 kc375).symm | exact (ag_2 G.1 kc385).symm | exact (ag_3 G.1 kc375 kc385).symm)
          · -- f
            refine h_iconst (v := 1) C dL_isHouse_388 (by decide) ?_
            refine h_goto (t := 393) C dL_isHouse_389 (by decide) ?_
            exact h_kE K372 (by omega) (by first | exact (ag_1 G.1 kc375).symm | exact (ag_2 G.1 kc385).symm | exact (ag_3 G.1 kc375 kc385).symm)
    ·
      refine h_aload_n C dL_isHouse_356 rfl ?_
      refine h_iload C dL_isHouse_357 rfl ?_
      refine h_iconst (v := 4) C dL_isHouse_359 (by decide) ?_
      refine h_callXs T (rd_room4 G hs.1 (i := k) (by omega)) dL_isHouse_360 rfl gL_isHouse_L_room rfl qL_room ⟨rfl, rfl⟩ ⟨Nat.le_of_ble_eq_true rfl, Nat.le_of_ble_eq_true rfl⟩ rfl (Nat.le_of_ble_eq_true rfl) (Nat.le_of_ble_eq_true rfl) (by show _ ≤ 800; omega) ?_
      refine h_iconst (v := 1) C dL_isHouse_363 (by decide) ?_
      refine h_icmp_ne (t := 371) C dL_isHouse_364 (by decide) (fun kc364 => ?_) (fun kc364 => ?_)
      · -- t
        refine h_iconst (v := 0) C dL_isHouse_371 (by decide) ?_
        exact h_kE K356 (by omega) (by first | exact kc364.symm | exact ((mAgrI_01 r (nI k)).resolve_right kc364).symm)
      · -- f
        refine h_iconst (v := 1) C dL_isHouse_367 (by decide) ?_
        refine h_goto (t := 372) C dL_isHouse_368 (by decide) ?_
        exact h_kE K356 (by omega) (by first | exact kc364.symm | exact ((mAgrI_01 r (nI k)).resolve_right kc364).symm)
theorem ev_late {r : Rw} {R ns nr ne t k : Nat} (I : Inv r R ns nr ne t (t + 1)) (hk : k < ne) : ¬ r (145 + 4 * k + 0) ≤ nI t := by
  obtain ⟨⟨m, e, h1, h2⟩, -⟩ := I.2.2.2.1 k hk
  rw [e]
  exact nI_ge (by omega) (by omega)
set_option maxHeartbeats 4000000 in
set_option maxRecDepth 100000 in
theorem l_house4 {x : xC} {b0 : Nat} (T : Ct x mL_isHouse) {r : Rw} {R ns nr ne t kp Tm : Nat} {qs : Nat → Rw} (G : Gd r R ns nr ne t) (hs : Gs Tm kp qs) (x2 : Int32) (v1 v5 v6 v7 v8 v9 : Option Value) {Z : State → Prop} (kx : Hs x b0 618 [some (.ref 0), v1, some (.int x2), some (.int 1), some (.int (nI ne)), v5, v6, v7, v8, v9] [] r kp qs (420 + 5 * ne + 1) Z) : ∀ n k : Nat, k + n = ne → Hs x b0 551 [some (.ref 0), v1, some (.int x2), some (.int 1), some (.int (nI k)), v5, v6, v7, v8, v9] [] r kp qs (420 + 5 * k) Z := by
  have C := T.1
  intro n
  induction n with
  | zero =>
    intro k hk
    have h20 := G.1.1.2.2.2.1.2
    have ht9 := G.1.1.2.2.2.2.2
    refine h_iload C dL_isHouse_551 rfl ?_
    refine h_aload_n C dL_isHouse_553 rfl ?_
    refine h_bipush (v := 14) C dL_isHouse_554 (by decide) ?_
    refine h_callXs T (rd_info14 G hs.1) dL_isHouse_556 rfl gL_isHouse_L_info rfl qL_info ⟨rfl, rfl⟩ ⟨Nat.le_of_ble_eq_true rfl, Nat.le_of_ble_eq_true rfl⟩ rfl (Nat.le_of_ble_eq_true rfl) (Nat.le_of_ble_eq_true rfl) (by show _ ≤ 800; omega) ?_
    refine h_icmp_ge (t := 618) C dL_isHouse_559 (by decide) (fun kc559 => ?_) (fun kc559 => absurd (by rw [show k = ne by omega]; exact Int32.le_refl _) kc559)
    obtain rfl : k = ne := by omega
    exact kx
  | succ n ih =>
    intro k hk
    have h20 := G.1.1.2.2.2.1.2
    have ht9 := G.1.1.2.2.2.2.2
    refine h_iload C dL_isHouse_551 rfl ?_
    refine h_aload_n C dL_isHouse_553 rfl ?_
    refine h_bipush (v := 14) C dL_isHouse_554 (by decide) ?_
    refine h_callXs T (rd_info14 G hs.1) dL_isHouse_556 rfl gL_isHouse_L_info rfl qL_info ⟨rfl, rfl⟩ ⟨Nat.le_of_ble_eq_true rfl, Nat.le_of_ble_eq_true rfl⟩ rfl (Nat.le_of_ble_eq_true rfl) (Nat.le_of_ble_eq_true rfl) (by show _ ≤ 800; omega) ?_
    refine h_icmp_ge (t := 618) C dL_isHouse_559 (by decide) (fun kc559 => absurd kc559 (nI_ge (by omega) (by omega))) (fun kc559 => ?_)
    refine h_iload_n C dL_isHouse_562 rfl ?_
    refine h_if_eq (t := 618) C dL_isHouse_563 (by decide) (fun kc563 => absurd kc563 (by decide)) (fun kc563 => ?_)
    refine h_aload_n C dL_isHouse_566 rfl ?_
    refine h_iload C dL_isHouse_567 rfl ?_
    refine h_iconst (v := 0) C dL_isHouse_569 (by decide) ?_
    refine h_callXs T (rd_event0 G hs.1 (i := k) (by omega)) dL_isHouse_570 rfl gL_isHouse_L_event rfl qL_event ⟨rfl, rfl⟩ ⟨Nat.le_of_ble_eq_true rfl, Nat.le_of_ble_eq_true rfl⟩ rfl (Nat.le_of_ble_eq_true rfl) (Nat.le_of_ble_eq_true rfl) (by show _ ≤ 800; omega) ?_
    refine h_aload_n C dL_isHouse_573 rfl ?_
    refine h_bipush (v := 7) C dL_isHouse_574 (by decide) ?_
    refine h_callXs T (rd_info7 G hs.1) dL_isHouse_576 rfl gL_isHouse_L_info rfl qL_info ⟨rfl, rfl⟩ ⟨Nat.le_of_ble_eq_true rfl, Nat.le_of_ble_eq_true rfl⟩ rfl (Nat.le_of_ble_eq_true rfl) (Nat.le_of_ble_eq_true rfl) (by show _ ≤ 800; omega) ?_
    refine h_icmp_le (t := 610) C dL_isHouse_579 (by decide) (fun kc579 => absurd kc579 (ev_late G.1 (by omega))) (fun kc579 => ?_)
    refine h_join (t := 611) (v := .int (1)) (k' := 420 + 5 * k + 5) ?_ (fun K582 => ?_)
    ·
      refine h_istore_n C dL_isHouse_611 (L' := [_, _, _, _, _, _, _, _, _, _]) (by decide) (Nat.lt_of_lt_of_le (by decide : (3 : Nat) < 10) (Nat.le_refl _)) rfl ?_
      refine h_iinc C dL_isHouse_612 (L' := [_, _, _, _, _, _, _, _, _, _]) (by decide) rfl (nI_1 k) rfl ?_
      refine h_goto (t := 551) C dL_isHouse_615 (by decide) ?_
      exact h_widen (by omega) (ih (k + 1) (by omega))
    ·
      refine h_iload C dL_isHouse_582 rfl ?_
      refine h_if_eq (t := 606) C dL_isHouse_584 (by decide) (fun kc584 => ?_) (fun kc584 => ?_)
      · -- t
        refine h_iconst (v := 1) C dL_isHouse_606 (by decide) ?_
        refine h_goto (t := 611) C dL_isHouse_607 (by decide) ?_
        exact h_kE K582 (by omega) (rfl)
      · -- f
        obtain ⟨j, rfl⟩ : ∃ j, k = j + 1 := ⟨k - 1, by have : ¬ k = 0 := fun z => kc584 (by rw [z]; rfl); omega⟩
        refine h_aload_n C dL_isHouse_587 rfl ?_
        refine h_iload C dL_isHouse_588 rfl ?_
        refine h_iconst (v := 0) C dL_isHouse_590 (by decide) ?_
        refine h_callXs T (rd_event0 G hs.1 (i := (j + 1)) (by omega)) dL_isHouse_591 rfl gL_isHouse_L_event rfl qL_event ⟨rfl, rfl⟩ ⟨Nat.le_of_ble_eq_true rfl, Nat.le_of_ble_eq_true rfl⟩ rfl (Nat.le_of_ble_eq_true rfl) (Nat.le_of_ble_eq_true rfl) (by show _ ≤ 800; omega) ?_
        refine h_aload_n C dL_isHouse_594 rfl ?_
        refine h_iload C dL_isHouse_595 rfl ?_
        refine h_iconst (v := 1) C dL_isHouse_597 (by decide) ?_
        refine h_isub C dL_isHouse_598 ?_
        refine h_topE (nI j) (nI_pred j) ?_
        refine h_iconst (v := 0) C dL_isHouse_599 (by decide) ?_
        refine h_callXs T (rd_event0 G hs.1 (i := j) (by omega)) dL_isHouse_600 rfl gL_isHouse_L_event rfl qL_event ⟨rfl, rfl⟩ ⟨Nat.le_of_ble_eq_true rfl, Nat.le_of_ble_eq_true rfl⟩ rfl (Nat.le_of_ble_eq_true rfl) (Nat.le_of_ble_eq_true rfl) (by show _ ≤ 800; omega) ?_
        refine h_icmp_lt (t := 610) C dL_isHouse_603 (by decide) (fun kc603 => absurd kc603 (Int32.not_lt.mpr (G.1.2.2.2.2.1 j (by omega)))) (fun kc603 => ?_)
        refine h_iconst (v := 1) C dL_isHouse_606 (by decide) ?_
        refine h_goto (t := 611) C dL_isHouse_607 (by decide) ?_
        exact h_kE K582 (by omega) (rfl)
theorem dr_1 {r : Rw} (h : 0 ≤ r 5 * r 4 / 8 - r 0) : mDra r = r 5 * r 4 / 8 - r 0 := if_neg (Int32.not_lt.mpr h)
theorem dr_2 {r : Rw} (h : ¬ 0 ≤ r 5 * r 4 / 8 - r 0) : mDra r = 0 := if_pos (Int32.not_le.mp h)
theorem ap_lt {r : Rw} {R ns nr ne t tl : Nat} (I : Inv r R ns nr ne t tl) : ¬ nI nr ≤ mFst r := by
  have h8 := I.1.2.2.1.2
  rcases mFst_cases I with h | ⟨i, hi, h⟩
  · rw [h]
    exact Int32.not_le.mpr (Int32.lt_of_lt_of_le (by decide) (nI_pos' (n := nr) (by omega)))
  · rw [h]
    exact nI_ge hi (by omega)
theorem le_t {r : Rw} {R ns nr ne t tl : Nat} (I : Inv r R ns nr ne t tl) {u : Int32} (h : ∃ a, u = nI a ∧ a ≤ t) : u ≤ nI t := by
  obtain ⟨a, rfl, h⟩ := h
  exact nI_le h (by have := I.1.2.2.2.2.2; omega)
set_option maxHeartbeats 4000000 in
set_option maxRecDepth 100000 in
theorem e_L_isHouse {r : Rw} {R ns nr ne t kp Tm : Nat} {qs : Nat → Rw} (G : Gd r R ns nr ne t) (hs : Gs Tm kp qs) : Xh 800 mL_isHouse [.ref 0] r kp qs (1) r (Gs Tm) := by
  have h20 := G.1.1.2.2.2.1.2
  have hR4 := G.1.1.1.2.2
  obtain ⟨-, -, -, d4, d5, d8, -⟩ := G.1.2.2.2.2.2.1
  refine Xh_mk (L := [some (.ref 0), none, none, none, none, none, none, none, none, none]) (by decide) rfl (Nat.le_of_ble_eq_true rfl) rfl (fun x b0 T => ?_)
  have C := T.1
  refine h_aload_n C dL_isHouse_0 rfl ?_
  refine h_bipush (v := 6) C dL_isHouse_1 (by decide) ?_
  refine h_callXs T (rd_info6 G hs.1) dL_isHouse_3 rfl gL_isHouse_L_info rfl qL_info ⟨rfl, rfl⟩ ⟨Nat.le_of_ble_eq_true rfl, Nat.le_of_ble_eq_true rfl⟩ rfl (Nat.le_of_ble_eq_true rfl) (Nat.le_of_ble_eq_true rfl) (Nat.le_of_ble_eq_true rfl) ?_
  refine h_istore_n C dL_isHouse_6 (L' := [_, _, _, _, _, _, _, _, _, _]) (by decide) (Nat.lt_of_lt_of_le (by decide : (1 : Nat) < 10) (Nat.le_refl _)) rfl ?_
  refine h_aload_n C dL_isHouse_7 rfl ?_
  refine h_iconst (v := 5) C dL_isHouse_8 (by decide) ?_
  refine h_callXs T (rd_info5 G hs.1) dL_isHouse_9 rfl gL_isHouse_L_info rfl qL_info ⟨rfl, rfl⟩ ⟨Nat.le_of_ble_eq_true rfl, Nat.le_of_ble_eq_true rfl⟩ rfl (Nat.le_of_ble_eq_true rfl) (Nat.le_of_ble_eq_true rfl) (Nat.le_of_ble_eq_true rfl) ?_
  refine h_aload_n C dL_isHouse_12 rfl ?_
  refine h_iconst (v := 4) C dL_isHouse_13 (by decide) ?_
  refine h_callXs T (rd_info4 G hs.1) dL_isHouse_14 rfl gL_isHouse_L_info rfl qL_info ⟨rfl, rfl⟩ ⟨Nat.le_of_ble_eq_true rfl, Nat.le_of_ble_eq_true rfl⟩ rfl (Nat.le_of_ble_eq_true rfl) (Nat.le_of_ble_eq_true rfl) (Nat.le_of_ble_eq_true rfl) ?_
  refine h_imul C dL_isHouse_17 ?_
  refine h_bipush (v := 8) C dL_isHouse_18 (by decide) ?_
  refine h_idiv C dL_isHouse_20 (by decide) ?_
  refine h_aload_n C dL_isHouse_21 rfl ?_
  refine h_iconst (v := 0) C dL_isHouse_22 (by decide) ?_
  refine h_callXs T (rd_info0 G hs.1) dL_isHouse_23 rfl gL_isHouse_L_info rfl qL_info ⟨rfl, rfl⟩ ⟨Nat.le_of_ble_eq_true rfl, Nat.le_of_ble_eq_true rfl⟩ rfl (Nat.le_of_ble_eq_true rfl) (Nat.le_of_ble_eq_true rfl) (Nat.le_of_ble_eq_true rfl) ?_
  refine h_isub C dL_isHouse_26 ?_
  refine h_istore_n C dL_isHouse_27 (L' := [_, _, _, _, _, _, _, _, _, _]) (by decide) (Nat.lt_of_lt_of_le (by decide : (2 : Nat) < 10) (Nat.le_refl _)) rfl ?_
  refine h_aload_n C dL_isHouse_28 rfl ?_
  refine h_bipush (v := 11) C dL_isHouse_29 (by decide) ?_
  refine h_callXs T (rd_info11 G hs.1) dL_isHouse_31 rfl gL_isHouse_L_info rfl qL_info ⟨rfl, rfl⟩ ⟨Nat.le_of_ble_eq_true rfl, Nat.le_of_ble_eq_true rfl⟩ rfl (Nat.le_of_ble_eq_true rfl) (Nat.le_of_ble_eq_true rfl) (Nat.le_of_ble_eq_true rfl) ?_
  refine h_join (t := 43) (v := .int (mDra r)) (k' := 5) ?_ (fun K34 => ?_)
  ·
    refine h_icmp_ne (t := 124) C dL_isHouse_43 (by decide) (fun kc43 => absurd (rfl) kc43) (fun kc43 => ?_)
    refine h_aload_n C dL_isHouse_46 rfl ?_
    refine h_bipush (v := 9) C dL_isHouse_47 (by decide) ?_
    refine h_callXs T (rd_info9 G hs.1) dL_isHouse_49 rfl gL_isHouse_L_info rfl qL_info ⟨rfl, rfl⟩ ⟨Nat.le_of_ble_eq_true rfl, Nat.le_of_ble_eq_true rfl⟩ rfl (Nat.le_of_ble_eq_true rfl) (Nat.le_of_ble_eq_true rfl) (Nat.le_of_ble_eq_true rfl) ?_
    refine h_join (t := 76) (v := .int (mStr r)) (k' := 8) ?_ (fun K52 => ?_)
    ·
      refine h_icmp_ne (t := 124) C dL_isHouse_76 (by decide) (fun kc76 => absurd (rfl) kc76) (fun kc76 => ?_)
      refine h_aload_n C dL_isHouse_79 rfl ?_
      refine h_iconst (v := 4) C dL_isHouse_80 (by decide) ?_
      refine h_callXs T (rd_info4 G hs.1) dL_isHouse_81 rfl gL_isHouse_L_info rfl qL_info ⟨rfl, rfl⟩ ⟨Nat.le_of_ble_eq_true rfl, Nat.le_of_ble_eq_true rfl⟩ rfl (Nat.le_of_ble_eq_true rfl) (Nat.le_of_ble_eq_true rfl) (Nat.le_of_ble_eq_true rfl) ?_
      refine h_if_lt (t := 124) C dL_isHouse_84 (by decide) (fun kc84 => absurd kc84 (Int32.not_lt.mpr d4.1)) (fun kc84 => ?_)
      refine h_aload_n C dL_isHouse_87 rfl ?_
      refine h_iconst (v := 4) C dL_isHouse_88 (by decide) ?_
      refine h_callXs T (rd_info4 G hs.1) dL_isHouse_89 rfl gL_isHouse_L_info rfl qL_info ⟨rfl, rfl⟩ ⟨Nat.le_of_ble_eq_true rfl, Nat.le_of_ble_eq_true rfl⟩ rfl (Nat.le_of_ble_eq_true rfl) (Nat.le_of_ble_eq_true rfl) (Nat.le_of_ble_eq_true rfl) ?_
      refine h_bipush (v := 8) C dL_isHouse_92 (by decide) ?_
      refine h_icmp_gt (t := 124) C dL_isHouse_94 (by decide) (fun kc94 => absurd kc94 (Int32.not_lt.mpr d4.2)) (fun kc94 => ?_)
      refine h_aload_n C dL_isHouse_97 rfl ?_
      refine h_bipush (v := 8) C dL_isHouse_98 (by decide) ?_
      refine h_callXs T (rd_info8 G hs.1) dL_isHouse_100 rfl gL_isHouse_L_info rfl qL_info ⟨rfl, rfl⟩ ⟨Nat.le_of_ble_eq_true rfl, Nat.le_of_ble_eq_true rfl⟩ rfl (Nat.le_of_ble_eq_true rfl) (Nat.le_of_ble_eq_true rfl) (Nat.le_of_ble_eq_true rfl) ?_
      refine h_sipush (v := 200) C dL_isHouse_103 (by decide) ?_
      refine h_icmp_gt (t := 124) C dL_isHouse_106 (by decide) (fun kc106 => absurd kc106 (Int32.not_lt.mpr d8.2)) (fun kc106 => ?_)
      refine h_aload_n C dL_isHouse_109 rfl ?_
      refine h_iconst (v := 5) C dL_isHouse_110 (by decide) ?_
      refine h_callXs T (rd_info5 G hs.1) dL_isHouse_111 rfl gL_isHouse_L_info rfl qL_info ⟨rfl, rfl⟩ ⟨Nat.le_of_ble_eq_true rfl, Nat.le_of_ble_eq_true rfl⟩ rfl (Nat.le_of_ble_eq_true rfl) (Nat.le_of_ble_eq_true rfl) (Nat.le_of_ble_eq_true rfl) ?_
      refine h_sipush (v := 999) C dL_isHouse_114 (by decide) ?_
      refine h_icmp_gt (t := 124) C dL_isHouse_117 (by decide) (fun kc117 => absurd kc117 (Int32.not_lt.mpr d5.2)) (fun kc117 => ?_)
      refine h_iconst (v := 1) C dL_isHouse_120 (by decide) ?_
      refine h_goto (t := 125) C dL_isHouse_121 (by decide) ?_
      refine h_istore_n C dL_isHouse_125 (L' := [_, _, _, _, _, _, _, _, _, _]) (by decide) (Nat.lt_of_lt_of_le (by decide : (3 : Nat) < 10) (Nat.le_refl _)) rfl ?_
      refine h_iconst (v := 0) C dL_isHouse_126 (by decide) ?_
      refine h_istore C dL_isHouse_127 (L' := [_, _, _, _, _, _, _, _, _, _]) (by decide) (Nat.lt_of_lt_of_le (by decide : (4 : Nat) < 10) (Nat.le_refl _)) rfl ?_
      refine h_widen (k' := 20 + 100 * 0) (Nat.le_of_ble_eq_true rfl) ?_
      refine l_house1 T G hs _ (fun v5 v6 v7 v8 v9 => ?_) R 0 (Nat.zero_add _) _ _ _ _ _
      refine h_widen (k' := 420 + 5 * 0) (by omega) ?_
      refine h_iconst (v := 0) C dL_isHouse_548 (by decide) ?_
      refine h_istore C dL_isHouse_549 (L' := [_, _, _, _, _, _, _, _, _, _]) (by decide) (Nat.lt_of_lt_of_le (by decide : (4 : Nat) < 10) (Nat.le_refl _)) rfl ?_
      refine l_house4 T G hs _ _ _ _ _ _ _ ?_ ne 0 (Nat.zero_add _)
      refine h_widen (k' := 560) (by omega) ?_
      refine h_iload_n C dL_isHouse_618 rfl ?_
      refine h_if_eq (t := 667) C dL_isHouse_619 (by decide) (fun kc619 => absurd kc619 (by decide)) (fun kc619 => ?_)
      refine h_aload_n C dL_isHouse_622 rfl ?_
      refine h_callVg T (rd_apply G) dL_isHouse_623 rfl gL_isHouse_X8_applying rfl is_X8 ⟨rfl, qX8_applying⟩ ⟨rfl, rfl⟩ ⟨Nat.le_of_ble_eq_true rfl, Nat.le_of_ble_eq_true rfl⟩ rfl (Nat.le_of_ble_eq_true rfl) (Nat.le_of_ble_eq_true rfl) (Nat.le_of_ble_eq_true rfl) ?_
      refine h_aload_n C dL_isHouse_626 rfl ?_
      refine h_bipush (v := 13) C dL_isHouse_627 (by decide) ?_
      refine h_callXs T (rd_info13 G hs.1) dL_isHouse_629 rfl gL_isHouse_L_info rfl qL_info ⟨rfl, rfl⟩ ⟨Nat.le_of_ble_eq_true rfl, Nat.le_of_ble_eq_true rfl⟩ rfl (Nat.le_of_ble_eq_true rfl) (Nat.le_of_ble_eq_true rfl) (Nat.le_of_ble_eq_true rfl) ?_
      refine h_icmp_ge (t := 667) C dL_isHouse_632 (by decide) (fun kc632 => absurd kc632 (ap_lt G.1)) (fun kc632 => ?_)
      refine h_aload_n C dL_isHouse_635 rfl ?_
      refine h_iconst (v := 5) C dL_isHouse_636 (by decide) ?_
      refine h_callXs T (rd_told5 G hs.1) dL_isHouse_637 rfl gL_isHouse_L_told rfl qL_told ⟨rfl, rfl⟩ ⟨Nat.le_of_ble_eq_true rfl, Nat.le_of_ble_eq_true rfl⟩ rfl (Nat.le_of_ble_eq_true rfl) (Nat.le_of_ble_eq_true rfl) (Nat.le_of_ble_eq_true rfl) ?_
      refine h_aload_n C dL_isHouse_640 rfl ?_
      refine h_bipush (v := 7) C dL_isHouse_641 (by decide) ?_
      refine h_callXs T (rd_info7 G hs.1) dL_isHouse_643 rfl gL_isHouse_L_info rfl qL_info ⟨rfl, rfl⟩ ⟨Nat.le_of_ble_eq_true rfl, Nat.le_of_ble_eq_true rfl⟩ rfl (Nat.le_of_ble_eq_true rfl) (Nat.le_of_ble_eq_true rfl) (Nat.le_of_ble_eq_true rfl) ?_
      refine h_icmp_gt (t := 667) C dL_isHouse_646 (by decide) (fun kc646 => absurd kc646 (Int32.not_lt.mpr (le_t G.1 G.2.2.2.2.1))) (fun kc646 => ?_)
      refine h_aload_n C dL_isHouse_649 rfl ?_
      refine h_iconst (v := 1) C dL_isHouse_650 (by decide) ?_
      refine h_callXs T (rd_told1 G hs.1) dL_isHouse_651 rfl gL_isHouse_L_told rfl qL_told ⟨rfl, rfl⟩ ⟨Nat.le_of_ble_eq_true rfl, Nat.le_of_ble_eq_true rfl⟩ rfl (Nat.le_of_ble_eq_true rfl) (Nat.le_of_ble_eq_true rfl) (Nat.le_of_ble_eq_true rfl) ?_
      refine h_aload_n C dL_isHouse_654 rfl ?_
      refine h_bipush (v := 7) C dL_isHouse_655 (by decide) ?_
      refine h_callXs T (rd_info7 G hs.1) dL_isHouse_657 rfl gL_isHouse_L_info rfl qL_info ⟨rfl, rfl⟩ ⟨Nat.le_of_ble_eq_true rfl, Nat.le_of_ble_eq_true rfl⟩ rfl (Nat.le_of_ble_eq_true rfl) (Nat.le_of_ble_eq_true rfl) (Nat.le_of_ble_eq_true rfl) ?_
      refine h_icmp_gt (t := 667) C dL_isHouse_660 (by decide) (fun kc660 => absurd kc660 (Int32.not_lt.mpr (le_t G.1 G.2.2.2.1))) (fun kc660 => ?_)
      refine h_iconst (v := 1) C dL_isHouse_663 (by decide) ?_
      refine h_goto (t := 668) C dL_isHouse_664 (by decide) ?_
      exact h_zret C rfl dL_isHouse_668 (by decide) (Nat.le_of_ble_eq_true rfl) (hs)
    ·
      refine h_aload_n C dL_isHouse_52 rfl ?_
      refine h_bipush (v := 8) C dL_isHouse_53 (by decide) ?_
      refine h_callXs T (rd_info8 G hs.1) dL_isHouse_55 rfl gL_isHouse_L_info rfl qL_info ⟨rfl, rfl⟩ ⟨Nat.le_of_ble_eq_true rfl, Nat.le_of_ble_eq_true rfl⟩ rfl (Nat.le_of_ble_eq_true rfl) (Nat.le_of_ble_eq_true rfl) (Nat.le_of_ble_eq_true rfl) ?_
      refine h_if_ne (t := 65) C dL_isHouse_58 (by decide) (fun kc58 => ?_) (fun kc58 => ?_)
      · -- t
        refine h_iconst (v := 1) C dL_isHouse_65 (by decide) ?_
        refine h_aload_n C dL_isHouse_66 rfl ?_
        refine h_bipush (v := 8) C dL_isHouse_67 (by decide) ?_
        refine h_callXs T (rd_info8 G hs.1) dL_isHouse_69 rfl gL_isHouse_L_info rfl qL_info ⟨rfl, rfl⟩ ⟨Nat.le_of_ble_eq_true rfl, Nat.le_of_ble_eq_true rfl⟩ rfl (Nat.le_of_ble_eq_true rfl) (Nat.le_of_ble_eq_true rfl) (Nat.le_of_ble_eq_true rfl) ?_
        refine h_bipush (v := 25) C dL_isHouse_72 (by decide) ?_
        refine h_idiv C dL_isHouse_74 (by decide) ?_
        refine h_iadd C dL_isHouse_75 ?_
        exact h_kE K52 (by omega) (by first | exact (if_pos kc58).symm | exact (if_neg kc58).symm)
      · -- f
        refine h_iconst (v := 0) C dL_isHouse_61 (by decide) ?_
        refine h_goto (t := 76) C dL_isHouse_62 (by decide) ?_
        exact h_kE K52 (by omega) (by first | exact (if_pos kc58).symm | exact (if_neg kc58).symm)
  ·
    refine h_iload_n C dL_isHouse_34 rfl ?_
    refine h_if_ge (t := 42) C dL_isHouse_35 (by decide) (fun kc35 => ?_) (fun kc35 => ?_)
    · -- t
      refine h_iload_n C dL_isHouse_42 rfl ?_
      exact h_kE K34 (by omega) (by first | exact (dr_1 kc35).symm | exact (dr_2 kc35).symm)
    · -- f
      refine h_iconst (v := 0) C dL_isHouse_38 (by decide) ?_
      refine h_goto (t := 43) C dL_isHouse_39 (by decide) ?_
      exact h_kE K34 (by omega) (by first | exact (dr_1 kc35).symm | exact (dr_2 kc35).symm)
