/-! isNeeded(o, room, n) -/
/-- whether p is not 0 at one of 1 .. k -/
def sG (p : Nat → Int32) (k : Nat) : Int32 := if gF p k = -1 then 0 else 1
theorem sG_z (p : Nat → Int32) : sG p 0 = 0 := if_pos rfl
theorem sG_01 (p : Nat → Int32) (k : Nat) : sG p k = 0 ∨ sG p k = 1 := by unfold sG; split <;> simp
theorem sG_n {p : Nat → Int32} {k : Nat} : sG p k = 0 ↔ gF p k = -1 := by
  unfold sG
  by_cases h : gF p k = -1
  · rw [if_pos h]; exact ⟨fun _ => h, fun _ => rfl⟩
  · rw [if_neg h]; exact ⟨fun z => absurd z (by decide), fun z => absurd z h⟩
theorem sG_stop {p : Nat → Int32} {k N : Nat} (h : ¬ sG p k = 0) (hk : k ≤ N) : sG p k = sG p N := by
  have h1 : ¬ gF p k = -1 := fun z => h (sG_n.mpr z)
  obtain ⟨m, rfl⟩ : ∃ m, N = k + m := ⟨N - k, by omega⟩
  unfold sG
  rw [gF_stop h1 m]
theorem sA_0 {r : Rw} {i k : Nat} (h : sG (pA r i) k = 0) (h2 : ¬ mAlaI (mMinN r (k + 1)) i = 1) : sG (pA r i) (k + 1) = 0 := sG_n.mpr ((gF_b (p := pA r i) ((mAlaI_01 _ _).resolve_right h2)).trans (sG_n.mp h))
theorem sA_1 {r : Rw} {i k : Nat} (h : sG (pA r i) k = 0) (h2 : mAlaI (mMinN r (k + 1)) i = 1) (hk : k + 1 < 2 ^ 31) : sG (pA r i) (k + 1) = 1 := by
  refine (sG_01 _ _).resolve_left (fun z => ?_)
  have h3 := sG_n.mp z
  rw [gF_c (p := pA r i) (sG_n.mp h) (show ¬ mAlaI (mMinN r (k + 1)) i = 0 by rw [h2]; decide)] at h3
  exact nI_nm1 hk h3
theorem mNee_0 {r : Rw} {i N ns : Nat} (hN : N < 2 ^ 31) (h : sG (pA r i) N = 0) : mNee r i N ns = 0 := by
  unfold mNee
  rw [if_pos ((mFaF_0 r i hN).trans (sG_n.mp h))]
theorem mNd_small (r : Rw) (i N : Nat) : ∀ n, n ≤ 8 → ∃ m, m < 2 ^ n ∧ mNd r i N n = nI m := by
  intro n
  induction n with
  | zero => intro _; exact ⟨0, by decide, rfl⟩
  | succ n ih =>
    intro h
    obtain ⟨m, hm, e⟩ := ih (by omega)
    have h2 : 2 ^ n ≤ 2 ^ 8 := Nat.pow_le_pow_right (by decide) (by omega)
    have h3 : (2 : Nat) ^ n < 2 ^ (n + 1) := by rw [Nat.pow_succ]; omega
    simp only [mNd]
    split
    · exact ⟨m ||| 2 ^ n, Nat.or_lt_two_pow (by omega) h3, by rw [e]; exact bit_or8 m (by omega) n (by omega)⟩
    · exact ⟨m, by omega, by rw [e, Int32.or_zero]⟩
theorem mNd_bit (r : Rw) (i N : Nat) : ∀ n, n ≤ 8 → ∀ k, k < 8 → (mNd r i N n >>> (nI k &&& 31)) &&& 1 = if k < n ∧ mFaF i (upd r (57 + 7 * k + 5) 1) 0 N = -1 then 1 else 0 := by
  intro n
  induction n with
  | zero =>
    intro _ k hk
    rw [if_neg (fun z => Nat.not_lt_zero _ z.1)]
    exact bit_09 k hk
  | succ n ih =>
    intro hn k hk
    simp only [mNd]
    by_cases q : mFaF i (upd r (57 + 7 * n + 5) 1) 0 N = -1
    · rw [if_pos q]
      obtain ⟨m, hm, em⟩ := mNd_small r i N n (by omega)
      have h2 : 2 ^ n ≤ 2 ^ 8 := Nat.pow_le_pow_right (by decide) (by omega)
      have hb := ih (by omega) k hk
      rw [em] at hb ⊢
      rw [bit_or9 m (by omega) n (by omega) k hk]
      by_cases e : k = n
      · subst e
        rw [if_pos rfl, if_pos ⟨by omega, q⟩]
      · rw [if_neg e, hb]
        by_cases z : k < n ∧ mFaF i (upd r (57 + 7 * k + 5) 1) 0 N = -1
        · rw [if_pos z, if_pos ⟨by omega, z.2⟩]
        · rw [if_neg z, if_neg (fun w => z ⟨by omega, w.2⟩)]
    · rw [if_neg q, Int32.or_zero, ih (by omega) k hk]
      by_cases e : k = n
      · subst e
        rw [if_neg (fun z => absurd z.1 (Nat.lt_irrefl _)), if_neg (fun z => q z.2)]
      · by_cases z : k < n ∧ mFaF i (upd r (57 + 7 * k + 5) 1) 0 N = -1
        · rw [if_pos z, if_pos ⟨by omega, z.2⟩]
        · rw [if_neg z, if_neg (fun w => z ⟨by omega, w.2⟩)]
theorem mNee_bit {r : Rw} {i N ns k : Nat} (h8 : ns ≤ 8) (hk : k < ns) (hN : N < 2 ^ 31) (h : ¬ sG (pA r i) N = 0) : (mNee r i N ns >>> (nI k &&& 31)) &&& 1 = if sG (pA (upd r (57 + 7 * k + 5) 1) i) N = 0 then 1 else 0 := by
  unfold mNee
  rw [if_neg (fun z => h (sG_n.mpr ((mFaF_0 r i hN).symm.trans z))), mNd_bit r i N ns h8 k (by omega), mFaF_0 _ i hN]
  by_cases q : sG (pA (upd r (57 + 7 * k + 5) 1) i) N = 0
  · rw [if_pos q, if_pos ⟨hk, sG_n.mp q⟩]
  · rw [if_neg q, if_neg (fun z => q (sG_n.mpr z.2))]
/-- the records, their latest known -/
def Gt (Tm : Nat) (w : Rw) (kp : Nat) (qs : Nat → Rw) : Prop := Gs Tm kp qs ∧ 1 ≤ kp ∧ qs (kp - 1) = w
theorem Gs.top {Tm kp : Nat} {qs : Nat → Rw} (h : Gs Tm kp qs) {r : Rw} (hr : Gk r Tm) : Gt Tm r (kK kp) (kQ kp qs r) := ⟨h.keep hr, kK_pos kp, kQ_top qs r h.1⟩
theorem Gt.kb {Tm kp : Nat} {w : Rw} {qs : Nat → Rw} (h : Gt Tm w kp qs) {q : Rw} (hq : Gk q Tm) : Gt Tm w (kK kp - 1) (kQ kp qs q) := by
  obtain ⟨h1, h2, h3⟩ := h
  have h4 := h1.1
  refine ⟨(h1.keep hq).back, ?_, ?_⟩
  · unfold kK
    split <;> omega
  · unfold kQ kK
    by_cases e : kp = 4
    · subst e
      rw [if_pos rfl, if_pos rfl, if_pos rfl, if_neg (by decide)]
      exact h3
    · rw [if_neg e, if_neg e, if_neg e, Nat.add_sub_cancel, if_neg (by omega)]
      exact h3
theorem rd_undoT {Tm kp : Nat} {qs : Nat → Rw} {q w : Rw} {R ns nr ne t : Nat} (G : Gd q R ns nr ne t) (h : Gt Tm w kp qs) : Xs mL_undo [.ref 0] q kp qs (nI (kp - 1)) w (kp - 1) qs := by
  have h9 := s_undo (r := q) (kp := kp) (qs := qs) G.1 h.1.1 h.1.jam (by unfold kUnd; rw [if_neg (by have := h.2.1; omega)])
  rw [h.2.2] at h9
  exact h9
theorem an_ge {r : Rw} {i n : Nat} (hn : n < 2 ^ 31) : ¬ mAIn r i n < -1 := by
  rw [← fA_N hn]
  unfold fA
  split
  · rcases gF_rng (pA r i) n with h | ⟨j, h1, h2, h3⟩
    · rw [h]; decide
    · rw [h3]
      exact Int32.not_lt.mpr (Int32.le_trans (by decide) (nI_pos' (n := j) (by omega)))
  · decide
set_option maxHeartbeats 4000000 in
set_option maxRecDepth 100000 in
theorem l_need1 {x : xC} {b0 : Nat} (T : Ct x mL_isNeeded) {r : Rw} {R ns nr ne t Tm : Nat} (G : Gd r R ns nr ne t) (ht : t ≤ Tm) (hT : Tm + 200 ≤ 1000000) (i N : Nat) (hi : i < R) (hN : 1 ≤ N ∧ N ≤ 8) (P : Int64) (x6 : Int32) {Z : State → Prop} (kx : ∀ (kp : Nat) (qs : Nat → Rw) (v8 v9 : Option Value), Gs Tm kp qs → Hs x b0 93 [some (.ref 0), some (.int (nI i)), some (.int (nI N)), some (.long P), none, some (.int (mNee r i N ns)), some (.int x6), some (.int (sG (pA r i) N)), v8, v9, none, none, none] [] r kp qs (9 + 3 * N) Z) : ∀ n k : Nat, k + n = N → ∀ (kp : Nat) (qs : Nat → Rw) (v9 : Option Value), Gs Tm kp qs → Hs x b0 27 [some (.ref 0), some (.int (nI i)), some (.int (nI N)), some (.long P), none, some (.int (mNee r i N ns)), some (.int x6), some (.int (sG (pA r i) k)), some (.int (nI (k + 1))), v9, none, none, none] [] r kp qs (9 + 3 * k) Z := by
  have C := T.1
  intro n
  induction n with
  | zero =>
    intro k hk
    intro kp qs v9 hs
    have hR4 := G.1.1.1.2.2
    refine h_iload C dL_isNeeded_27 rfl ?_
    refine h_iload_n C dL_isNeeded_29 rfl ?_
    refine h_icmp_gt (t := 93) C dL_isNeeded_30 (by decide) (fun kc30 => ?_) (fun kc30 => absurd (by rw [show k = N by omega]; exact nI_lt (by omega) (by omega)) kc30)
    obtain rfl : k = N := by omega
    exact kx kp qs _ v9 hs
  | succ n ih =>
    intro k hk
    intro kp qs v9 hs
    have hR4 := G.1.1.1.2.2
    obtain ⟨ne1, G1⟩ := Gd.minN (k + 1) G (by omega)
    have hs1 := hs.keep (G.k ht)
    refine h_iload C dL_isNeeded_27 rfl ?_
    refine h_iload_n C dL_isNeeded_29 rfl ?_
    refine h_icmp_gt (t := 93) C dL_isNeeded_30 (by decide) (fun kc30 => absurd kc30 (nI_nlt (by omega) (by omega))) (fun kc30 => ?_)
    refine h_iload C dL_isNeeded_33 rfl ?_
    refine h_if_ne (t := 93) C dL_isNeeded_35 (by decide) (fun kc35 => ?_) (fun kc35 => ?_)
    · -- t
      have e9 := sG_stop kc35 (show k ≤ N by omega)
      rw [e9]
      exact h_widen (by omega) (kx kp qs _ v9 hs)
    · -- f
      refine h_aload_n C dL_isNeeded_38 rfl ?_
      refine h_iload C dL_isNeeded_39 rfl ?_
      refine h_callXs T (rd_pass G hs.1 (by omega) (k + 1) (by omega)) dL_isNeeded_41 rfl gL_isNeeded_L_pass rfl qL_pass ⟨rfl, rfl⟩ ⟨Nat.le_of_ble_eq_true rfl, Nat.le_of_ble_eq_true rfl⟩ rfl (Nat.le_of_ble_eq_true rfl) (Nat.le_of_ble_eq_true rfl) (by show _ ≤ 400; omega) ?_
      refine h_istore C dL_isNeeded_44 (L' := [_, _, _, _, _, _, _, _, _, _, _, _, _]) (by decide) (Nat.lt_of_lt_of_le (by decide : (9 : Nat) < 13) (Nat.le_refl _)) rfl ?_
      refine h_iload C dL_isNeeded_46 rfl ?_
      refine h_if_lt (t := 65) C dL_isNeeded_48 (by decide) (fun kc48 => absurd kc48 (pass_nn' G (k + 1) (by omega))) (fun kc48 => ?_)
      refine h_join (t := 66) (v := .int (sG (pA r i) (k + 1))) (k' := 9 + 3 * k + 2) ?_ (fun K51 => ?_)
      ·
        refine h_istore C dL_isNeeded_66 (L' := [_, _, _, _, _, _, _, _, _, _, _, _, _]) (by decide) (Nat.lt_of_lt_of_le (by decide : (7 : Nat) < 13) (Nat.le_refl _)) rfl ?_
        refine h_aload_n C dL_isNeeded_68 rfl ?_
        refine h_callXs T (rd_undo G1 hs (G.k ht)) dL_isNeeded_69 rfl gL_isNeeded_L_undo rfl qL_undo ⟨rfl, rfl⟩ ⟨Nat.le_of_ble_eq_true rfl, Nat.le_of_ble_eq_true rfl⟩ rfl (Nat.le_of_ble_eq_true rfl) (Nat.le_of_ble_eq_true rfl) (by show _ ≤ 400; omega) ?_
        refine h_if_lt (t := 84) C dL_isNeeded_72 (by decide) (fun kc72 => absurd kc72 (nI_pos (by have := kK_le hs.1; omega))) (fun kc72 => ?_)
        refine h_join (t := 85) (v := .int (sG (pA r i) (k + 1))) (k' := 9 + 3 * k + 3) ?_ (fun K75 => ?_)
        ·
          refine h_istore C dL_isNeeded_85 (L' := [_, _, _, _, _, _, _, _, _, _, _, _, _]) (by decide) (Nat.lt_of_lt_of_le (by decide : (7 : Nat) < 13) (Nat.le_refl _)) rfl ?_
          refine h_iinc C dL_isNeeded_87 (L' := [_, _, _, _, _, _, _, _, _, _, _, _, _]) (by decide) rfl (nI_1 (k + 1)) rfl ?_
          refine h_goto (t := 27) C dL_isNeeded_90 (by decide) ?_
          exact h_widen (by omega) (ih (k + 1) (by omega) _ _ _ (hs.keep (G.k ht)).back)
        ·
          refine h_iload C dL_isNeeded_75 rfl ?_
          refine h_if_eq (t := 84) C dL_isNeeded_77 (by decide) (fun kc77 => ?_) (fun kc77 => ?_)
          · -- t
            refine h_iconst (v := 0) C dL_isNeeded_84 (by decide) ?_
            exact h_kE K75 (by omega) (by first | exact kc77.symm | exact ((sG_01 _ _).resolve_left kc77).symm)
          · -- f
            refine h_iconst (v := 1) C dL_isNeeded_80 (by decide) ?_
            refine h_goto (t := 85) C dL_isNeeded_81 (by decide) ?_
            exact h_kE K75 (by omega) (by first | exact kc77.symm | exact ((sG_01 _ _).resolve_left kc77).symm)
      ·
        refine h_aload_n C dL_isNeeded_51 rfl ?_
        refine h_iload_n C dL_isNeeded_52 rfl ?_
        refine h_iconst (v := 3) C dL_isNeeded_53 (by decide) ?_
        refine h_callXs T (rd_room3 G1 hs1.1 hi) dL_isNeeded_54 rfl gL_isNeeded_L_room rfl qL_room ⟨rfl, rfl⟩ ⟨Nat.le_of_ble_eq_true rfl, Nat.le_of_ble_eq_true rfl⟩ rfl (Nat.le_of_ble_eq_true rfl) (Nat.le_of_ble_eq_true rfl) (by show _ ≤ 400; omega) ?_
        refine h_iconst (v := 1) C dL_isNeeded_57 (by decide) ?_
        refine h_icmp_ne (t := 65) C dL_isNeeded_58 (by decide) (fun kc58 => ?_) (fun kc58 => ?_)
        · -- t
          refine h_iconst (v := 0) C dL_isNeeded_65 (by decide) ?_
          exact h_kE K51 (by omega) (by first | exact (sA_0 kc35 kc58).symm | exact (sA_1 kc35 kc58 (by omega)).symm)
        · -- f
          refine h_iconst (v := 1) C dL_isNeeded_61 (by decide) ?_
          refine h_goto (t := 66) C dL_isNeeded_62 (by decide) ?_
          exact h_kE K51 (by omega) (by first | exact (sA_0 kc35 kc58).symm | exact (sA_1 kc35 kc58 (by omega)).symm)
set_option maxHeartbeats 4000000 in
set_option maxRecDepth 100000 in
theorem l_need3 {x : xC} {b0 : Nat} (T : Ct x mL_isNeeded) {r q : Rw} {R ns nr ne t Tm : Nat} (G : Gd q R ns nr ne t) (ht : t ≤ Tm) (hT : Tm + 200 ≤ 1000000) (i N : Nat) (hi : i < R) (hN : 1 ≤ N ∧ N ≤ 8) (P : Int64) (x9 : Int32) (v6 v7 v8 : Option Value) (c : Nat) (hc : c + 100 ≤ 400) {Z : State → Prop} (kx : ∀ (kp : Nat) (qs : Nat → Rw) (v11 v12 : Option Value), Gt Tm r kp qs → Hs x b0 223 [some (.ref 0), some (.int (nI i)), some (.int (nI N)), some (.long P), none, some (.int (mNee r i N ns)), v6, v7, v8, some (.int x9), some (.int (sG (pA q i) N)), v11, v12] [] q kp qs (c + 3 * N) Z) : ∀ n k : Nat, k + n = N → ∀ (kp : Nat) (qs : Nat → Rw) (v12 : Option Value), Gt Tm r kp qs → Hs x b0 157 [some (.ref 0), some (.int (nI i)), some (.int (nI N)), some (.long P), none, some (.int (mNee r i N ns)), v6, v7, v8, some (.int x9), some (.int (sG (pA q i) k)), some (.int (nI (k + 1))), v12] [] q kp qs (c + 3 * k) Z := by
  have C := T.1
  intro n
  induction n with
  | zero =>
    intro k hk
    intro kp qs v12 hs
    have hR4 := G.1.1.1.2.2
    refine h_iload C dL_isNeeded_157 rfl ?_
    refine h_iload_n C dL_isNeeded_159 rfl ?_
    refine h_icmp_gt (t := 223) C dL_isNeeded_160 (by decide) (fun kc160 => ?_) (fun kc160 => absurd (by rw [show k = N by omega]; exact nI_lt (by omega) (by omega)) kc160)
    obtain rfl : k = N := by omega
    exact kx kp qs _ v12 hs
  | succ n ih =>
    intro k hk
    intro kp qs v12 hs
    have hR4 := G.1.1.1.2.2
    obtain ⟨ne1, G1⟩ := Gd.minN (k + 1) G (by omega)
    have hs1 := hs.1.keep (G.k ht)
    refine h_iload C dL_isNeeded_157 rfl ?_
    refine h_iload_n C dL_isNeeded_159 rfl ?_
    refine h_icmp_gt (t := 223) C dL_isNeeded_160 (by decide) (fun kc160 => absurd kc160 (nI_nlt (by omega) (by omega))) (fun kc160 => ?_)
    refine h_iload C dL_isNeeded_163 rfl ?_
    refine h_if_ne (t := 223) C dL_isNeeded_165 (by decide) (fun kc165 => ?_) (fun kc165 => ?_)
    · -- t
      have e9 := sG_stop kc165 (show k ≤ N by omega)
      rw [e9]
      exact h_widen (by omega) (kx kp qs _ v12 hs)
    · -- f
      refine h_aload_n C dL_isNeeded_168 rfl ?_
      refine h_iload C dL_isNeeded_169 rfl ?_
      refine h_callXs T (rd_pass G hs.1.1 (by omega) (k + 1) (by omega)) dL_isNeeded_171 rfl gL_isNeeded_L_pass rfl qL_pass ⟨rfl, rfl⟩ ⟨Nat.le_of_ble_eq_true rfl, Nat.le_of_ble_eq_true rfl⟩ rfl (Nat.le_of_ble_eq_true rfl) (Nat.le_of_ble_eq_true rfl) (by show _ ≤ 400; omega) ?_
      refine h_istore C dL_isNeeded_174 (L' := [_, _, _, _, _, _, _, _, _, _, _, _, _]) (by decide) (Nat.lt_of_lt_of_le (by decide : (12 : Nat) < 13) (Nat.le_refl _)) rfl ?_
      refine h_iload C dL_isNeeded_176 rfl ?_
      refine h_if_lt (t := 195) C dL_isNeeded_178 (by decide) (fun kc178 => absurd kc178 (pass_nn' G (k + 1) (by omega))) (fun kc178 => ?_)
      refine h_join (t := 196) (v := .int (sG (pA q i) (k + 1))) (k' := c + 3 * k + 2) ?_ (fun K181 => ?_)
      ·
        refine h_istore C dL_isNeeded_196 (L' := [_, _, _, _, _, _, _, _, _, _, _, _, _]) (by decide) (Nat.lt_of_lt_of_le (by decide : (10 : Nat) < 13) (Nat.le_refl _)) rfl ?_
        refine h_aload_n C dL_isNeeded_198 rfl ?_
        refine h_callXs T (rd_undo G1 hs.1 (G.k ht)) dL_isNeeded_199 rfl gL_isNeeded_L_undo rfl qL_undo ⟨rfl, rfl⟩ ⟨Nat.le_of_ble_eq_true rfl, Nat.le_of_ble_eq_true rfl⟩ rfl (Nat.le_of_ble_eq_true rfl) (Nat.le_of_ble_eq_true rfl) (by show _ ≤ 400; omega) ?_
        refine h_if_lt (t := 214) C dL_isNeeded_202 (by decide) (fun kc202 => absurd kc202 (nI_pos (by have := kK_le hs.1.1; omega))) (fun kc202 => ?_)
        refine h_join (t := 215) (v := .int (sG (pA q i) (k + 1))) (k' := c + 3 * k + 3) ?_ (fun K205 => ?_)
        ·
          refine h_istore C dL_isNeeded_215 (L' := [_, _, _, _, _, _, _, _, _, _, _, _, _]) (by decide) (Nat.lt_of_lt_of_le (by decide : (10 : Nat) < 13) (Nat.le_refl _)) rfl ?_
          refine h_iinc C dL_isNeeded_217 (L' := [_, _, _, _, _, _, _, _, _, _, _, _, _]) (by decide) rfl (nI_1 (k + 1)) rfl ?_
          refine h_goto (t := 157) C dL_isNeeded_220 (by decide) ?_
          exact h_widen (by omega) (ih (k + 1) (by omega) _ _ _ (hs.kb (G.k ht)))
        ·
          refine h_iload C dL_isNeeded_205 rfl ?_
          refine h_if_eq (t := 214) C dL_isNeeded_207 (by decide) (fun kc207 => ?_) (fun kc207 => ?_)
          · -- t
            refine h_iconst (v := 0) C dL_isNeeded_214 (by decide) ?_
            exact h_kE K205 (by omega) (by first | exact kc207.symm | exact ((sG_01 _ _).resolve_left kc207).symm)
          · -- f
            refine h_iconst (v := 1) C dL_isNeeded_210 (by decide) ?_
            refine h_goto (t := 215) C dL_isNeeded_211 (by decide) ?_
            exact h_kE K205 (by omega) (by first | exact kc207.symm | exact ((sG_01 _ _).resolve_left kc207).symm)
      ·
        refine h_aload_n C dL_isNeeded_181 rfl ?_
        refine h_iload_n C dL_isNeeded_182 rfl ?_
        refine h_iconst (v := 3) C dL_isNeeded_183 (by decide) ?_
        refine h_callXs T (rd_room3 G1 hs1.1 hi) dL_isNeeded_184 rfl gL_isNeeded_L_room rfl qL_room ⟨rfl, rfl⟩ ⟨Nat.le_of_ble_eq_true rfl, Nat.le_of_ble_eq_true rfl⟩ rfl (Nat.le_of_ble_eq_true rfl) (Nat.le_of_ble_eq_true rfl) (by show _ ≤ 400; omega) ?_
        refine h_iconst (v := 1) C dL_isNeeded_187 (by decide) ?_
        refine h_icmp_ne (t := 195) C dL_isNeeded_188 (by decide) (fun kc188 => ?_) (fun kc188 => ?_)
        · -- t
          refine h_iconst (v := 0) C dL_isNeeded_195 (by decide) ?_
          exact h_kE K181 (by omega) (by first | exact (sA_0 kc165 kc188).symm | exact (sA_1 kc165 kc188 (by omega)).symm)
        · -- f
          refine h_iconst (v := 1) C dL_isNeeded_191 (by decide) ?_
          refine h_goto (t := 196) C dL_isNeeded_192 (by decide) ?_
          exact h_kE K181 (by omega) (by first | exact (sA_0 kc165 kc188).symm | exact (sA_1 kc165 kc188 (by omega)).symm)
set_option maxHeartbeats 4000000 in
set_option maxRecDepth 100000 in
theorem l_need2 {x : xC} {b0 : Nat} (T : Ct x mL_isNeeded) {r : Rw} {R ns nr ne t Tm : Nat} (G : Gd r R ns nr ne t) (ht : t ≤ Tm) (hT : Tm + 200 ≤ 1000000) (i N : Nat) (hi : i < R) (hN : 1 ≤ N ∧ N ≤ 8) (P : Int64) (x6 : Int32) (hq : ¬ sG (pA r i) N = 0) {Z : State → Prop} (kx : ∀ (kp : Nat) (qs : Nat → Rw) (v10 v11 v12 : Option Value), Gs Tm kp qs → Hs x b0 268 [some (.ref 0), some (.int (nI i)), some (.int (nI N)), some (.long P), none, some (.int (mNee r i N ns)), some (.int x6), some (.int (sG (pA r i) N)), some (.int 1), some (.int (nI ns)), v10, v11, v12] [] r kp qs (40 + 30 * ns + 1) Z) : ∀ n k : Nat, k + n = ns → ∀ (kp : Nat) (qs : Nat → Rw) (v10 v11 v12 : Option Value), Gs Tm kp qs → Hs x b0 113 [some (.ref 0), some (.int (nI i)), some (.int (nI N)), some (.long P), none, some (.int (mNee r i N ns)), some (.int x6), some (.int (sG (pA r i) N)), some (.int 1), some (.int (nI k)), v10, v11, v12] [] r kp qs (40 + 30 * k) Z := by
  have C := T.1
  intro n
  induction n with
  | zero =>
    intro k hk
    intro kp qs v10 v11 v12 hs
    have h8 := G.1.1.2.1.2
    have hR4 := G.1.1.1.2.2
    refine h_iload C dL_isNeeded_113 rfl ?_
    refine h_aload_n C dL_isNeeded_115 rfl ?_
    refine h_bipush (v := 12) C dL_isNeeded_116 (by decide) ?_
    refine h_callXs T (rd_info12 G hs.1) dL_isNeeded_118 rfl gL_isNeeded_L_info rfl qL_info ⟨rfl, rfl⟩ ⟨Nat.le_of_ble_eq_true rfl, Nat.le_of_ble_eq_true rfl⟩ rfl (Nat.le_of_ble_eq_true rfl) (Nat.le_of_ble_eq_true rfl) (by show _ ≤ 400; omega) ?_
    refine h_icmp_ge (t := 268) C dL_isNeeded_121 (by decide) (fun kc121 => ?_) (fun kc121 => absurd (by rw [show k = ns by omega]; exact Int32.le_refl _) kc121)
    obtain rfl : k = ns := by omega
    exact kx kp qs v10 v11 v12 hs
  | succ n ih =>
    intro k hk
    intro kp qs v10 v11 v12 hs
    have h8 := G.1.1.2.1.2
    have hR4 := G.1.1.1.2.2
    refine h_iload C dL_isNeeded_113 rfl ?_
    refine h_aload_n C dL_isNeeded_115 rfl ?_
    refine h_bipush (v := 12) C dL_isNeeded_116 (by decide) ?_
    refine h_callXs T (rd_info12 G hs.1) dL_isNeeded_118 rfl gL_isNeeded_L_info rfl qL_info ⟨rfl, rfl⟩ ⟨Nat.le_of_ble_eq_true rfl, Nat.le_of_ble_eq_true rfl⟩ rfl (Nat.le_of_ble_eq_true rfl) (Nat.le_of_ble_eq_true rfl) (by show _ ≤ 400; omega) ?_
    refine h_icmp_ge (t := 268) C dL_isNeeded_121 (by decide) (fun kc121 => absurd kc121 (nI_ge (by omega) (by omega))) (fun kc121 => ?_)
    refine h_iload C dL_isNeeded_124 rfl ?_
    refine h_if_eq (t := 268) C dL_isNeeded_126 (by decide) (fun kc126 => absurd kc126 (by decide)) (fun kc126 => ?_)
    refine h_iload C dL_isNeeded_129 rfl ?_
    refine h_if_eq (t := 268) C dL_isNeeded_131 (by decide) (fun kc131 => absurd kc131 (hq)) (fun kc131 => ?_)
    refine h_iconst (v := 0) C dL_isNeeded_134 (by decide) ?_
    refine h_topE (sG (pA (upd r (57 + 7 * k + 5) 1) i) 0) (sG_z _).symm ?_
    refine h_istore C dL_isNeeded_135 (L' := [_, _, _, _, _, _, _, _, _, _, _, _, _]) (by decide) (Nat.lt_of_lt_of_le (by decide : (10 : Nat) < 13) (Nat.le_refl _)) rfl ?_
    refine h_aload_n C dL_isNeeded_137 rfl ?_
    refine h_iload C dL_isNeeded_138 rfl ?_
    refine h_iconst (v := 1) C dL_isNeeded_140 (by decide) ?_
    refine h_callXs T (rd_dead G hs.1 (i := k) (by omega)) dL_isNeeded_141 rfl gL_isNeeded_L_setFault rfl qL_setFault ⟨rfl, rfl⟩ ⟨Nat.le_of_ble_eq_true rfl, Nat.le_of_ble_eq_true rfl⟩ rfl (Nat.le_of_ble_eq_true rfl) (Nat.le_of_ble_eq_true rfl) (by show _ ≤ 400; omega) ?_
    refine h_if_lt (t := 151) C dL_isNeeded_144 (by decide) (fun kc144 => absurd kc144 (Int32.not_lt.mpr (G.2.2.2.2.2.1 k (by omega)))) (fun kc144 => ?_)
    refine h_iconst (v := 1) C dL_isNeeded_147 (by decide) ?_
    refine h_goto (t := 152) C dL_isNeeded_148 (by decide) ?_
    refine h_istore C dL_isNeeded_152 (L' := [_, _, _, _, _, _, _, _, _, _, _, _, _]) (by decide) (Nat.lt_of_lt_of_le (by decide : (8 : Nat) < 13) (Nat.le_refl _)) rfl ?_
    refine h_iconst (v := 1) C dL_isNeeded_154 (by decide) ?_
    refine h_istore C dL_isNeeded_155 (L' := [_, _, _, _, _, _, _, _, _, _, _, _, _]) (by decide) (Nat.lt_of_lt_of_le (by decide : (11 : Nat) < 13) (Nat.le_refl _)) rfl ?_
    refine h_widen (k' := 40 + 30 * k + 2 + 3 * 0) (by omega) ?_
    refine l_need3 T (G.dead (i := k) (by omega)) ht hT i N hi hN P _ _ _ _ (40 + 30 * k + 2) (by omega) (fun kp2 qs2 v11 v12 hg => ?_) N 0 (Nat.zero_add _) _ _ _ (hs.top (G.k ht))
    refine h_widen (k' := 40 + 30 * k + 28) (by omega) ?_
    refine h_iload C dL_isNeeded_223 rfl ?_
    refine h_if_eq (t := 259) C dL_isNeeded_225 (by decide) (fun kc225 => absurd kc225 (by decide)) (fun kc225 => ?_)
    refine h_iload C dL_isNeeded_228 rfl ?_
    refine h_iload C dL_isNeeded_230 rfl ?_
    refine h_ishr C dL_isNeeded_232 ?_
    refine h_iconst (v := 1) C dL_isNeeded_233 (by decide) ?_
    refine h_iand C dL_isNeeded_234 ?_
    refine h_join (t := 245) (v := .int (if sG (pA (upd r (57 + 7 * k + 5) 1) i) N = 0 then (1 : Int32) else 0)) (k' := 40 + 30 * k + 28) ?_ (fun K235 => ?_)
    ·
      refine h_icmp_ne (t := 259) C dL_isNeeded_245 (by decide) (fun kc245 => absurd (mNee_bit h8 (by omega) (by omega) hq) kc245) (fun kc245 => ?_)
      refine h_aload_n C dL_isNeeded_248 rfl ?_
      refine h_callXs T (rd_undoT (G.dead (i := k) (by omega)) hg) dL_isNeeded_249 rfl gL_isNeeded_L_undo rfl qL_undo ⟨rfl, rfl⟩ ⟨Nat.le_of_ble_eq_true rfl, Nat.le_of_ble_eq_true rfl⟩ rfl (Nat.le_of_ble_eq_true rfl) (Nat.le_of_ble_eq_true rfl) (by show _ ≤ 400; omega) ?_
      refine h_if_lt (t := 259) C dL_isNeeded_252 (by decide) (fun kc252 => absurd kc252 (nI_pos (by have := hg.1.1; omega))) (fun kc252 => ?_)
      refine h_iconst (v := 1) C dL_isNeeded_255 (by decide) ?_
      refine h_goto (t := 260) C dL_isNeeded_256 (by decide) ?_
      refine h_istore C dL_isNeeded_260 (L' := [_, _, _, _, _, _, _, _, _, _, _, _, _]) (by decide) (Nat.lt_of_lt_of_le (by decide : (8 : Nat) < 13) (Nat.le_refl _)) rfl ?_
      refine h_iinc C dL_isNeeded_262 (L' := [_, _, _, _, _, _, _, _, _, _, _, _, _]) (by decide) rfl (nI_1 k) rfl ?_
      refine h_goto (t := 113) C dL_isNeeded_265 (by decide) ?_
      exact h_widen (by omega) (ih (k + 1) (by omega) _ _ _ _ _ hg.1.back)
    ·
      refine h_iload C dL_isNeeded_235 rfl ?_
      refine h_if_eq (t := 244) C dL_isNeeded_237 (by decide) (fun kc237 => ?_) (fun kc237 => ?_)
      · -- t
        refine h_iconst (v := 1) C dL_isNeeded_244 (by decide) ?_
        exact h_kE K235 (by omega) (by first | exact (if_pos kc237).symm | exact (if_neg kc237).symm)
      · -- f
        refine h_iconst (v := 0) C dL_isNeeded_240 (by decide) ?_
        refine h_goto (t := 245) C dL_isNeeded_241 (by decide) ?_
        exact h_kE K235 (by omega) (by first | exact (if_pos kc237).symm | exact (if_neg kc237).symm)
set_option maxHeartbeats 4000000 in
set_option maxRecDepth 100000 in
theorem nd_tail {x : xC} {b0 : Nat} (T : Ct x mL_isNeeded) {r : Rw} {R ns nr ne t kp Tm i N k : Nat} {qs : Nat → Rw} (G : Gd r R ns nr ne t) (hs : Gs Tm kp qs) (ht : t ≤ Tm) (hk : k ≤ 300) {v9 v10 v11 v12 : Option Value} : Hs x b0 268 [some (.ref 0), some (.int (nI i)), some (.int (nI N)), some (.long (31 * mBas r R ns ne)), none, some (.int (mNee r i N ns)), some (.int (mAIn r i 1)), some (.int (sG (pA r i) N)), some (.int 1), v9, v10, v11, v12] [] r kp qs k (xHi x 400 1 r (Gs Tm)) := by
  have C := T.1
  refine h_iload C dL_isNeeded_268 rfl ?_
  refine h_if_eq (t := 292) C dL_isNeeded_270 (by decide) (fun kc270 => absurd kc270 (by decide)) (fun kc270 => ?_)
  refine h_iload C dL_isNeeded_273 rfl ?_
  refine h_iconst (v := -1) C dL_isNeeded_275 (by decide) ?_
  refine h_icmp_lt (t := 292) C dL_isNeeded_276 (by decide) (fun kc276 => absurd kc276 (an_ge (by omega))) (fun kc276 => ?_)
  refine h_aload_n C dL_isNeeded_279 rfl ?_
  refine h_callXhl T (e_L_print G hs ht) dL_isNeeded_280 rfl gL_isNeeded_L_print rfl qL_print ⟨rfl, rfl⟩ ⟨Nat.le_of_ble_eq_true rfl, Nat.le_of_ble_eq_true rfl⟩ rfl (Nat.le_of_ble_eq_true rfl) (Nat.le_of_ble_eq_true rfl) (by show _ ≤ 400; omega) (fun kp9 qs9 hs9 => ?_)
  refine h_lload_n C dL_isNeeded_283 rfl ?_
  refine h_lcmp C dL_isNeeded_284 ?_
  refine h_if_ne (t := 292) C dL_isNeeded_285 (by decide) (fun kc285 => absurd ((lg_cmp_eq _ _).mpr rfl) kc285) (fun kc285 => ?_)
  refine h_iconst (v := 1) C dL_isNeeded_288 (by decide) ?_
  refine h_goto (t := 293) C dL_isNeeded_289 (by decide) ?_
  exact h_zret C rfl dL_isNeeded_293 (by decide) (by show _ ≤ 400; omega) (hs9)
set_option maxHeartbeats 4000000 in
set_option maxRecDepth 100000 in
theorem nd_none {x : xC} {b0 : Nat} (T : Ct x mL_isNeeded) {r : Rw} {R ns nr ne t kp Tm i N k : Nat} {qs : Nat → Rw} (G : Gd r R ns nr ne t) (hs : Gs Tm kp qs) (hk : k ≤ 300) (hq : sG (pA r i) N = 0) {v10 v11 v12 : Option Value} {Z : State → Prop} (kx : ∀ k9, k9 ≤ k + 1 → Hs x b0 268 [some (.ref 0), some (.int (nI i)), some (.int (nI N)), some (.long (31 * mBas r R ns ne)), none, some (.int (mNee r i N ns)), some (.int (mAIn r i 1)), some (.int (sG (pA r i) N)), some (.int 1), some (.int 0), v10, v11, v12] [] r kp qs k9 Z) : Hs x b0 113 [some (.ref 0), some (.int (nI i)), some (.int (nI N)), some (.long (31 * mBas r R ns ne)), none, some (.int (mNee r i N ns)), some (.int (mAIn r i 1)), some (.int (sG (pA r i) N)), some (.int 1), some (.int 0), v10, v11, v12] [] r kp qs k Z := by
  have C := T.1
  refine h_iload C dL_isNeeded_113 rfl ?_
  refine h_aload_n C dL_isNeeded_115 rfl ?_
  refine h_bipush (v := 12) C dL_isNeeded_116 (by decide) ?_
  refine h_callXs T (rd_info12 G hs.1) dL_isNeeded_118 rfl gL_isNeeded_L_info rfl qL_info ⟨rfl, rfl⟩ ⟨Nat.le_of_ble_eq_true rfl, Nat.le_of_ble_eq_true rfl⟩ rfl (Nat.le_of_ble_eq_true rfl) (Nat.le_of_ble_eq_true rfl) (by show _ ≤ 400; omega) ?_
  refine h_icmp_ge (t := 268) C dL_isNeeded_121 (by decide) (fun kc121 => ?_) (fun kc121 => ?_)
  · -- t
    exact kx _ (by omega)
  · -- f
    refine h_iload C dL_isNeeded_124 rfl ?_
    refine h_if_eq (t := 268) C dL_isNeeded_126 (by decide) (fun kc126 => absurd kc126 (by decide)) (fun kc126 => ?_)
    refine h_iload C dL_isNeeded_129 rfl ?_
    refine h_if_eq (t := 268) C dL_isNeeded_131 (by decide) (fun kc131 => ?_) (fun kc131 => absurd (hq) kc131)
    exact kx _ (by omega)
set_option maxHeartbeats 4000000 in
set_option maxRecDepth 100000 in
theorem e_L_isNeeded {r : Rw} {R ns nr ne t kp Tm : Nat} {qs : Nat → Rw} (G : Gd r R ns nr ne t) (hs : Gs Tm kp qs) (ht : t ≤ Tm) (hT : Tm + 200 ≤ 1000000) (i N : Nat) (hi : i < R) (hN : 1 ≤ N ∧ N ≤ 8) : Xh 400 mL_isNeeded [.ref 0, .int (nI i), .int (nI N)] r kp qs (1) r (Gs Tm) := by
  have h8 := G.1.1.2.1.2
  refine Xh_mk (L := [some (.ref 0), some (.int (nI i)), some (.int (nI N)), none, none, none, none, none, none, none, none, none, none]) (by decide) rfl (Nat.le_of_ble_eq_true rfl) rfl (fun x b0 T => ?_)
  have C := T.1
  refine h_aload_n C dL_isNeeded_0 rfl ?_
  refine h_callXhl T (e_L_print G hs ht) dL_isNeeded_1 rfl gL_isNeeded_L_print rfl qL_print ⟨rfl, rfl⟩ ⟨Nat.le_of_ble_eq_true rfl, Nat.le_of_ble_eq_true rfl⟩ rfl (Nat.le_of_ble_eq_true rfl) (Nat.le_of_ble_eq_true rfl) (Nat.le_of_ble_eq_true rfl) (fun kp1 qs1 hs1 => ?_)
  refine h_lstore_n C dL_isNeeded_4 (L' := [_, _, _, _, _, _, _, _, _, _, _, _, _]) (by decide) (Nat.lt_of_lt_of_le (by decide : (3 : Nat) + 1 < 13) (Nat.le_refl _)) rfl ?_
  refine h_aload_n C dL_isNeeded_5 rfl ?_
  refine h_iload_n C dL_isNeeded_6 rfl ?_
  refine h_iload_n C dL_isNeeded_7 rfl ?_
  refine h_callXs T (rd_needed G hs1.1 (by omega) hi (by omega)) dL_isNeeded_8 rfl gL_isNeeded_L_neededSensors rfl qL_neededSensors ⟨rfl, rfl⟩ ⟨Nat.le_of_ble_eq_true rfl, Nat.le_of_ble_eq_true rfl⟩ rfl (Nat.le_of_ble_eq_true rfl) (Nat.le_of_ble_eq_true rfl) (Nat.le_of_ble_eq_true rfl) ?_
  refine h_istore C dL_isNeeded_11 (L' := [_, _, _, _, _, _, _, _, _, _, _, _, _]) (by decide) (Nat.lt_of_lt_of_le (by decide : (5 : Nat) < 13) (Nat.le_refl _)) rfl ?_
  refine h_aload_n C dL_isNeeded_13 rfl ?_
  refine h_iload_n C dL_isNeeded_14 rfl ?_
  refine h_iconst (v := 1) C dL_isNeeded_15 (by decide) ?_
  refine h_callXs T (rd_alarmIn (N := 1) G hs1.1 (by omega) hi (by omega)) dL_isNeeded_16 rfl gL_isNeeded_L_alarmIn rfl qL_alarmIn ⟨rfl, rfl⟩ ⟨Nat.le_of_ble_eq_true rfl, Nat.le_of_ble_eq_true rfl⟩ rfl (Nat.le_of_ble_eq_true rfl) (Nat.le_of_ble_eq_true rfl) (Nat.le_of_ble_eq_true rfl) ?_
  refine h_istore C dL_isNeeded_19 (L' := [_, _, _, _, _, _, _, _, _, _, _, _, _]) (by decide) (Nat.lt_of_lt_of_le (by decide : (6 : Nat) < 13) (Nat.le_refl _)) rfl ?_
  refine h_iconst (v := 0) C dL_isNeeded_21 (by decide) ?_
  refine h_topE (sG (pA r i) 0) (sG_z _).symm ?_
  refine h_istore C dL_isNeeded_22 (L' := [_, _, _, _, _, _, _, _, _, _, _, _, _]) (by decide) (Nat.lt_of_lt_of_le (by decide : (7 : Nat) < 13) (Nat.le_refl _)) rfl ?_
  refine h_iconst (v := 1) C dL_isNeeded_24 (by decide) ?_
  refine h_istore C dL_isNeeded_25 (L' := [_, _, _, _, _, _, _, _, _, _, _, _, _]) (by decide) (Nat.lt_of_lt_of_le (by decide : (8 : Nat) < 13) (Nat.le_refl _)) rfl ?_
  refine h_widen (k' := 9 + 3 * 0) (Nat.le_of_ble_eq_true rfl) ?_
  refine l_need1 T G ht hT i N hi hN _ _ (fun kp2 qs2 v8 v9 hs2 => ?_) N 0 (Nat.zero_add _) kp1 qs1 _ hs1
  refine h_widen (k' := 40) (by omega) ?_
  refine h_join (t := 108) (v := .int (1)) (k' := 40) ?_ (fun K93 => ?_)
  ·
    refine h_istore C dL_isNeeded_108 (L' := [_, _, _, _, _, _, _, _, _, _, _, _, _]) (by decide) (Nat.lt_of_lt_of_le (by decide : (8 : Nat) < 13) (Nat.le_refl _)) rfl ?_
    refine h_iconst (v := 0) C dL_isNeeded_110 (by decide) ?_
    refine h_istore C dL_isNeeded_111 (L' := [_, _, _, _, _, _, _, _, _, _, _, _, _]) (by decide) (Nat.lt_of_lt_of_le (by decide : (9 : Nat) < 13) (Nat.le_refl _)) rfl ?_
    by_cases hq : sG (pA r i) N = 0
    · exact nd_none T G hs2 (by omega) hq (fun k9 hk9 => h_widen hk9 (nd_tail T G hs2 ht (by omega)))
    refine h_widen (k' := 40 + 30 * 0) (by omega) ?_
    refine l_need2 T G ht hT i N hi hN _ _ hq (fun kp3 qs3 v10 v11 v12 hs3 => ?_) ns 0 (Nat.zero_add _) kp2 qs2 _ _ _ hs2
    refine h_widen (k' := 300) (by omega) ?_
    exact nd_tail T G hs3 ht (by omega)
  ·
    refine h_iload C dL_isNeeded_93 rfl ?_
    refine h_if_ne (t := 103) C dL_isNeeded_95 (by decide) (fun kc95 => ?_) (fun kc95 => ?_)
    · -- t
      refine h_iconst (v := 1) C dL_isNeeded_103 (by decide) ?_
      refine h_goto (t := 108) C dL_isNeeded_104 (by decide) ?_
      exact h_kE K93 (by omega) (rfl)
    · -- f
      refine h_iload C dL_isNeeded_98 rfl ?_
      refine h_if_ne (t := 107) C dL_isNeeded_100 (by decide) (fun kc100 => absurd (mNee_0 (by omega) kc95) kc100) (fun kc100 => ?_)
      refine h_iconst (v := 1) C dL_isNeeded_103 (by decide) ?_
      refine h_goto (t := 108) C dL_isNeeded_104 (by decide) ?_
      exact h_kE K93 (by omega) (rfl)
