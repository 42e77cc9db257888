/-! isPeak(o, n) -/
theorem be_min (r : Rw) (n : Nat) : ∀ k, (∀ j, j ≤ k → mPk r 0 (nI (mBe r n k)) n ≤ mPk r 0 (nI j) n) ∧ ∀ j, j < mBe r n k → mPk r 0 (nI (mBe r n k)) n < mPk r 0 (nI j) n := by
  intro k
  induction k with
  | zero =>
    refine ⟨fun j hj => ?_, fun j hj => absurd hj (Nat.not_lt_zero j)⟩
    obtain rfl : j = 0 := by omega
    exact Int32.le_refl _
  | succ k ih =>
    obtain ⟨h1, h2⟩ := ih
    simp only [mBe]
    by_cases q : mPk r 0 (nI (k + 1)) n < mPk r 0 (nI (mBe r n k)) n
    · rw [if_pos q]
      have h3 : ∀ j, j < k + 1 → mPk r 0 (nI (k + 1)) n < mPk r 0 (nI j) n := fun j hj => Int32.lt_of_lt_of_le q (h1 j (by omega))
      refine ⟨fun j hj => ?_, h3⟩
      by_cases e : j = k + 1
      · rw [e]; exact Int32.le_refl _
      · exact Int32.le_of_lt (h3 j (by omega))
    · rw [if_neg q]
      refine ⟨fun j hj => ?_, h2⟩
      by_cases e : j = k + 1
      · rw [e]; exact Int32.not_lt.mp q
      · exact h1 j (by omega)
def mx (r : Rw) : Nat → Int32
  | 0 => 0
  | k + 1 => if mx r k < mMinN r (k + 1) 20 then mMinN r (k + 1) 20 else mx r k
theorem mPkF_mx (r : Rw) : ∀ n k, mPkF 0 (mMinN r k) n (mx r k) = mx r (k + n) := by
  intro n
  induction n with
  | zero => intro k; rfl
  | succ n ih =>
    intro k
    rw [show k + (n + 1) = k + 1 + n by omega, ← ih (k + 1)]
    simp only [mPkF]
    rw [mMinN_s]
    rfl
theorem pk_mx {r : Rw} {n : Nat} (h11 : r 11 = 0) (h : r 4 = r 9) : mPk r 0 (r 4) n = mx r n := by
  have e : mPk0 r (r 4) = r := by
    unfold mPk0
    funext j
    by_cases j9 : j = 9
    · subst j9; rw [upd_eq]; exact h
    · rw [upd_ne j9]
      by_cases j4 : j = 4
      · subst j4; rw [upd_eq]
      · rw [upd_ne j4]
        by_cases j11 : j = 11
        · subst j11; rw [upd_eq]; exact h11.symm
        · rw [upd_ne j11]
  unfold mPk
  rw [e]
  have h9 := mPkF_mx r n 0
  rw [Nat.zero_add] at h9
  exact h9
set_option maxHeartbeats 4000000 in
set_option maxRecDepth 100000 in
theorem l_peak1 {x : xC} {b0 : Nat} (T : Ct x mL_isPeak) {r : Rw} {R ns nr ne t kp Tm : Nat} {qs : Nat → Rw} (G : Gd r R ns nr ne t) (hs : Gs Tm kp qs) (ht : t + 200 ≤ 1000000) (N : Nat) (hN : 1 ≤ N ∧ N ≤ 9) (v6 v7 : Option Value) {Z : State → Prop} (kx : Hs x b0 83 [some (.ref 0), some (.int (nI N)), some (.int (nI (mBe r N 8))), some (.int (mPk r 0 (nI (mBe r N 8)) N)), some (.int 1), some (.int (nI 9)), v6, v7] [] r kp qs (2 + 9) Z) : ∀ n k : Nat, k + n = 9 → Hs x b0 20 [some (.ref 0), some (.int (nI N)), some (.int (nI (mBe r N 8))), some (.int (mPk r 0 (nI (mBe r N 8)) N)), some (.int 1), some (.int (nI k)), v6, v7] [] r kp qs (2 + k) Z := by
  have C := T.1
  intro n
  induction n with
  | zero =>
    intro k hk
    refine h_iload C dL_isPeak_20 rfl ?_
    refine h_bipush (v := 9) C dL_isPeak_22 (by decide) ?_
    refine h_icmp_ge (t := 83) C dL_isPeak_24 (by decide) (fun kc24 => ?_) (fun kc24 => absurd (by rw [show k = 9 by omega]; exact Int32.le_refl _) kc24)
    obtain rfl : k = 9 := by omega
    exact kx
  | succ n ih =>
    intro k hk
    refine h_iload C dL_isPeak_20 rfl ?_
    refine h_bipush (v := 9) C dL_isPeak_22 (by decide) ?_
    refine h_icmp_ge (t := 83) C dL_isPeak_24 (by decide) (fun kc24 => absurd kc24 (nI_ge (a := k) (b := 9) (by omega) (by omega))) (fun kc24 => ?_)
    refine h_iload C dL_isPeak_27 rfl ?_
    refine h_if_eq (t := 83) C dL_isPeak_29 (by decide) (fun kc29 => absurd kc29 (by decide)) (fun kc29 => ?_)
    refine h_join (t := 75) (v := .int (1)) (k' := 2 + k + 1) ?_ (fun K32 => ?_)
    ·
      refine h_istore C dL_isPeak_75 (L' := [_, _, _, _, _, _, _, _]) (by decide) (Nat.lt_of_lt_of_le (by decide : (4 : Nat) < 8) (Nat.le_refl _)) rfl ?_
      refine h_iinc C dL_isPeak_77 (L' := [_, _, _, _, _, _, _, _]) (by decide) rfl (nI_1 k) rfl ?_
      refine h_goto (t := 20) C dL_isPeak_80 (by decide) ?_
      exact h_widen (by omega) (ih (k + 1) (by omega))
    ·
      refine h_iload C dL_isPeak_32 rfl ?_
      refine h_iload_n C dL_isPeak_34 rfl ?_
      refine h_icmp_ge (t := 58) C dL_isPeak_35 (by decide) (fun kc35 => ?_) (fun kc35 => ?_)
      · -- t
        refine h_aload_n C dL_isPeak_58 rfl ?_
        refine h_iconst (v := 0) C dL_isPeak_59 (by decide) ?_
        refine h_iload C dL_isPeak_60 rfl ?_
        refine h_iload_n C dL_isPeak_62 rfl ?_
        refine h_callXs T (rd_peak0 G hs.1 ht (o8 (by omega)) (by omega)) dL_isPeak_63 rfl gL_isPeak_L_peak rfl qL_peak ⟨rfl, rfl⟩ ⟨Nat.le_of_ble_eq_true rfl, Nat.le_of_ble_eq_true rfl⟩ rfl (Nat.le_of_ble_eq_true rfl) (Nat.le_of_ble_eq_true rfl) (by show _ ≤ 60; omega) ?_
        refine h_iload_n C dL_isPeak_66 rfl ?_
        refine h_icmp_lt (t := 74) C dL_isPeak_67 (by decide) (fun kc67 => absurd kc67 (Int32.not_lt.mpr ((be_min r N 8).1 k (by omega)))) (fun kc67 => ?_)
        refine h_iconst (v := 1) C dL_isPeak_70 (by decide) ?_
        refine h_goto (t := 75) C dL_isPeak_71 (by decide) ?_
        exact h_kE K32 (by omega) (rfl)
      · -- f
        refine h_aload_n C dL_isPeak_38 rfl ?_
        refine h_iconst (v := 0) C dL_isPeak_39 (by decide) ?_
        refine h_iload C dL_isPeak_40 rfl ?_
        refine h_iload_n C dL_isPeak_42 rfl ?_
        refine h_callXs T (rd_peak0 G hs.1 ht (o8 (by omega)) (by omega)) dL_isPeak_43 rfl gL_isPeak_L_peak rfl qL_peak ⟨rfl, rfl⟩ ⟨Nat.le_of_ble_eq_true rfl, Nat.le_of_ble_eq_true rfl⟩ rfl (Nat.le_of_ble_eq_true rfl) (Nat.le_of_ble_eq_true rfl) (by show _ ≤ 60; omega) ?_
        refine h_iload_n C dL_isPeak_46 rfl ?_
        refine h_icmp_le (t := 54) C dL_isPeak_47 (by decide) (fun kc47 => absurd kc47 (Int32.not_le.mpr ((be_min r N 8).2 k (by
          have h9 := mBe_le r N 8
          exact Nat.lt_of_not_le (fun z => kc35 (nI_le z (by omega))))))) (fun kc47 => ?_)
        refine h_iconst (v := 1) C dL_isPeak_50 (by decide) ?_
        refine h_goto (t := 75) C dL_isPeak_51 (by decide) ?_
        exact h_kE K32 (by omega) (rfl)
set_option maxHeartbeats 4000000 in
set_option maxRecDepth 100000 in
theorem l_peak2 {x : xC} {b0 : Nat} (T : Ct x mL_isPeak) {r : Rw} {R ns nr ne t kp Tm : Nat} {qs : Nat → Rw} (G : Gd r R ns nr ne t) (hs : Gs Tm kp qs) (ht : t + 200 ≤ 1000000) (N : Nat) (hN : 1 ≤ N ∧ N ≤ 9) {Z : State → Prop} (kx : ∀ v7 : Option Value, Hs x b0 154 [some (.ref 0), some (.int (nI N)), some (.int (nI (mBe r N 8))), some (.int (mPk r 0 (nI (mBe r N 8)) N)), some (.int 1), some (.int (mx r N)), some (.int (nI (N + 1))), v7] [] r kp qs (14 + N) Z) : ∀ n k : Nat, k + n = N → ∀ v7 : Option Value, Hs x b0 117 [some (.ref 0), some (.int (nI N)), some (.int (nI (mBe r N 8))), some (.int (mPk r 0 (nI (mBe r N 8)) N)), some (.int 1), some (.int (mx r k)), some (.int (nI (k + 1))), v7] [] r kp qs (14 + k) Z := by
  have C := T.1
  intro n
  induction n with
  | zero =>
    intro k hk
    intro v7
    refine h_iload C dL_isPeak_117 rfl ?_
    refine h_iload_n C dL_isPeak_119 rfl ?_
    refine h_icmp_gt (t := 154) C dL_isPeak_120 (by decide) (fun kc120 => ?_) (fun kc120 => absurd (by rw [show k = N by omega]; exact nI_lt (by omega) (by omega)) kc120)
    obtain rfl : k = N := by omega
    exact kx v7
  | succ n ih =>
    intro k hk
    intro v7
    refine h_iload C dL_isPeak_117 rfl ?_
    refine h_iload_n C dL_isPeak_119 rfl ?_
    refine h_icmp_gt (t := 154) C dL_isPeak_120 (by decide) (fun kc120 => absurd kc120 (nI_nlt (by omega) (by omega))) (fun kc120 => ?_)
    refine h_aload_n C dL_isPeak_123 rfl ?_
    refine h_iconst (v := 0) C dL_isPeak_124 (by decide) ?_
    refine h_iload C dL_isPeak_125 rfl ?_
    refine h_callXs T (rd_smoke0 G hs.1 ht (by omega)) dL_isPeak_127 rfl gL_isPeak_L_smokeAfter rfl qL_smokeAfter ⟨rfl, rfl⟩ ⟨Nat.le_of_ble_eq_true rfl, Nat.le_of_ble_eq_true rfl⟩ rfl (Nat.le_of_ble_eq_true rfl) (Nat.le_of_ble_eq_true rfl) (by show _ ≤ 60; omega) ?_
    refine h_istore C dL_isPeak_130 (L' := [_, _, _, _, _, _, _, _]) (by decide) (Nat.lt_of_lt_of_le (by decide : (7 : Nat) < 8) (Nat.le_refl _)) rfl ?_
    refine h_join (t := 146) (v := .int (mx r (k + 1))) (k' := 14 + k + 1) ?_ (fun K132 => ?_)
    ·
      refine h_istore C dL_isPeak_146 (L' := [_, _, _, _, _, _, _, _]) (by decide) (Nat.lt_of_lt_of_le (by decide : (5 : Nat) < 8) (Nat.le_refl _)) rfl ?_
      refine h_iinc C dL_isPeak_148 (L' := [_, _, _, _, _, _, _, _]) (by decide) rfl (nI_1 (k + 1)) rfl ?_
      refine h_goto (t := 117) C dL_isPeak_151 (by decide) ?_
      exact h_widen (by omega) (ih (k + 1) (by omega) _)
    ·
      refine h_iload C dL_isPeak_132 rfl ?_
      refine h_iload C dL_isPeak_134 rfl ?_
      refine h_icmp_le (t := 144) C dL_isPeak_136 (by decide) (fun kc136 => ?_) (fun kc136 => ?_)
      · -- t
        refine h_iload C dL_isPeak_144 rfl ?_
        exact h_kE K132 (by omega) (by first | exact (if_neg (Int32.not_lt.mpr kc136)).symm | exact (if_pos (Int32.not_le.mp kc136)).symm)
      · -- f
        refine h_iload C dL_isPeak_139 rfl ?_
        refine h_goto (t := 146) C dL_isPeak_141 (by decide) ?_
        exact h_kE K132 (by omega) (by first | exact (if_neg (Int32.not_lt.mpr kc136)).symm | exact (if_pos (Int32.not_le.mp kc136)).symm)
set_option maxHeartbeats 4000000 in
set_option maxRecDepth 100000 in
theorem e_L_isPeak {r : Rw} {R ns nr ne t kp Tm : Nat} {qs : Nat → Rw} (G : Gd r R ns nr ne t) (hs : Gs Tm kp qs) (ht : t + 200 ≤ 1000000) (N : Nat) (hN : 1 ≤ N ∧ N ≤ 9) : Xh 60 mL_isPeak [.ref 0, .int (nI N)] r kp qs (1) r (Gs Tm) := by
  obtain ⟨-, -, -, d4, d5, d8, -⟩ := G.1.2.2.2.2.2.1
  refine Xh_mk (L := [some (.ref 0), some (.int (nI N)), none, none, none, none, none, none]) (by decide) rfl (Nat.le_of_ble_eq_true rfl) rfl (fun x b0 T => ?_)
  have C := T.1
  refine h_aload_n C dL_isPeak_0 rfl ?_
  refine h_iload_n C dL_isPeak_1 rfl ?_
  refine h_callXs T (rd_best G hs.1 ht (by omega)) dL_isPeak_2 rfl gL_isPeak_L_bestOpening rfl qL_bestOpening ⟨rfl, rfl⟩ ⟨Nat.le_of_ble_eq_true rfl, Nat.le_of_ble_eq_true rfl⟩ rfl (Nat.le_of_ble_eq_true rfl) (Nat.le_of_ble_eq_true rfl) (Nat.le_of_ble_eq_true rfl) ?_
  refine h_istore_n C dL_isPeak_5 (L' := [_, _, _, _, _, _, _, _]) (by decide) (Nat.lt_of_lt_of_le (by decide : (2 : Nat) < 8) (Nat.le_refl _)) rfl ?_
  refine h_aload_n C dL_isPeak_6 rfl ?_
  refine h_iconst (v := 0) C dL_isPeak_7 (by decide) ?_
  refine h_iload_n C dL_isPeak_8 rfl ?_
  refine h_iload_n C dL_isPeak_9 rfl ?_
  refine h_callXs T (rd_peak0 G hs.1 ht (o8 (mBe_le r N 8)) (by omega)) dL_isPeak_10 rfl gL_isPeak_L_peak rfl qL_peak ⟨rfl, rfl⟩ ⟨Nat.le_of_ble_eq_true rfl, Nat.le_of_ble_eq_true rfl⟩ rfl (Nat.le_of_ble_eq_true rfl) (Nat.le_of_ble_eq_true rfl) (Nat.le_of_ble_eq_true rfl) ?_
  refine h_istore_n C dL_isPeak_13 (L' := [_, _, _, _, _, _, _, _]) (by decide) (Nat.lt_of_lt_of_le (by decide : (3 : Nat) < 8) (Nat.le_refl _)) rfl ?_
  refine h_iconst (v := 1) C dL_isPeak_14 (by decide) ?_
  refine h_istore C dL_isPeak_15 (L' := [_, _, _, _, _, _, _, _]) (by decide) (Nat.lt_of_lt_of_le (by decide : (4 : Nat) < 8) (Nat.le_refl _)) rfl ?_
  refine h_iconst (v := 0) C dL_isPeak_17 (by decide) ?_
  refine h_istore C dL_isPeak_18 (L' := [_, _, _, _, _, _, _, _]) (by decide) (Nat.lt_of_lt_of_le (by decide : (5 : Nat) < 8) (Nat.le_refl _)) rfl ?_
  refine h_widen (k' := 2 + 0) (Nat.le_of_ble_eq_true rfl) ?_
  refine l_peak1 T G hs ht N hN _ _ ?_ 9 0 (Nat.zero_add _)
  refine h_widen (k' := 11) (by omega) ?_
  refine h_aload_n C dL_isPeak_83 rfl ?_
  refine h_bipush (v := 13) C dL_isPeak_84 (by decide) ?_
  refine h_callXs T (rd_info13 G hs.1) dL_isPeak_86 rfl gL_isPeak_L_info rfl qL_info ⟨rfl, rfl⟩ ⟨Nat.le_of_ble_eq_true rfl, Nat.le_of_ble_eq_true rfl⟩ rfl (Nat.le_of_ble_eq_true rfl) (Nat.le_of_ble_eq_true rfl) (Nat.le_of_ble_eq_true rfl) ?_
  refine h_if_ne (t := 177) C dL_isPeak_89 (by decide) (fun kc89 => ?_) (fun kc89 => ?_)
  · -- t
    refine h_iload C dL_isPeak_177 rfl ?_
    exact h_zret C rfl dL_isPeak_179 (by decide) (Nat.le_of_ble_eq_true rfl) (hs)
  · -- f
    refine h_aload_n C dL_isPeak_92 rfl ?_
    refine h_iconst (v := 4) C dL_isPeak_93 (by decide) ?_
    refine h_callXs T (rd_info4 G hs.1) dL_isPeak_94 rfl gL_isPeak_L_info rfl qL_info ⟨rfl, rfl⟩ ⟨Nat.le_of_ble_eq_true rfl, Nat.le_of_ble_eq_true rfl⟩ rfl (Nat.le_of_ble_eq_true rfl) (Nat.le_of_ble_eq_true rfl) (Nat.le_of_ble_eq_true rfl) ?_
    refine h_aload_n C dL_isPeak_97 rfl ?_
    refine h_bipush (v := 10) C dL_isPeak_98 (by decide) ?_
    refine h_callXs T (rd_info10 G hs.1) dL_isPeak_100 rfl gL_isPeak_L_info rfl qL_info ⟨rfl, rfl⟩ ⟨Nat.le_of_ble_eq_true rfl, Nat.le_of_ble_eq_true rfl⟩ rfl (Nat.le_of_ble_eq_true rfl) (Nat.le_of_ble_eq_true rfl) (Nat.le_of_ble_eq_true rfl) ?_
    refine h_icmp_ne (t := 177) C dL_isPeak_103 (by decide) (fun kc103 => ?_) (fun kc103 => ?_)
    · -- t
      refine h_iload C dL_isPeak_177 rfl ?_
      exact h_zret C rfl dL_isPeak_179 (by decide) (Nat.le_of_ble_eq_true rfl) (hs)
    · -- f
      refine h_iload C dL_isPeak_106 rfl ?_
      refine h_if_eq (t := 177) C dL_isPeak_108 (by decide) (fun kc108 => absurd kc108 (by decide)) (fun kc108 => ?_)
      refine h_iconst (v := 0) C dL_isPeak_111 (by decide) ?_
      refine h_istore C dL_isPeak_112 (L' := [_, _, _, _, _, _, _, _]) (by decide) (Nat.lt_of_lt_of_le (by decide : (5 : Nat) < 8) (Nat.le_refl _)) rfl ?_
      refine h_iconst (v := 1) C dL_isPeak_114 (by decide) ?_
      refine h_istore C dL_isPeak_115 (L' := [_, _, _, _, _, _, _, _]) (by decide) (Nat.lt_of_lt_of_le (by decide : (6 : Nat) < 8) (Nat.le_refl _)) rfl ?_
      refine h_widen (k' := 14 + 0) (Nat.le_of_ble_eq_true rfl) ?_
      refine l_peak2 T G hs ht N hN (fun v7 => ?_) N 0 (Nat.zero_add _) _
      refine h_widen (k' := 30) (by omega) ?_
      refine h_aload_n C dL_isPeak_154 rfl ?_
      refine h_iconst (v := 0) C dL_isPeak_155 (by decide) ?_
      refine h_aload_n C dL_isPeak_156 rfl ?_
      refine h_iconst (v := 4) C dL_isPeak_157 (by decide) ?_
      refine h_callXs T (rd_info4 G hs.1) dL_isPeak_158 rfl gL_isPeak_L_info rfl qL_info ⟨rfl, rfl⟩ ⟨Nat.le_of_ble_eq_true rfl, Nat.le_of_ble_eq_true rfl⟩ rfl (Nat.le_of_ble_eq_true rfl) (Nat.le_of_ble_eq_true rfl) (Nat.le_of_ble_eq_true rfl) ?_
      refine h_iload_n C dL_isPeak_161 rfl ?_
      refine h_callXs T (rd_peak0 G hs.1 ht d4 (by omega)) dL_isPeak_162 rfl gL_isPeak_L_peak rfl qL_peak ⟨rfl, rfl⟩ ⟨Nat.le_of_ble_eq_true rfl, Nat.le_of_ble_eq_true rfl⟩ rfl (Nat.le_of_ble_eq_true rfl) (Nat.le_of_ble_eq_true rfl) (Nat.le_of_ble_eq_true rfl) ?_
      refine h_iload C dL_isPeak_165 rfl ?_
      refine h_icmp_ne (t := 174) C dL_isPeak_167 (by decide) (fun kc167 => absurd (pk_mx (G.1.1.2.2.1.1.trans kc89) kc103) kc167) (fun kc167 => ?_)
      refine h_iconst (v := 1) C dL_isPeak_170 (by decide) ?_
      refine h_goto (t := 175) C dL_isPeak_171 (by decide) ?_
      refine h_istore C dL_isPeak_175 (L' := [_, _, _, _, _, _, _, _]) (by decide) (Nat.lt_of_lt_of_le (by decide : (4 : Nat) < 8) (Nat.le_refl _)) rfl ?_
      refine h_iload C dL_isPeak_177 rfl ?_
      exact h_zret C rfl dL_isPeak_179 (by decide) (Nat.le_of_ble_eq_true rfl) (hs)
