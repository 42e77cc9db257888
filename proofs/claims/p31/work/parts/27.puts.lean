set_option maxHeartbeats 4000000 in
set_option maxRecDepth 100000 in
theorem e_X5_append {B : Nat} (hB : isW B) {r : Rw} (σ : xS) (τ : xT) (hR : Rel σ B r) {R ns nr ne t tl : Nat} (I : Inv r R ns nr ne t tl) (a b c d : Int32) (h8 : nr < 8) : Xi mX5_append [.ref (B + 16), .int a, .int b, .int c, .int d] σ τ (fun v σ1 τ1 => v = nI nr ∧ Rel σ1 B (mARu r nr a b c d) ∧ Fr (wS B) σ σ1 ∧ τ = τ1) := by
  refine Xi_mk (L := [some (.ref (B + 16)), some (.int a), some (.int b), some (.int c), some (.int d), none]) (by decide) rfl (Nat.le_of_ble_eq_true rfl) rfl (fun x C => ?_)
  refine y_aload_n C dX5_append_0 rfl ?_
  refine g_X5_count C hB dX5_append_1 (by decide +kernel) (by decide +kernel) ?_
  refine y_topE (nI nr) ((hR.lo 11 (by decide) (by decide)).trans I.1.2.2.1.1) ?_
  refine y_istore C dX5_append_4 (L' := [_, _, _, _, _, _]) (Nat.lt_of_lt_of_le (by decide : (5 : Nat) < 6) (Nat.le_refl _)) rfl ?_
  refine y_iload C dX5_append_6 rfl ?_
  refine y_bipush (v := 8) C dX5_append_8 (by decide) ?_
  refine y_icmp_ge (t := 54) C dX5_append_10 (by decide) (fun c10 => absurd c10 (nI_ge (a := nr) (b := 8) h8 (by decide))) (fun c10 => ?_)
  refine y_aload_n C dX5_append_13 rfl ?_
  refine g_X5_kind C hB dX5_append_14 (by decide +kernel) (by decide +kernel) ?_
  refine y_iload C dX5_append_17 rfl ?_
  refine y_iload_n C dX5_append_19 rfl ?_
  refine y_is (a := B + 17) (N := 8) C nr dX5_append_20 (by have := isW_le hB; omega) (xSH_W hB 17 (by decide)) (by decide) rfl (by omega) ?_
  refine y_aload_n C dX5_append_21 rfl ?_
  refine g_X5_room C hB dX5_append_22 (by decide +kernel) (by decide +kernel) ?_
  refine y_iload C dX5_append_25 rfl ?_
  refine y_iload_n C dX5_append_27 rfl ?_
  refine y_is (a := B + 18) (N := 8) C nr dX5_append_28 (by have := isW_le hB; omega) (xSH_W hB 18 (by decide)) (by decide) rfl (by omega) ?_
  refine y_aload_n C dX5_append_29 rfl ?_
  refine g_X5_limit C hB dX5_append_30 (by decide +kernel) (by decide +kernel) ?_
  refine y_iload C dX5_append_33 rfl ?_
  refine y_iload_n C dX5_append_35 rfl ?_
  refine y_is (a := B + 19) (N := 8) C nr dX5_append_36 (by have := isW_le hB; omega) (xSH_W hB 19 (by decide)) (by decide) rfl (by omega) ?_
  refine y_aload_n C dX5_append_37 rfl ?_
  refine g_X5_opening C hB dX5_append_38 (by decide +kernel) (by decide +kernel) ?_
  refine y_iload C dX5_append_41 rfl ?_
  refine y_iload C dX5_append_43 rfl ?_
  refine y_is (a := B + 20) (N := 8) C nr dX5_append_45 (by have := isW_le hB; omega) (xSH_W hB 20 (by decide)) (by decide) rfl (by omega) ?_
  refine y_aload_n C dX5_append_46 rfl ?_
  refine y_iload C dX5_append_47 rfl ?_
  refine y_iconst (v := 1) C dX5_append_49 (by decide) ?_
  refine y_iadd C dX5_append_50 ?_
  refine p_X5_count C hB dX5_append_51 (by decide +kernel) (by decide +kernel) ?_
  refine y_iload C dX5_append_54 rfl ?_
  exact y_iret C rfl dX5_append_56 (⟨rfl, hR.aru h8 I.1.2.2.1.1 (fun q hq => by
      have hq : ¬ (B + 16 ≤ q ∧ q ≤ B + 20) := hq
      simp [ups, show ¬ q = B + 16 by omega, show ¬ q = B + 17 by omega, show ¬ q = B + 18 by omega, show ¬ q = B + 19 by omega, show ¬ q = B + 20 by omega]) (by simp [ups, upd, nI_1]) (by simp [ups]) (by simp [ups]) (by simp [ups]) (by simp [ups]), fun q hq => by
      have hq : ¬ (B ≤ q ∧ q < B + 27) := hq
      simp [ups, show ¬ q = B + 16 by omega, show ¬ q = B + 17 by omega, show ¬ q = B + 18 by omega, show ¬ q = B + 19 by omega, show ¬ q = B + 20 by omega], rfl⟩)
set_option maxHeartbeats 4000000 in
set_option maxRecDepth 100000 in
theorem e_X6_append {B : Nat} (hB : isW B) {r : Rw} (σ : xS) (τ : xT) (hR : Rel σ B r) {R ns nr ne t tl : Nat} (I : Inv r R ns nr ne t tl) (a b c d e : Int32) (h8 : ns < 8) : Xi mX6_append [.ref (B + 5), .int a, .int b, .int c, .int d, .int e] σ τ (fun v σ1 τ1 => v = nI ns ∧ Rel σ1 B (mASe r ns a b c d e) ∧ Fr (wS B) σ σ1 ∧ τ = τ1) := by
  refine Xi_mk (L := [some (.ref (B + 5)), some (.int a), some (.int b), some (.int c), some (.int d), some (.int e), none]) (by decide) rfl (Nat.le_of_ble_eq_true rfl) rfl (fun x C => ?_)
  refine y_aload_n C dX6_append_0 rfl ?_
  refine g_X6_count C hB dX6_append_1 (by decide +kernel) (by decide +kernel) ?_
  refine y_topE (nI ns) ((hR.lo 10 (by decide) (by decide)).trans I.1.2.1.1) ?_
  refine y_istore C dX6_append_4 (L' := [_, _, _, _, _, _, _]) (Nat.lt_of_lt_of_le (by decide : (6 : Nat) < 7) (Nat.le_refl _)) rfl ?_
  refine y_iload C dX6_append_6 rfl ?_
  refine y_bipush (v := 8) C dX6_append_8 (by decide) ?_
  refine y_icmp_ge (t := 79) C dX6_append_10 (by decide) (fun c10 => absurd c10 (nI_ge (a := ns) (b := 8) h8 (by decide))) (fun c10 => ?_)
  refine y_aload_n C dX6_append_13 rfl ?_
  refine g_X6_room C hB dX6_append_14 (by decide +kernel) (by decide +kernel) ?_
  refine y_iload C dX6_append_17 rfl ?_
  refine y_iload_n C dX6_append_19 rfl ?_
  refine y_is (a := B + 6) (N := 8) C ns dX6_append_20 (by have := isW_le hB; omega) (xSH_W hB 6 (by decide)) (by decide) rfl (by omega) ?_
  refine y_aload_n C dX6_append_21 rfl ?_
  refine g_X6_kind C hB dX6_append_22 (by decide +kernel) (by decide +kernel) ?_
  refine y_iload C dX6_append_25 rfl ?_
  refine y_iload_n C dX6_append_27 rfl ?_
  refine y_is (a := B + 7) (N := 8) C ns dX6_append_28 (by have := isW_le hB; omega) (xSH_W hB 7 (by decide)) (by decide) rfl (by omega) ?_
  refine y_aload_n C dX6_append_29 rfl ?_
  refine g_X6_threshold C hB dX6_append_30 (by decide +kernel) (by decide +kernel) ?_
  refine y_iload C dX6_append_33 rfl ?_
  refine y_iload_n C dX6_append_35 rfl ?_
  refine y_is (a := B + 8) (N := 8) C ns dX6_append_36 (by have := isW_le hB; omega) (xSH_W hB 8 (by decide)) (by decide) rfl (by omega) ?_
  refine y_aload_n C dX6_append_37 rfl ?_
  refine g_X6_delay C hB dX6_append_38 (by decide +kernel) (by decide +kernel) ?_
  refine y_iload C dX6_append_41 rfl ?_
  refine y_iload C dX6_append_43 rfl ?_
  refine y_is (a := B + 9) (N := 8) C ns dX6_append_45 (by have := isW_le hB; omega) (xSH_W hB 9 (by decide)) (by decide) rfl (by omega) ?_
  refine y_aload_n C dX6_append_46 rfl ?_
  refine g_X6_weight C hB dX6_append_47 (by decide +kernel) (by decide +kernel) ?_
  refine y_iload C dX6_append_50 rfl ?_
  refine y_iload C dX6_append_52 rfl ?_
  refine y_is (a := B + 10) (N := 8) C ns dX6_append_54 (by have := isW_le hB; omega) (xSH_W hB 10 (by decide)) (by decide) rfl (by omega) ?_
  refine y_aload_n C dX6_append_55 rfl ?_
  refine g_X6_fault C hB dX6_append_56 (by decide +kernel) (by decide +kernel) ?_
  refine y_iload C dX6_append_59 rfl ?_
  refine y_iconst (v := 0) C dX6_append_61 (by decide) ?_
  refine y_is (a := B + 11) (N := 8) C ns dX6_append_62 (by have := isW_le hB; omega) (xSH_W hB 11 (by decide)) (by decide) rfl (by omega) ?_
  refine y_aload_n C dX6_append_63 rfl ?_
  refine g_X6_excitedFor C hB dX6_append_64 (by decide +kernel) (by decide +kernel) ?_
  refine y_iload C dX6_append_67 rfl ?_
  refine y_iconst (v := 0) C dX6_append_69 (by decide) ?_
  refine y_is (a := B + 12) (N := 8) C ns dX6_append_70 (by have := isW_le hB; omega) (xSH_W hB 12 (by decide)) (by decide) rfl (by omega) ?_
  refine y_aload_n C dX6_append_71 rfl ?_
  refine y_iload C dX6_append_72 rfl ?_
  refine y_iconst (v := 1) C dX6_append_74 (by decide) ?_
  refine y_iadd C dX6_append_75 ?_
  refine p_X6_count C hB dX6_append_76 (by decide +kernel) (by decide +kernel) ?_
  refine y_iload C dX6_append_79 rfl ?_
  exact y_iret C rfl dX6_append_81 (⟨rfl, hR.ase h8 I.1.2.1.1 (fun q hq => by
      have hq : ¬ (B + 5 ≤ q ∧ q ≤ B + 12) := hq
      simp [ups, show ¬ q = B + 5 by omega, show ¬ q = B + 6 by omega, show ¬ q = B + 7 by omega, show ¬ q = B + 8 by omega, show ¬ q = B + 9 by omega, show ¬ q = B + 10 by omega, show ¬ q = B + 11 by omega, show ¬ q = B + 12 by omega]) (by simp [ups, upd, nI_1]) (by simp [ups]) (by simp [ups]) (by simp [ups]) (by simp [ups]) (by simp [ups]) (by simp [ups]) (by simp [ups]), fun q hq => by
      have hq : ¬ (B ≤ q ∧ q < B + 27) := hq
      simp [ups, show ¬ q = B + 5 by omega, show ¬ q = B + 6 by omega, show ¬ q = B + 7 by omega, show ¬ q = B + 8 by omega, show ¬ q = B + 9 by omega, show ¬ q = B + 10 by omega, show ¬ q = B + 11 by omega, show ¬ q = B + 12 by omega], rfl⟩)
set_option maxHeartbeats 4000000 in
set_option maxRecDepth 100000 in
theorem l_X5_drop {x : xC} (C : Cx x mX5_drop) {B : Nat} (hB : isW B) {r : Rw} (σ : xS) (τ : xT) (hR : Rel σ B r) {R ns nr ne t tl : Nat} (I : Inv r R ns nr ne t tl) (a : Nat) (ha : a < nr) {Z : State → Prop} (kx : ∀ σ1 : xS, Rel σ1 B (mDrR r a (a + (nr - 1 - a))) → Fr (wS B) σ σ1 → Y x 74 [some (.ref (B + 16)), some (.int (nI a)), some (.int (nI (a + (nr - 1 - a))))] [] σ1 τ 0 0 Z) : ∀ n k : Nat, k + n = (nr - 1 - a) → ∀ σ1 : xS, Rel σ1 B (mDrR r a (a + k)) → Fr (wS B) σ σ1 → Y x 2 [some (.ref (B + 16)), some (.int (nI a)), some (.int (nI (a + k)))] [] σ1 τ 0 0 Z := by
  intro n
  induction n with
  | zero =>
    intro k hk
    intro σ1 hR1 hF1
    have hr8 := I.1.2.2.1.2
    refine y_iload_n C dX5_drop_2 rfl ?_
    refine y_iconst (v := 1) C dX5_drop_3 (by decide) ?_
    refine y_iadd C dX5_drop_4 ?_
    refine y_topE (nI (a + k + 1)) (nI_1 (a + k)) ?_
    refine y_aload_n C dX5_drop_5 rfl ?_
    refine gR_X5_count C hB hR1 dX5_drop_6 (by decide +kernel) (by decide +kernel) ?_
    refine y_topE (nI nr) (by rw [mDrR_out (by omega)]; exact I.1.2.2.1.1) ?_
    refine y_icmp_ge (t := 74) C dX5_drop_9 (by decide) (fun c9 => ?_) (fun c9 => absurd (by rw [show a + k + 1 = nr by omega]; exact Int32.le_refl _) c9)
    obtain rfl : k = nr - 1 - a := by omega
    exact kx σ1 hR1 hF1
  | succ n ih =>
    intro k hk
    intro σ1 hR1 hF1
    have hr8 := I.1.2.2.1.2
    refine y_iload_n C dX5_drop_2 rfl ?_
    refine y_iconst (v := 1) C dX5_drop_3 (by decide) ?_
    refine y_iadd C dX5_drop_4 ?_
    refine y_topE (nI (a + k + 1)) (nI_1 (a + k)) ?_
    refine y_aload_n C dX5_drop_5 rfl ?_
    refine gR_X5_count C hB hR1 dX5_drop_6 (by decide +kernel) (by decide +kernel) ?_
    refine y_topE (nI nr) (by rw [mDrR_out (by omega)]; exact I.1.2.2.1.1) ?_
    refine y_icmp_ge (t := 74) C dX5_drop_9 (by decide) (fun c9 => absurd c9 (nI_ge (by omega) (by omega))) (fun c9 => ?_)
    refine y_aload_n C dX5_drop_12 rfl ?_
    refine g_X5_kind C hB dX5_drop_13 (by decide +kernel) (by decide +kernel) ?_
    refine y_iload_n C dX5_drop_16 rfl ?_
    refine y_aload_n C dX5_drop_17 rfl ?_
    refine g_X5_kind C hB dX5_drop_18 (by decide +kernel) (by decide +kernel) ?_
    refine y_iload_n C dX5_drop_21 rfl ?_
    refine y_iconst (v := 1) C dX5_drop_22 (by decide) ?_
    refine y_iadd C dX5_drop_23 ?_
    refine y_topE (nI (a + k + 1)) (nI_1 (a + k)) ?_
    refine aR C hB hR1 (113 + 4 * (a + k + 1) + 0) 17 (a + k + 1) 8 (pl_r _ (by omega) _ (by decide)) (lv_r (by omega) (by decide) (by rw [mDrR_out (by omega)]; exact inv_r I (by omega))) (by decide) rfl (by decide) rfl (by omega) dX5_drop_24 ?_
    refine y_topE (r (113 + 4 * (a + k + 1) + 0)) (by rw [mDrR_out (by omega)]) ?_
    refine wR C hB hR1 (113 + 4 * (a + k) + 0) 17 (a + k) 8 (pl_r _ (by omega) _ (by decide)) (by omega) (by omega) (lv_upd (by omega) (by omega) (by omega)) (by decide) rfl (by decide) rfl (by omega) dX5_drop_25 (fun σ2 hR2 hF2 => ?_)
    refine y_aload_n C dX5_drop_26 rfl ?_
    refine g_X5_room C hB dX5_drop_27 (by decide +kernel) (by decide +kernel) ?_
    refine y_iload_n C dX5_drop_30 rfl ?_
    refine y_aload_n C dX5_drop_31 rfl ?_
    refine g_X5_room C hB dX5_drop_32 (by decide +kernel) (by decide +kernel) ?_
    refine y_iload_n C dX5_drop_35 rfl ?_
    refine y_iconst (v := 1) C dX5_drop_36 (by decide) ?_
    refine y_iadd C dX5_drop_37 ?_
    refine y_topE (nI (a + k + 1)) (nI_1 (a + k)) ?_
    refine aR C hB hR2 (113 + 4 * (a + k + 1) + 1) 18 (a + k + 1) 8 (pl_r _ (by omega) _ (by decide)) (lv_r (by omega) (by decide) (by rw [upd_ne (by omega), mDrR_out (by omega)]; exact inv_r I (by omega))) (by decide) rfl (by decide) rfl (by omega) dX5_drop_38 ?_
    refine y_topE (r (113 + 4 * (a + k + 1) + 1)) (by rw [upd_ne (by omega), mDrR_out (by omega)]) ?_
    refine wR C hB hR2 (113 + 4 * (a + k) + 1) 18 (a + k) 8 (pl_r _ (by omega) _ (by decide)) (by omega) (by omega) (lv_upd (by omega) (by omega) (by omega)) (by decide) rfl (by decide) rfl (by omega) dX5_drop_39 (fun σ3 hR3 hF3 => ?_)
    refine y_aload_n C dX5_drop_40 rfl ?_
    refine g_X5_limit C hB dX5_drop_41 (by decide +kernel) (by decide +kernel) ?_
    refine y_iload_n C dX5_drop_44 rfl ?_
    refine y_aload_n C dX5_drop_45 rfl ?_
    refine g_X5_limit C hB dX5_drop_46 (by decide +kernel) (by decide +kernel) ?_
    refine y_iload_n C dX5_drop_49 rfl ?_
    refine y_iconst (v := 1) C dX5_drop_50 (by decide) ?_
    refine y_iadd C dX5_drop_51 ?_
    refine y_topE (nI (a + k + 1)) (nI_1 (a + k)) ?_
    refine aR C hB hR3 (113 + 4 * (a + k + 1) + 2) 19 (a + k + 1) 8 (pl_r _ (by omega) _ (by decide)) (lv_r (by omega) (by decide) (by rw [upd_ne (by omega), upd_ne (by omega), mDrR_out (by omega)]; exact inv_r I (by omega))) (by decide) rfl (by decide) rfl (by omega) dX5_drop_52 ?_
    refine y_topE (r (113 + 4 * (a + k + 1) + 2)) (by rw [upd_ne (by omega), upd_ne (by omega), mDrR_out (by omega)]) ?_
    refine wR C hB hR3 (113 + 4 * (a + k) + 2) 19 (a + k) 8 (pl_r _ (by omega) _ (by decide)) (by omega) (by omega) (lv_upd (by omega) (by omega) (by omega)) (by decide) rfl (by decide) rfl (by omega) dX5_drop_53 (fun σ4 hR4 hF4 => ?_)
    refine y_aload_n C dX5_drop_54 rfl ?_
    refine g_X5_opening C hB dX5_drop_55 (by decide +kernel) (by decide +kernel) ?_
    refine y_iload_n C dX5_drop_58 rfl ?_
    refine y_aload_n C dX5_drop_59 rfl ?_
    refine g_X5_opening C hB dX5_drop_60 (by decide +kernel) (by decide +kernel) ?_
    refine y_iload_n C dX5_drop_63 rfl ?_
    refine y_iconst (v := 1) C dX5_drop_64 (by decide) ?_
    refine y_iadd C dX5_drop_65 ?_
    refine y_topE (nI (a + k + 1)) (nI_1 (a + k)) ?_
    refine aR C hB hR4 (113 + 4 * (a + k + 1) + 3) 20 (a + k + 1) 8 (pl_r _ (by omega) _ (by decide)) (lv_r (by omega) (by decide) (by rw [upd_ne (by omega), upd_ne (by omega), upd_ne (by omega), mDrR_out (by omega)]; exact inv_r I (by omega))) (by decide) rfl (by decide) rfl (by omega) dX5_drop_66 ?_
    refine y_topE (r (113 + 4 * (a + k + 1) + 3)) (by rw [upd_ne (by omega), upd_ne (by omega), upd_ne (by omega), mDrR_out (by omega)]) ?_
    refine wR C hB hR4 (113 + 4 * (a + k) + 3) 20 (a + k) 8 (pl_r _ (by omega) _ (by decide)) (by omega) (by omega) (lv_upd (by omega) (by omega) (by omega)) (by decide) rfl (by decide) rfl (by omega) dX5_drop_67 (fun σ5 hR5 hF5 => ?_)
    refine y_iinc C dX5_drop_68 (L' := [_, _, _]) rfl (nI_1 (a + k)) rfl ?_
    refine y_goto (t := 2) C dX5_drop_71 (by decide) ?_
    rw [mDrR_step r (Nat.le_add_right a k)] at hR5
    exact ih (k + 1) (by omega) σ5 hR5 ((((hF1.trans hF2).trans hF3).trans hF4).trans hF5)
set_option maxHeartbeats 4000000 in
set_option maxRecDepth 100000 in
theorem e_X5_drop {B : Nat} (hB : isW B) {r : Rw} (σ : xS) (τ : xT) (hR : Rel σ B r) {R ns nr ne t tl : Nat} (I : Inv r R ns nr ne t tl) (a : Nat) (ha : a < nr) : Xv mX5_drop [.ref (B + 16), .int (nI a)] σ τ (fun σ1 τ1 => Rel σ1 B (mDro r a nr) ∧ Fr (wS B) σ σ1 ∧ τ = τ1) := by
  have hr8 := I.1.2.2.1.2
  have ea : a + (nr - 1 - a) = nr - 1 := by omega
  refine Xv_mk (L := [some (.ref (B + 16)), some (.int (nI a)), none]) (by decide) rfl (Nat.le_of_ble_eq_true rfl) rfl (fun x C => ?_)
  refine y_iload_n C dX5_drop_0 rfl ?_
  refine y_istore_n C dX5_drop_1 (L' := [_, _, _]) (Nat.lt_of_lt_of_le (by decide : (2 : Nat) < 3) (Nat.le_refl _)) rfl ?_
  refine l_X5_drop C hB σ τ hR I a ha (fun σ1 hR1 hF1 => ?_) _ 0 (Nat.zero_add _) σ (by rw [Nat.add_zero, mDrR_0]; exact hR) Fr.rf
  rw [ea] at hR1
  refine y_aload_n C dX5_drop_74 rfl ?_
  refine y_dup C dX5_drop_75 rfl ?_
  refine gR_X5_count C hB hR1 dX5_drop_76 (by decide +kernel) (by decide +kernel) ?_
  refine y_topE (nI nr) (by rw [mDrR_out (by omega)]; exact I.1.2.2.1.1) ?_
  refine y_iconst (v := 1) C dX5_drop_79 (by decide) ?_
  refine y_isub C dX5_drop_80 ?_
  refine y_topE (nI (nr - 1)) (pk_sub (b := 1) (by omega)) ?_
  refine pR_X5_count C hB hR1 (fun i hi => by
      refine Or.inr ?_
      unfold lvP at hi ⊢
      rw [upd_ne (by decide), upd_eq, upd_ne (by decide)] at hi
      rcases hi with z | z | z | z
      · exact Or.inl z
      · exact Or.inr (Or.inl z)
      · refine Or.inr (Or.inr (Or.inl ⟨z.1, z.2.1, ?_⟩))
        rw [mDrR_out (by omega), I.1.2.2.1.1]
        exact nI_lt (Nat.lt_of_lt_of_le ((nI_ltI (by omega) (by omega)).mp z.2.2) (Nat.sub_le _ _)) (by omega)
      · exact Or.inr (Or.inr (Or.inr z))) dX5_drop_81 (by decide +kernel) (by decide +kernel) (fun σ2 hR2 hF2 => ?_)
  exact y_vret C rfl dX5_drop_84 (⟨hR2, hF1.trans hF2, rfl⟩)
set_option maxHeartbeats 4000000 in
set_option maxRecDepth 100000 in
theorem e_X1_moveEventR {B : Nat} (hB : isW B) (σ : xS) (τ : xT) (f t : Nat) (hf : f < 20) (ht : t < 20) : Xv mX1_moveEvent [.ref (B + 21), .int (nI f), .int (nI t)] σ τ (fun σ1 τ1 => (∀ d, 22 ≤ d → d ≤ 25 → σ1 (B + d) = upd (σ (B + d)) t (σ (B + d) f)) ∧ Fr (fun q => B + 22 ≤ q ∧ q ≤ B + 25) σ σ1 ∧ τ = τ1) := by
  refine Xv_mk (L := [some (.ref (B + 21)), some (.int (nI f)), some (.int (nI t))]) (by decide) rfl (Nat.le_of_ble_eq_true rfl) rfl (fun x C => ?_)
  refine y_aload_n C dX1_moveEvent_0 rfl ?_
  refine g_X1_minute C hB dX1_moveEvent_1 (by decide +kernel) (by decide +kernel) ?_
  refine y_iload_n C dX1_moveEvent_4 rfl ?_
  refine y_aload_n C dX1_moveEvent_5 rfl ?_
  refine g_X1_minute C hB dX1_moveEvent_6 (by decide +kernel) (by decide +kernel) ?_
  refine y_iload_n C dX1_moveEvent_9 rfl ?_
  refine y_ia (a := B + 22) (N := 20) C f dX1_moveEvent_10 (by have := isW_le hB; omega) (xSH_W hB 22 (by decide)) (by decide) rfl (by omega) ?_
  refine y_is (a := B + 22) (N := 20) C t dX1_moveEvent_11 (by have := isW_le hB; omega) (xSH_W hB 22 (by decide)) (by decide) rfl (by omega) ?_
  refine y_aload_n C dX1_moveEvent_12 rfl ?_
  refine g_X1_kind C hB dX1_moveEvent_13 (by decide +kernel) (by decide +kernel) ?_
  refine y_iload_n C dX1_moveEvent_16 rfl ?_
  refine y_aload_n C dX1_moveEvent_17 rfl ?_
  refine g_X1_kind C hB dX1_moveEvent_18 (by decide +kernel) (by decide +kernel) ?_
  refine y_iload_n C dX1_moveEvent_21 rfl ?_
  refine y_ia (a := B + 23) (N := 20) C f dX1_moveEvent_22 (by have := isW_le hB; omega) (xSH_W hB 23 (by decide)) (by decide) rfl (by omega) ?_
  refine y_is (a := B + 23) (N := 20) C t dX1_moveEvent_23 (by have := isW_le hB; omega) (xSH_W hB 23 (by decide)) (by decide) rfl (by omega) ?_
  refine y_aload_n C dX1_moveEvent_24 rfl ?_
  refine g_X1_a C hB dX1_moveEvent_25 (by decide +kernel) (by decide +kernel) ?_
  refine y_iload_n C dX1_moveEvent_28 rfl ?_
  refine y_aload_n C dX1_moveEvent_29 rfl ?_
  refine g_X1_a C hB dX1_moveEvent_30 (by decide +kernel) (by decide +kernel) ?_
  refine y_iload_n C dX1_moveEvent_33 rfl ?_
  refine y_ia (a := B + 24) (N := 20) C f dX1_moveEvent_34 (by have := isW_le hB; omega) (xSH_W hB 24 (by decide)) (by decide) rfl (by omega) ?_
  refine y_is (a := B + 24) (N := 20) C t dX1_moveEvent_35 (by have := isW_le hB; omega) (xSH_W hB 24 (by decide)) (by decide) rfl (by omega) ?_
  refine y_aload_n C dX1_moveEvent_36 rfl ?_
  refine g_X1_b C hB dX1_moveEvent_37 (by decide +kernel) (by decide +kernel) ?_
  refine y_iload_n C dX1_moveEvent_40 rfl ?_
  refine y_aload_n C dX1_moveEvent_41 rfl ?_
  refine g_X1_b C hB dX1_moveEvent_42 (by decide +kernel) (by decide +kernel) ?_
  refine y_iload_n C dX1_moveEvent_45 rfl ?_
  refine y_ia (a := B + 25) (N := 20) C f dX1_moveEvent_46 (by have := isW_le hB; omega) (xSH_W hB 25 (by decide)) (by decide) rfl (by omega) ?_
  refine y_is (a := B + 25) (N := 20) C t dX1_moveEvent_47 (by have := isW_le hB; omega) (xSH_W hB 25 (by decide)) (by decide) rfl (by omega) ?_
  exact y_vret C rfl dX1_moveEvent_48 (⟨fun d h1 h2 => by
      have hz : d = 22 ∨ d = 23 ∨ d = 24 ∨ d = 25 := by omega
      rcases hz with rfl | rfl | rfl | rfl <;> simp [ups], fun q hq => by
      have hq : ¬ (B + 22 ≤ q ∧ q ≤ B + 25) := hq
      simp [ups, show ¬ q = B + 22 by omega, show ¬ q = B + 23 by omega, show ¬ q = B + 24 by omega, show ¬ q = B + 25 by omega], rfl⟩)
set_option maxHeartbeats 4000000 in
set_option maxRecDepth 100000 in
theorem l_X1_insert {x : xC} (C : Cx x mX1_insert) {B : Nat} (hB : isW B) {r : Rw} (σ : xS) (τ : xT) (hR : Rel σ B r) {R ns nr ne t tl : Nat} (I : Inv r R ns nr ne t tl) (m kd a b : Int32) (h20 : ne < 20) {Z : State → Prop} (kx : ∀ (σ1 : xS) (p : Nat), p = mPlF r m ne → (∀ d, 22 ≤ d → d ≤ 25 → (∀ i, i < p → σ1 (B + d) i = σ (B + d) i) ∧ (∀ i, p ≤ i → i < ne → σ1 (B + d) (i + 1) = σ (B + d) i)) → Fr (fun q => B + 22 ≤ q ∧ q ≤ B + 25) σ σ1 → Y x 50 [some (.ref (B + 21)), some (.int m), some (.int kd), some (.int a), some (.int b), some (.int (nI p))] [] σ1 τ 0 0 Z) : ∀ n k : Nat, k + n = ne → ∀ σ1 : xS, (∀ d, 22 ≤ d → d ≤ 25 → (∀ i, i < n → σ1 (B + d) i = σ (B + d) i) ∧ (∀ i, n ≤ i → i < ne → σ1 (B + d) (i + 1) = σ (B + d) i)) → Fr (fun q => B + 22 ≤ q ∧ q ≤ B + 25) σ σ1 → mPlF r m n = mPlF r m ne → Y x 16 [some (.ref (B + 21)), some (.int m), some (.int kd), some (.int a), some (.int b), some (.int (nI n))] [] σ1 τ 0 0 Z := by
  intro n
  induction n with
  | zero =>
    intro k hk
    intro σ1 hA hF1 hf
    refine y_iload C dX1_insert_16 rfl ?_
    refine y_if_le (t := 50) C dX1_insert_18 (by decide) (fun c18 => ?_) (fun c18 => absurd (Int32.le_refl _) c18)
    exact kx σ1 0 hf hA hF1
  | succ n ih =>
    intro k hk
    intro σ1 hA hF1 hf
    have e9 : σ (B + 22) n = r (145 + 4 * n + 0) := by
      have h9 := hR.1 (145 + 4 * n + 0) (lv_e (by omega) (by decide) (inv_e I (by omega)))
      rw [pl_e n (by omega) 0 (by decide)] at h9
      exact h9
    refine y_iload C dX1_insert_16 rfl ?_
    refine y_if_le (t := 50) C dX1_insert_18 (by decide) (fun c18 => absurd c18 (nI_ge (a := 0) (b := n + 1) (by omega) (by omega))) (fun c18 => ?_)
    refine y_aload_n C dX1_insert_21 rfl ?_
    refine g_X1_minute C hB dX1_insert_22 (by decide +kernel) (by decide +kernel) ?_
    refine y_iload C dX1_insert_25 rfl ?_
    refine y_iconst (v := 1) C dX1_insert_27 (by decide) ?_
    refine y_isub C dX1_insert_28 ?_
    refine y_topE (nI n) (nI_pred n) ?_
    refine y_ia (a := B + 22) (N := 20) C n dX1_insert_29 (by have := isW_le hB; omega) (xSH_W hB 22 (by decide)) (by decide) rfl (by omega) ?_
    refine y_topE (r (145 + 4 * n + 0)) (((hA 22 (by decide) (by decide)).1 n (Nat.lt_succ_self n)).trans e9) ?_
    refine y_iload_n C dX1_insert_30 rfl ?_
    refine y_icmp_le (t := 50) C dX1_insert_31 (by decide) (fun kc31 => ?_) (fun kc31 => ?_)
    · -- t
      exact kx σ1 (n + 1) (by simp only [mPlF] at hf; rw [if_neg (Int32.not_lt.mpr kc31)] at hf; exact hf) hA hF1
    · -- f
      refine y_aload_n C dX1_insert_34 rfl ?_
      refine y_iload C dX1_insert_35 rfl ?_
      refine y_iconst (v := 1) C dX1_insert_37 (by decide) ?_
      refine y_isub C dX1_insert_38 ?_
      refine y_topE (nI n) (nI_pred n) ?_
      refine y_iload C dX1_insert_39 rfl ?_
      refine y_callVv C (e_X1_moveEventR hB _ _ n (n + 1) (by omega) (by omega)) dX1_insert_41 rfl gX1_insert_X1_moveEvent rfl (is_X1 hB) ⟨rfl, qX1_moveEvent⟩ ⟨rfl, rfl⟩ ⟨Nat.le_of_ble_eq_true rfl, Nat.le_of_ble_eq_true rfl⟩ rfl (Nat.le_of_ble_eq_true rfl) ⟨Nat.zero_le _, Nat.zero_le _⟩ (fun σ2 τ2 hq => ?_)
      obtain ⟨hmv, hF2, rfl⟩ := hq
      refine y_iinc C dX1_insert_44 (L' := [_, _, _, _, _, _]) rfl (pk_m1 n) rfl ?_
      refine y_goto (t := 16) C dX1_insert_47 (by decide) ?_
      refine ih (k + 1) (by omega) σ2 (fun d h1 h2 => ⟨fun i hi => ?_, fun i hi1 hi2 => ?_⟩) (hF1.trans hF2) (by simp only [mPlF] at hf; rw [if_pos (Int32.not_le.mp kc31)] at hf; exact hf)
      · rw [hmv d h1 h2, upd_ne (by omega)]
        exact (hA d h1 h2).1 i (by omega)
      · rw [hmv d h1 h2]
        by_cases e : i = n
        · subst e
          rw [upd_eq]
          exact (hA d h1 h2).1 i (Nat.lt_succ_self i)
        · rw [upd_ne (by omega)]
          exact (hA d h1 h2).2 i (by omega) hi2
set_option maxHeartbeats 4000000 in
set_option maxRecDepth 100000 in
theorem e_X1_insert {B : Nat} (hB : isW B) {r : Rw} (σ : xS) (τ : xT) (hR : Rel σ B r) {R ns nr ne t tl : Nat} (I : Inv r R ns nr ne t tl) (m kd a b : Int32) (h20 : ne < 20) : Xv mX1_insert [.ref (B + 21), .int m, .int kd, .int a, .int b] σ τ (fun σ1 τ1 => Rel σ1 B (mIns r (mPlF r m ne) ne m kd a b) ∧ Fr (wS B) σ σ1 ∧ τ = τ1) := by
  have e12 : σ (B + 21) 0 = nI ne := (hR.lo 12 (by decide) (by decide)).trans I.1.2.2.2.1.1
  have hple := mPlF_le r m ne
  refine Xv_mk (L := [some (.ref (B + 21)), some (.int m), some (.int kd), some (.int a), some (.int b), none]) (by decide) rfl (Nat.le_of_ble_eq_true rfl) rfl (fun x C => ?_)
  refine y_aload_n C dX1_insert_0 rfl ?_
  refine g_X1_count C hB dX1_insert_1 (by decide +kernel) (by decide +kernel) ?_
  refine y_topE (nI ne) e12 ?_
  refine y_bipush (v := 20) C dX1_insert_4 (by decide) ?_
  refine y_icmp_lt (t := 10) C dX1_insert_6 (by decide) (fun c6 => ?_) (fun c6 => absurd (nI_lt (a := ne) (b := 20) h20 (by decide)) c6)
  refine y_aload_n C dX1_insert_10 rfl ?_
  refine g_X1_count C hB dX1_insert_11 (by decide +kernel) (by decide +kernel) ?_
  refine y_topE (nI ne) e12 ?_
  refine y_istore C dX1_insert_14 (L' := [_, _, _, _, _, _]) (Nat.lt_of_lt_of_le (by decide : (5 : Nat) < 6) (Nat.le_refl _)) rfl ?_
  refine l_X1_insert C hB σ τ hR I m kd a b h20 (fun σ1 p hp hA hF1 => ?_) ne 0 (Nat.zero_add _) σ (fun d _ _ => ⟨fun _ _ => rfl, fun i h1 h2 => absurd h2 (Nat.not_lt.mpr h1)⟩) Fr.rf rfl
  subst hp
  refine y_aload_n C dX1_insert_50 rfl ?_
  refine g_X1_minute C hB dX1_insert_51 (by decide +kernel) (by decide +kernel) ?_
  refine y_iload C dX1_insert_54 rfl ?_
  refine y_iload_n C dX1_insert_56 rfl ?_
  refine y_is (a := B + 22) (N := 20) C (mPlF r m ne) dX1_insert_57 (by have := isW_le hB; omega) (xSH_W hB 22 (by decide)) (by decide) rfl (by omega) ?_
  refine y_aload_n C dX1_insert_58 rfl ?_
  refine g_X1_kind C hB dX1_insert_59 (by decide +kernel) (by decide +kernel) ?_
  refine y_iload C dX1_insert_62 rfl ?_
  refine y_iload_n C dX1_insert_64 rfl ?_
  refine y_is (a := B + 23) (N := 20) C (mPlF r m ne) dX1_insert_65 (by have := isW_le hB; omega) (xSH_W hB 23 (by decide)) (by decide) rfl (by omega) ?_
  refine y_aload_n C dX1_insert_66 rfl ?_
  refine g_X1_a C hB dX1_insert_67 (by decide +kernel) (by decide +kernel) ?_
  refine y_iload C dX1_insert_70 rfl ?_
  refine y_iload_n C dX1_insert_72 rfl ?_
  refine y_is (a := B + 24) (N := 20) C (mPlF r m ne) dX1_insert_73 (by have := isW_le hB; omega) (xSH_W hB 24 (by decide)) (by decide) rfl (by omega) ?_
  refine y_aload_n C dX1_insert_74 rfl ?_
  refine g_X1_b C hB dX1_insert_75 (by decide +kernel) (by decide +kernel) ?_
  refine y_iload C dX1_insert_78 rfl ?_
  refine y_iload C dX1_insert_80 rfl ?_
  refine y_is (a := B + 25) (N := 20) C (mPlF r m ne) dX1_insert_82 (by have := isW_le hB; omega) (xSH_W hB 25 (by decide)) (by decide) rfl (by omega) ?_
  refine y_aload_n C dX1_insert_83 rfl ?_
  refine y_dup C dX1_insert_84 rfl ?_
  refine g_X1_count C hB dX1_insert_85 (by decide +kernel) (by decide +kernel) ?_
  refine y_iconst (v := 1) C dX1_insert_88 (by decide) ?_
  refine y_iadd C dX1_insert_89 ?_
  refine p_X1_count C hB dX1_insert_90 (by decide +kernel) (by decide +kernel) ?_
  exact y_vret C rfl dX1_insert_93 (⟨hR.ins h20 hple I.1.2.2.2.1.1 (fun q hq => by
      have hq : ¬ (B + 21 ≤ q ∧ q ≤ B + 25) := hq
      have h9 := hF1 q (fun z => hq ⟨by have := z.1; omega, z.2⟩)
      simp [ups, show ¬ q = B + 21 by omega, show ¬ q = B + 22 by omega, show ¬ q = B + 23 by omega, show ¬ q = B + 24 by omega, show ¬ q = B + 25 by omega, h9]) (by
      have h9 := hF1 (B + 21) (by omega)
      simp [ups, upd, h9, e12, nI_1]) (fun d h1 h2 i hi => by
      have h9 := (hA d h1 h2).1 i hi
      have hne : ¬ i = mPlF r m ne := by omega
      have hz : d = 22 ∨ d = 23 ∨ d = 24 ∨ d = 25 := by omega
      rcases hz with rfl | rfl | rfl | rfl <;> simp [ups, upd, hne, h9]) (fun d h1 h2 i hi1 hi2 => by
      have h9 := (hA d h1 h2).2 i hi1 hi2
      have hne : ¬ i + 1 = mPlF r m ne := by omega
      have hz : d = 22 ∨ d = 23 ∨ d = 24 ∨ d = 25 := by omega
      rcases hz with rfl | rfl | rfl | rfl <;> simp [ups, upd, hne, h9]) (by simp [ups, upd]) (by simp [ups, upd]) (by simp [ups, upd]) (by simp [ups, upd]), fun q hq => by
      have hq : ¬ (B ≤ q ∧ q < B + 27) := hq
      have h9 := hF1 q (fun z => hq ⟨by have := z.1; omega, by have := z.2; omega⟩)
      simp [ups, show ¬ q = B + 21 by omega, show ¬ q = B + 22 by omega, show ¬ q = B + 23 by omega, show ¬ q = B + 24 by omega, show ¬ q = B + 25 by omega, h9], rfl⟩)
set_option maxHeartbeats 4000000 in
set_option maxRecDepth 100000 in
theorem e_X7_putSetting {B : Nat} (hB : isW B) {r : Rw} (σ : xS) (τ : xT) (hR : Rel σ B r) (w : Nat) (hw : w < 6) (v : Int32) (hv3 : w = 3 → v = 0 ∨ v = 1) : Xv mX7_putSetting [.ref B, .int (nI w), .int v] σ τ (fun σ1 τ1 => Rel σ1 B (upd r w v) ∧ Fr (wS B) σ σ1 ∧ τ = τ1) := by
  refine Xv_mk (L := [some (.ref B), some (.int (nI w)), some (.int v)]) (by decide) rfl (Nat.le_of_ble_eq_true rfl) rfl (fun x C => ?_)
  refine y_iload_n C dX7_putSetting_0 rfl ?_
  by_cases w1_0 : nI w = 0
  ·
    refine y_tableIn (t := 36) C dX7_putSetting_1 (by rw [w1_0]; decide) (by rw [w1_0]; decide) (by first | (rw [w1_0]; done) | (rw [w1_0]; rfl)) (by decide) ?_
    obtain rfl : w = 0 := (nI_eq (a := w) (b := 0) (by omega) (by decide)).mp w1_0
    refine y_aload_n C dX7_putSetting_36 rfl ?_
    refine g_X7_hearth C hB dX7_putSetting_37 (by decide +kernel) (by decide +kernel) ?_
    refine y_iload_n C dX7_putSetting_40 rfl ?_
    refine pR_X2_wind C hB hR dX7_putSetting_41 (by decide +kernel) (by decide +kernel) (fun σ9 hR9 hF9 => ?_)
    refine y_goto (t := 108) C dX7_putSetting_44 (by decide) ?_
    exact y_vret C rfl dX7_putSetting_108 (⟨by first | exact hR9 | (obtain rfl : v = 0 := (hv3 rfl).resolve_right kc75; exact hR9) | (rw [kc75]; exact hR9), hF9, rfl⟩)
  by_cases w1_1 : nI w = 1
  ·
    refine y_tableIn (t := 47) C dX7_putSetting_1 (by rw [w1_1]; decide) (by rw [w1_1]; decide) (by first | (rw [w1_1]; done) | (rw [w1_1]; rfl)) (by decide) ?_
    obtain rfl : w = 1 := (nI_eq (a := w) (b := 1) (by omega) (by decide)).mp w1_1
    refine y_aload_n C dX7_putSetting_47 rfl ?_
    refine g_X7_alarms C hB dX7_putSetting_48 (by decide +kernel) (by decide +kernel) ?_
    refine y_iload_n C dX7_putSetting_51 rfl ?_
    refine pR_X0_quorum C hB hR dX7_putSetting_52 (by decide +kernel) (by decide +kernel) (fun σ9 hR9 hF9 => ?_)
    refine y_goto (t := 108) C dX7_putSetting_55 (by decide) ?_
    exact y_vret C rfl dX7_putSetting_108 (⟨by first | exact hR9 | (obtain rfl : v = 0 := (hv3 rfl).resolve_right kc75; exact hR9) | (rw [kc75]; exact hR9), hF9, rfl⟩)
  by_cases w1_2 : nI w = 2
  ·
    refine y_tableIn (t := 58) C dX7_putSetting_1 (by rw [w1_2]; decide) (by rw [w1_2]; decide) (by first | (rw [w1_2]; done) | (rw [w1_2]; rfl)) (by decide) ?_
    obtain rfl : w = 2 := (nI_eq (a := w) (b := 2) (by omega) (by decide)).mp w1_2
    refine y_aload_n C dX7_putSetting_58 rfl ?_
    refine g_X7_alarms C hB dX7_putSetting_59 (by decide +kernel) (by decide +kernel) ?_
    refine y_iload_n C dX7_putSetting_62 rfl ?_
    refine pR_X0_hold C hB hR dX7_putSetting_63 (by decide +kernel) (by decide +kernel) (fun σ9 hR9 hF9 => ?_)
    refine y_goto (t := 108) C dX7_putSetting_66 (by decide) ?_
    exact y_vret C rfl dX7_putSetting_108 (⟨by first | exact hR9 | (obtain rfl : v = 0 := (hv3 rfl).resolve_right kc75; exact hR9) | (rw [kc75]; exact hR9), hF9, rfl⟩)
  by_cases w1_3 : nI w = 3
  ·
    refine y_tableIn (t := 69) C dX7_putSetting_1 (by rw [w1_3]; decide) (by rw [w1_3]; decide) (by first | (rw [w1_3]; done) | (rw [w1_3]; rfl)) (by decide) ?_
    obtain rfl : w = 3 := (nI_eq (a := w) (b := 3) (by omega) (by decide)).mp w1_3
    refine y_aload_n C dX7_putSetting_69 rfl ?_
    refine g_X7_hearth C hB dX7_putSetting_70 (by decide +kernel) (by decide +kernel) ?_
    refine y_iload_n C dX7_putSetting_73 rfl ?_
    refine y_iconst (v := 1) C dX7_putSetting_74 (by decide) ?_
    refine y_icmp_ne (t := 82) C dX7_putSetting_75 (by decide) (fun kc75 => ?_) (fun kc75 => ?_)
    · -- t
      refine y_iconst (v := 0) C dX7_putSetting_82 (by decide) ?_
      refine pR_X2_jammed C hB hR (by first | exact Or.inl rfl | exact Or.inr rfl) dX7_putSetting_83 (by decide +kernel) (by decide +kernel) (fun σ9 hR9 hF9 => ?_)
      refine y_goto (t := 108) C dX7_putSetting_86 (by decide) ?_
      exact y_vret C rfl dX7_putSetting_108 (⟨by first | exact hR9 | (obtain rfl : v = 0 := (hv3 rfl).resolve_right kc75; exact hR9) | (rw [kc75]; exact hR9), hF9, rfl⟩)
    · -- f
      refine y_iconst (v := 1) C dX7_putSetting_78 (by decide) ?_
      refine y_goto (t := 83) C dX7_putSetting_79 (by decide) ?_
      refine pR_X2_jammed C hB hR (by first | exact Or.inl rfl | exact Or.inr rfl) dX7_putSetting_83 (by decide +kernel) (by decide +kernel) (fun σ9 hR9 hF9 => ?_)
      refine y_goto (t := 108) C dX7_putSetting_86 (by decide) ?_
      exact y_vret C rfl dX7_putSetting_108 (⟨by first | exact hR9 | (obtain rfl : v = 0 := (hv3 rfl).resolve_right kc75; exact hR9) | (rw [kc75]; exact hR9), hF9, rfl⟩)
  by_cases w1_4 : nI w = 4
  ·
    refine y_tableIn (t := 89) C dX7_putSetting_1 (by rw [w1_4]; decide) (by rw [w1_4]; decide) (by first | (rw [w1_4]; done) | (rw [w1_4]; rfl)) (by decide) ?_
    obtain rfl : w = 4 := (nI_eq (a := w) (b := 4) (by omega) (by decide)).mp w1_4
    refine y_aload_n C dX7_putSetting_89 rfl ?_
    refine g_X7_hearth C hB dX7_putSetting_90 (by decide +kernel) (by decide +kernel) ?_
    refine y_iload_n C dX7_putSetting_93 rfl ?_
    refine pR_X2_opening C hB hR dX7_putSetting_94 (by decide +kernel) (by decide +kernel) (fun σ9 hR9 hF9 => ?_)
    refine y_goto (t := 108) C dX7_putSetting_97 (by decide) ?_
    exact y_vret C rfl dX7_putSetting_108 (⟨by first | exact hR9 | (obtain rfl : v = 0 := (hv3 rfl).resolve_right kc75; exact hR9) | (rw [kc75]; exact hR9), hF9, rfl⟩)
  refine y_tableOut (t := 100) C dX7_putSetting_1 (by have q0 : ¬ (nI w).toInt = 0 := lv_neT w1_0 (by decide); have q1 : ¬ (nI w).toInt = 1 := lv_neT w1_1 (by decide); have q2 : ¬ (nI w).toInt = 2 := lv_neT w1_2 (by decide); have q3 : ¬ (nI w).toInt = 3 := lv_neT w1_3 (by decide); have q4 : ¬ (nI w).toInt = 4 := lv_neT w1_4 (by decide); omega) (by decide) ?_
  obtain rfl : w = 5 := by
    have h0 : ¬ w = 0 := fun q => w1_0 (by rw [q]; rfl)
    have h1 : ¬ w = 1 := fun q => w1_1 (by rw [q]; rfl)
    have h2 : ¬ w = 2 := fun q => w1_2 (by rw [q]; rfl)
    have h3 : ¬ w = 3 := fun q => w1_3 (by rw [q]; rfl)
    have h4 : ¬ w = 4 := fun q => w1_4 (by rw [q]; rfl)
    omega
  refine y_aload_n C dX7_putSetting_100 rfl ?_
  refine g_X7_hearth C hB dX7_putSetting_101 (by decide +kernel) (by decide +kernel) ?_
  refine y_iload_n C dX7_putSetting_104 rfl ?_
  refine pR_X2_warmth C hB hR dX7_putSetting_105 (by decide +kernel) (by decide +kernel) (fun σ9 hR9 hF9 => ?_)
  exact y_vret C rfl dX7_putSetting_108 (⟨by first | exact hR9 | (obtain rfl : v = 0 := (hv3 rfl).resolve_right kc75; exact hR9) | (rw [kc75]; exact hR9), hF9, rfl⟩)
set_option maxHeartbeats 4000000 in
set_option maxRecDepth 100000 in
theorem e_X5_clearR {B : Nat} (hB : isW B) {r : Rw} (σ : xS) (τ : xT) (hR : Rel σ B r) : Xv mX5_clear [.ref (B + 16)] σ τ (fun σ1 τ1 => Rel σ1 B (upd r 11 0) ∧ Fr (wS B) σ σ1 ∧ τ = τ1) := by
  refine Xv_mk (L := [some (.ref (B + 16))]) (by decide) rfl (Nat.le_of_ble_eq_true rfl) rfl (fun x C => ?_)
  refine y_aload_n C dX5_clear_0 rfl ?_
  refine y_iconst (v := 0) C dX5_clear_1 (by decide) ?_
  refine pR_X5_count C hB hR lv_clr dX5_clear_2 (by decide +kernel) (by decide +kernel) (fun σ1 hR1 hF1 => ?_)
  exact y_vret C rfl dX5_clear_5 (⟨hR1, hF1, rfl⟩)
