set_option maxHeartbeats 4000000 in
set_option maxRecDepth 100000 in
theorem l_X7_countAlarms {x : xC} (C : Cx x mX7_countAlarms) {B : Nat} (hB : isW B) {r : Rw} (σ : xS) (τ : xT) (hR : Rel σ B r) {R ns nr ne t tl : Nat} (I : Inv r R ns nr ne t tl) {Z : State → Prop} (kx : ∀ (σ1 : xS) (v4 v5 : Option Value), Rel σ1 B (mW2 r R) → Fr (wS B) σ σ1 → Y x 84 [some (.ref B), some (.int (mBgn r R)), some (.int (mSom r R)), some (.int (nI R)), v4, v5] [] σ1 τ 0 0 Z) : ∀ n k : Nat, k + n = R → ∀ (σ1 : xS) (v4 v5 : Option Value), Rel σ1 B (mW2 r k) → Fr (wS B) σ σ1 → Y x 6 [some (.ref B), some (.int (mBgn r k)), some (.int (mSom r k)), some (.int (nI k)), v4, v5] [] σ1 τ 0 0 Z := by
  intro n
  induction n with
  | zero =>
    intro k hk
    intro σ1 v4 v5 hR1 hF1
    have hR4 := I.1.1.2.2
    have IW := I.w2 k (by omega)
    refine y_iload_n C dX7_countAlarms_6 rfl ?_
    refine y_aload_n C dX7_countAlarms_7 rfl ?_
    refine g_X7_house C hB dX7_countAlarms_8 (by decide +kernel) (by decide +kernel) ?_
    refine gR_X3_rooms C hB hR1 dX7_countAlarms_11 (by decide +kernel) (by decide +kernel) ?_
    refine y_topE (nI R) IW.1.1.1 ?_
    refine y_icmp_ge (t := 84) C dX7_countAlarms_14 (by decide) (fun c14 => ?_) (fun c14 => absurd (by rw [show k = R by omega]; exact Int32.le_refl _) c14)
    obtain rfl : k = R := by omega
    exact kx σ1 v4 v5 hR1 hF1
  | succ n ih =>
    intro k hk
    intro σ1 v4 v5 hR1 hF1
    have hR4 := I.1.1.2.2
    have IW := I.w2 k (by omega)
    refine y_iload_n C dX7_countAlarms_6 rfl ?_
    refine y_aload_n C dX7_countAlarms_7 rfl ?_
    refine g_X7_house C hB dX7_countAlarms_8 (by decide +kernel) (by decide +kernel) ?_
    refine gR_X3_rooms C hB hR1 dX7_countAlarms_11 (by decide +kernel) (by decide +kernel) ?_
    refine y_topE (nI R) IW.1.1.1 ?_
    refine y_icmp_ge (t := 84) C dX7_countAlarms_14 (by decide) (fun c14 => absurd c14 (nI_ge (by omega) (by have := I.1.1.2.2; omega))) (fun c14 => ?_)
    refine y_aload_n C dX7_countAlarms_17 rfl ?_
    refine g_X7_alarms C hB dX7_countAlarms_18 (by decide +kernel) (by decide +kernel) ?_
    refine y_iload_n C dX7_countAlarms_21 rfl ?_
    refine y_callVi C (e_X0_soundsIn hB _ _ hR1 k (by omega)) dX7_countAlarms_22 rfl gX7_countAlarms_X0_soundsIn rfl (is_X0 hB) ⟨rfl, qX0_soundsIn⟩ ⟨rfl, rfl⟩ ⟨Nat.le_of_ble_eq_true rfl, Nat.le_of_ble_eq_true rfl⟩ rfl (Nat.le_of_ble_eq_true rfl) ⟨Nat.zero_le _, Nat.zero_le _⟩ (fun v1 σ1 τ1 hq => ?_)
    obtain ⟨rfl, rfl, rfl⟩ := hq
    refine y_istore C dX7_countAlarms_25 (L' := [_, _, _, _, _, _]) (Nat.lt_of_lt_of_le (by decide : (4 : Nat) < 6) (Nat.le_refl _)) rfl ?_
    refine y_aload_n C dX7_countAlarms_27 rfl ?_
    refine y_iload_n C dX7_countAlarms_28 rfl ?_
    refine y_callVi C (e_X7_isAgreedOn hB _ _ hR1 IW _) dX7_countAlarms_29 rfl gX7_countAlarms_X7_isAgreedOn rfl (is_X7 hB) ⟨rfl, qX7_isAgreedOn⟩ ⟨rfl, rfl⟩ ⟨Nat.le_of_ble_eq_true rfl, Nat.le_of_ble_eq_true rfl⟩ rfl (Nat.le_of_ble_eq_true rfl) ⟨Nat.zero_le _, Nat.zero_le _⟩ (fun v1 σ1 τ1 hq => ?_)
    obtain ⟨rfl, rfl, rfl⟩ := hq
    refine y_istore C dX7_countAlarms_32 (L' := [_, _, _, _, _, _]) (Nat.lt_of_lt_of_le (by decide : (5 : Nat) < 6) (Nat.le_refl _)) rfl ?_
    refine y_aload_n C dX7_countAlarms_34 rfl ?_
    refine g_X7_alarms C hB dX7_countAlarms_35 (by decide +kernel) (by decide +kernel) ?_
    refine y_iload_n C dX7_countAlarms_38 rfl ?_
    refine y_iload C dX7_countAlarms_39 rfl ?_
    refine y_callVv C (e_X0_countMinute hB _ _ hR1 IW k (by omega) _) dX7_countAlarms_41 rfl gX7_countAlarms_X0_countMinute rfl (is_X0 hB) ⟨rfl, qX0_countMinute⟩ ⟨rfl, rfl⟩ ⟨Nat.le_of_ble_eq_true rfl, Nat.le_of_ble_eq_true rfl⟩ rfl (Nat.le_of_ble_eq_true rfl) ⟨Nat.zero_le _, Nat.zero_le _⟩ (fun σ2 τ2 hq => ?_)
    obtain ⟨hR2, hF2, rfl⟩ := hq
    have hR2 : Rel σ2 B (mW2 r (k + 1)) := hR2
    refine y_aload_n C dX7_countAlarms_44 rfl ?_
    refine g_X7_alarms C hB dX7_countAlarms_45 (by decide +kernel) (by decide +kernel) ?_
    refine y_iload_n C dX7_countAlarms_48 rfl ?_
    refine y_callVi C (e_X0_soundsIn hB _ _ hR2 k (by omega)) dX7_countAlarms_49 rfl gX7_countAlarms_X0_soundsIn rfl (is_X0 hB) ⟨rfl, qX0_soundsIn⟩ ⟨rfl, rfl⟩ ⟨Nat.le_of_ble_eq_true rfl, Nat.le_of_ble_eq_true rfl⟩ rfl (Nat.le_of_ble_eq_true rfl) ⟨Nat.zero_le _, Nat.zero_le _⟩ (fun v1 σ1 τ1 hq => ?_)
    obtain ⟨rfl, rfl, rfl⟩ := hq
    refine y_if_eq (t := 63) C dX7_countAlarms_52 (by decide) (fun kc52 => ?_) (fun kc52 => ?_)
    · -- t
      refine y_iload_n C dX7_countAlarms_63 rfl ?_
      refine y_if_ne (t := 72) C dX7_countAlarms_64 (by decide) (fun kc64 => ?_) (fun kc64 => ?_)
      · -- t
        refine y_iconst (v := 1) C dX7_countAlarms_72 (by decide) ?_
        refine y_goto (t := 77) C dX7_countAlarms_73 (by decide) ?_
        refine y_istore_n C dX7_countAlarms_77 (L' := [_, _, _, _, _, _]) (Nat.lt_of_lt_of_le (by decide : (2 : Nat) < 6) (Nat.le_refl _)) rfl ?_
        refine y_iinc C dX7_countAlarms_78 (L' := [_, _, _, _, _, _]) rfl (nI_1 k) rfl ?_
        refine y_goto (t := 6) C dX7_countAlarms_81 (by decide) ?_
        have h9 := ih (k + 1) (by omega) σ2 (some (.int (mAlaI (mW2 r k) k))) (some (.int (mAgrI (mW2 r k) (nI k)))) hR2 (hF1.trans hF2)
        first
          | rw [mBgn_a kc52 kc57] at h9
          | rw [mBgn_b kc52] at h9
          | rw [mBgn_c kc57] at h9
        first
          | rw [mSom_a kc64] at h9
          | rw [mSom_b kc64 kc69] at h9
          | rw [mSom_c kc64 kc69] at h9
        exact h9
      · -- f
        refine y_iload C dX7_countAlarms_67 rfl ?_
        refine y_if_eq (t := 76) C dX7_countAlarms_69 (by decide) (fun kc69 => ?_) (fun kc69 => ?_)
        · -- t
          refine y_iconst (v := 0) C dX7_countAlarms_76 (by decide) ?_
          refine y_istore_n C dX7_countAlarms_77 (L' := [_, _, _, _, _, _]) (Nat.lt_of_lt_of_le (by decide : (2 : Nat) < 6) (Nat.le_refl _)) rfl ?_
          refine y_iinc C dX7_countAlarms_78 (L' := [_, _, _, _, _, _]) rfl (nI_1 k) rfl ?_
          refine y_goto (t := 6) C dX7_countAlarms_81 (by decide) ?_
          have h9 := ih (k + 1) (by omega) σ2 (some (.int (mAlaI (mW2 r k) k))) (some (.int (mAgrI (mW2 r k) (nI k)))) hR2 (hF1.trans hF2)
          first
            | rw [mBgn_a kc52 kc57] at h9
            | rw [mBgn_b kc52] at h9
            | rw [mBgn_c kc57] at h9
          first
            | rw [mSom_a kc64] at h9
            | rw [mSom_b kc64 kc69] at h9
            | rw [mSom_c kc64 kc69] at h9
          exact h9
        · -- f
          refine y_iconst (v := 1) C dX7_countAlarms_72 (by decide) ?_
          refine y_goto (t := 77) C dX7_countAlarms_73 (by decide) ?_
          refine y_istore_n C dX7_countAlarms_77 (L' := [_, _, _, _, _, _]) (Nat.lt_of_lt_of_le (by decide : (2 : Nat) < 6) (Nat.le_refl _)) rfl ?_
          refine y_iinc C dX7_countAlarms_78 (L' := [_, _, _, _, _, _]) rfl (nI_1 k) rfl ?_
          refine y_goto (t := 6) C dX7_countAlarms_81 (by decide) ?_
          have h9 := ih (k + 1) (by omega) σ2 (some (.int (mAlaI (mW2 r k) k))) (some (.int (mAgrI (mW2 r k) (nI k)))) hR2 (hF1.trans hF2)
          first
            | rw [mBgn_a kc52 kc57] at h9
            | rw [mBgn_b kc52] at h9
            | rw [mBgn_c kc57] at h9
          first
            | rw [mSom_a kc64] at h9
            | rw [mSom_b kc64 kc69] at h9
            | rw [mSom_c kc64 kc69] at h9
          exact h9
    · -- f
      refine y_iload C dX7_countAlarms_55 rfl ?_
      refine y_if_ne (t := 63) C dX7_countAlarms_57 (by decide) (fun kc57 => ?_) (fun kc57 => ?_)
      · -- t
        refine y_iload_n C dX7_countAlarms_63 rfl ?_
        refine y_if_ne (t := 72) C dX7_countAlarms_64 (by decide) (fun kc64 => ?_) (fun kc64 => ?_)
        · -- t
          refine y_iconst (v := 1) C dX7_countAlarms_72 (by decide) ?_
          refine y_goto (t := 77) C dX7_countAlarms_73 (by decide) ?_
          refine y_istore_n C dX7_countAlarms_77 (L' := [_, _, _, _, _, _]) (Nat.lt_of_lt_of_le (by decide : (2 : Nat) < 6) (Nat.le_refl _)) rfl ?_
          refine y_iinc C dX7_countAlarms_78 (L' := [_, _, _, _, _, _]) rfl (nI_1 k) rfl ?_
          refine y_goto (t := 6) C dX7_countAlarms_81 (by decide) ?_
          have h9 := ih (k + 1) (by omega) σ2 (some (.int (mAlaI (mW2 r k) k))) (some (.int (mAgrI (mW2 r k) (nI k)))) hR2 (hF1.trans hF2)
          first
            | rw [mBgn_a kc52 kc57] at h9
            | rw [mBgn_b kc52] at h9
            | rw [mBgn_c kc57] at h9
          first
            | rw [mSom_a kc64] at h9
            | rw [mSom_b kc64 kc69] at h9
            | rw [mSom_c kc64 kc69] at h9
          exact h9
        · -- f
          refine y_iload C dX7_countAlarms_67 rfl ?_
          refine y_if_eq (t := 76) C dX7_countAlarms_69 (by decide) (fun kc69 => ?_) (fun kc69 => ?_)
          · -- t
            refine y_iconst (v := 0) C dX7_countAlarms_76 (by decide) ?_
            refine y_istore_n C dX7_countAlarms_77 (L' := [_, _, _, _, _, _]) (Nat.lt_of_lt_of_le (by decide : (2 : Nat) < 6) (Nat.le_refl _)) rfl ?_
            refine y_iinc C dX7_countAlarms_78 (L' := [_, _, _, _, _, _]) rfl (nI_1 k) rfl ?_
            refine y_goto (t := 6) C dX7_countAlarms_81 (by decide) ?_
            have h9 := ih (k + 1) (by omega) σ2 (some (.int (mAlaI (mW2 r k) k))) (some (.int (mAgrI (mW2 r k) (nI k)))) hR2 (hF1.trans hF2)
            first
              | rw [mBgn_a kc52 kc57] at h9
              | rw [mBgn_b kc52] at h9
              | rw [mBgn_c kc57] at h9
            first
              | rw [mSom_a kc64] at h9
              | rw [mSom_b kc64 kc69] at h9
              | rw [mSom_c kc64 kc69] at h9
            exact h9
          · -- f
            refine y_iconst (v := 1) C dX7_countAlarms_72 (by decide) ?_
            refine y_goto (t := 77) C dX7_countAlarms_73 (by decide) ?_
            refine y_istore_n C dX7_countAlarms_77 (L' := [_, _, _, _, _, _]) (Nat.lt_of_lt_of_le (by decide : (2 : Nat) < 6) (Nat.le_refl _)) rfl ?_
            refine y_iinc C dX7_countAlarms_78 (L' := [_, _, _, _, _, _]) rfl (nI_1 k) rfl ?_
            refine y_goto (t := 6) C dX7_countAlarms_81 (by decide) ?_
            have h9 := ih (k + 1) (by omega) σ2 (some (.int (mAlaI (mW2 r k) k))) (some (.int (mAgrI (mW2 r k) (nI k)))) hR2 (hF1.trans hF2)
            first
              | rw [mBgn_a kc52 kc57] at h9
              | rw [mBgn_b kc52] at h9
              | rw [mBgn_c kc57] at h9
            first
              | rw [mSom_a kc64] at h9
              | rw [mSom_b kc64 kc69] at h9
              | rw [mSom_c kc64 kc69] at h9
            exact h9
      · -- f
        refine y_iinc C dX7_countAlarms_60 (L' := [_, _, _, _, _, _]) rfl rfl rfl ?_
        refine y_iload_n C dX7_countAlarms_63 rfl ?_
        refine y_if_ne (t := 72) C dX7_countAlarms_64 (by decide) (fun kc64 => ?_) (fun kc64 => ?_)
        · -- t
          refine y_iconst (v := 1) C dX7_countAlarms_72 (by decide) ?_
          refine y_goto (t := 77) C dX7_countAlarms_73 (by decide) ?_
          refine y_istore_n C dX7_countAlarms_77 (L' := [_, _, _, _, _, _]) (Nat.lt_of_lt_of_le (by decide : (2 : Nat) < 6) (Nat.le_refl _)) rfl ?_
          refine y_iinc C dX7_countAlarms_78 (L' := [_, _, _, _, _, _]) rfl (nI_1 k) rfl ?_
          refine y_goto (t := 6) C dX7_countAlarms_81 (by decide) ?_
          have h9 := ih (k + 1) (by omega) σ2 (some (.int (mAlaI (mW2 r k) k))) (some (.int (mAgrI (mW2 r k) (nI k)))) hR2 (hF1.trans hF2)
          first
            | rw [mBgn_a kc52 kc57] at h9
            | rw [mBgn_b kc52] at h9
            | rw [mBgn_c kc57] at h9
          first
            | rw [mSom_a kc64] at h9
            | rw [mSom_b kc64 kc69] at h9
            | rw [mSom_c kc64 kc69] at h9
          exact h9
        · -- f
          refine y_iload C dX7_countAlarms_67 rfl ?_
          refine y_if_eq (t := 76) C dX7_countAlarms_69 (by decide) (fun kc69 => ?_) (fun kc69 => ?_)
          · -- t
            refine y_iconst (v := 0) C dX7_countAlarms_76 (by decide) ?_
            refine y_istore_n C dX7_countAlarms_77 (L' := [_, _, _, _, _, _]) (Nat.lt_of_lt_of_le (by decide : (2 : Nat) < 6) (Nat.le_refl _)) rfl ?_
            refine y_iinc C dX7_countAlarms_78 (L' := [_, _, _, _, _, _]) rfl (nI_1 k) rfl ?_
            refine y_goto (t := 6) C dX7_countAlarms_81 (by decide) ?_
            have h9 := ih (k + 1) (by omega) σ2 (some (.int (mAlaI (mW2 r k) k))) (some (.int (mAgrI (mW2 r k) (nI k)))) hR2 (hF1.trans hF2)
            first
              | rw [mBgn_a kc52 kc57] at h9
              | rw [mBgn_b kc52] at h9
              | rw [mBgn_c kc57] at h9
            first
              | rw [mSom_a kc64] at h9
              | rw [mSom_b kc64 kc69] at h9
              | rw [mSom_c kc64 kc69] at h9
            exact h9
          · -- f
            refine y_iconst (v := 1) C dX7_countAlarms_72 (by decide) ?_
            refine y_goto (t := 77) C dX7_countAlarms_73 (by decide) ?_
            refine y_istore_n C dX7_countAlarms_77 (L' := [_, _, _, _, _, _]) (Nat.lt_of_lt_of_le (by decide : (2 : Nat) < 6) (Nat.le_refl _)) rfl ?_
            refine y_iinc C dX7_countAlarms_78 (L' := [_, _, _, _, _, _]) rfl (nI_1 k) rfl ?_
            refine y_goto (t := 6) C dX7_countAlarms_81 (by decide) ?_
            have h9 := ih (k + 1) (by omega) σ2 (some (.int (mAlaI (mW2 r k) k))) (some (.int (mAgrI (mW2 r k) (nI k)))) hR2 (hF1.trans hF2)
            first
              | rw [mBgn_a kc52 kc57] at h9
              | rw [mBgn_b kc52] at h9
              | rw [mBgn_c kc57] at h9
            first
              | rw [mSom_a kc64] at h9
              | rw [mSom_b kc64 kc69] at h9
              | rw [mSom_c kc64 kc69] at h9
            exact h9
set_option maxHeartbeats 4000000 in
set_option maxRecDepth 100000 in
theorem e_X7_countAlarms {B : Nat} (hB : isW B) {r : Rw} (σ : xS) (τ : xT) (hR : Rel σ B r) {R ns nr ne t tl : Nat} (I : Inv r R ns nr ne t tl) : Xi mX7_countAlarms [.ref B] σ τ (fun v σ1 τ1 => v = mBgn r R ∧ Rel σ1 B (mCA r R) ∧ Fr (wS B) σ σ1 ∧ τ = τ1) := by
  refine Xi_mk (L := [some (.ref B), none, none, none, none, none]) (by decide) rfl (Nat.le_of_ble_eq_true rfl) rfl (fun x C => ?_)
  refine y_iconst (v := 0) C dX7_countAlarms_0 (by decide) ?_
  refine y_istore_n C dX7_countAlarms_1 (L' := [_, _, _, _, _, _]) (Nat.lt_of_lt_of_le (by decide : (1 : Nat) < 6) (Nat.le_refl _)) rfl ?_
  refine y_iconst (v := 0) C dX7_countAlarms_2 (by decide) ?_
  refine y_istore_n C dX7_countAlarms_3 (L' := [_, _, _, _, _, _]) (Nat.lt_of_lt_of_le (by decide : (2 : Nat) < 6) (Nat.le_refl _)) rfl ?_
  refine y_iconst (v := 0) C dX7_countAlarms_4 (by decide) ?_
  refine y_istore_n C dX7_countAlarms_5 (L' := [_, _, _, _, _, _]) (Nat.lt_of_lt_of_le (by decide : (3 : Nat) < 6) (Nat.le_refl _)) rfl ?_
  refine l_X7_countAlarms C hB σ τ hR I (fun σ1 v4 v5 hR1 hF1 => ?_) _ 0 (Nat.zero_add _) σ none none hR Fr.rf
  refine y_aload_n C dX7_countAlarms_84 rfl ?_
  refine g_X7_counts C hB dX7_countAlarms_85 (by decide +kernel) (by decide +kernel) ?_
  refine y_iconst (v := 0) C dX7_countAlarms_88 (by decide) ?_
  refine y_dup2 C dX7_countAlarms_89 rfl rfl ?_
  refine aR C hB hR1 13 26 0 6 rfl (lv_l (by decide) (by decide)) (by decide) rfl (by decide) rfl (by decide) dX7_countAlarms_90 ?_
  refine y_iload_n C dX7_countAlarms_91 rfl ?_
  refine y_iadd C dX7_countAlarms_92 ?_
  refine wR C hB hR1 13 26 0 6 rfl (by decide) (by decide) (lv_upd (by decide) (by decide) (by decide)) (by decide) rfl (by decide) rfl (by decide) dX7_countAlarms_93 (fun σ2 hR2 hF2 => ?_)
  refine y_iload_n C dX7_countAlarms_94 rfl ?_
  refine y_if_eq (t := 108) C dX7_countAlarms_95 (by decide) (fun kc95 => ?_) (fun kc95 => ?_)
  · -- t
    rw [mCA_0 kc95] at hR2
    refine y_iload_n C dX7_countAlarms_108 rfl ?_
    exact y_iret C rfl dX7_countAlarms_109 (⟨rfl, by first | exact hR3 | exact hR2, by first | exact (hF1.trans hF2).trans hF3 | exact hF1.trans hF2, rfl⟩)
  · -- f
    refine y_aload_n C dX7_countAlarms_98 rfl ?_
    refine g_X7_counts C hB dX7_countAlarms_99 (by decide +kernel) (by decide +kernel) ?_
    refine y_iconst (v := 5) C dX7_countAlarms_102 (by decide) ?_
    refine y_dup2 C dX7_countAlarms_103 rfl rfl ?_
    refine aR C hB hR2 18 26 5 6 rfl (lv_l (by decide) (by decide)) (by decide) rfl (by decide) rfl (by decide) dX7_countAlarms_104 ?_
    refine y_topE (mW2 r R 18) (upd_ne (by decide)) ?_
    refine y_iconst (v := 1) C dX7_countAlarms_105 (by decide) ?_
    refine y_iadd C dX7_countAlarms_106 ?_
    refine wR C hB hR2 18 26 5 6 rfl (by decide) (by decide) (lv_upd (by decide) (by decide) (by decide)) (by decide) rfl (by decide) rfl (by decide) dX7_countAlarms_107 (fun σ3 hR3 hF3 => ?_)
    rw [mCA_1 kc95] at hR3
    refine y_iload_n C dX7_countAlarms_108 rfl ?_
    exact y_iret C rfl dX7_countAlarms_109 (⟨rfl, by first | exact hR3 | exact hR2, by first | exact (hF1.trans hF2).trans hF3 | exact hF1.trans hF2, rfl⟩)
set_option maxHeartbeats 4000000 in
set_option maxRecDepth 100000 in
theorem e_X7_moveByRules {B : Nat} (hB : isW B) {r : Rw} (σ : xS) (τ : xT) (hR : Rel σ B r) {R ns nr ne t tl : Nat} (I : Inv r R ns nr ne t tl) : Xv mX7_moveByRules [.ref B] σ τ (fun σ1 τ1 => Rel σ1 B (mMove r) ∧ Fr (wS B) σ σ1 ∧ τ = τ1) := by
  have hr8 := I.1.2.2.1.2
  refine Xv_mk (L := [some (.ref B), none]) (by decide) rfl (Nat.le_of_ble_eq_true rfl) rfl (fun x C => ?_)
  refine y_aload_n C dX7_moveByRules_0 rfl ?_
  refine y_callVi C (e_X7_firstRule hB _ _ hR I) dX7_moveByRules_1 rfl gX7_moveByRules_X7_firstRule rfl (is_X7 hB) ⟨rfl, qX7_firstRule⟩ ⟨rfl, rfl⟩ ⟨Nat.le_of_ble_eq_true rfl, Nat.le_of_ble_eq_true rfl⟩ rfl (Nat.le_of_ble_eq_true rfl) ⟨Nat.zero_le _, Nat.zero_le _⟩ (fun v1 σ1 τ1 hq => ?_)
  obtain ⟨rfl, rfl, rfl⟩ := hq
  refine y_istore_n C dX7_moveByRules_4 (L' := [_, _]) (Nat.lt_of_lt_of_le (by decide : (1 : Nat) < 2) (Nat.le_refl _)) rfl ?_
  refine y_aload_n C dX7_moveByRules_5 rfl ?_
  refine g_X7_rules C hB dX7_moveByRules_6 (by decide +kernel) (by decide +kernel) ?_
  refine y_iload_n C dX7_moveByRules_9 rfl ?_
  refine y_callVi C (e_X5_has hB _ _ hR _) dX7_moveByRules_10 rfl gX7_moveByRules_X5_has rfl (is_X5 hB) ⟨rfl, qX5_has⟩ ⟨rfl, rfl⟩ ⟨Nat.le_of_ble_eq_true rfl, Nat.le_of_ble_eq_true rfl⟩ rfl (Nat.le_of_ble_eq_true rfl) ⟨Nat.zero_le _, Nat.zero_le _⟩ (fun v1 σ1 τ1 hq => ?_)
  obtain ⟨rfl, rfl, rfl⟩ := hq
  refine y_if_eq (t := 32) C dX7_moveByRules_13 (by decide) (fun kc13 => ?_) (fun kc13 => ?_)
  · -- t
    have hRt : Rel σ B (mTgt r) := by rw [mHas_no I kc13]; exact hR
    have hFt : Fr (wS B) σ σ := Fr.rf
    refine y_aload_n C dX7_moveByRules_32 rfl ?_
    refine g_X7_hearth C hB dX7_moveByRules_33 (by decide +kernel) (by decide +kernel) ?_
    refine y_callVi C (e_X2_moveDamper hB _ _ hRt) dX7_moveByRules_36 rfl gX7_moveByRules_X2_moveDamper rfl (is_X2 hB) ⟨rfl, qX2_moveDamper⟩ ⟨rfl, rfl⟩ ⟨Nat.le_of_ble_eq_true rfl, Nat.le_of_ble_eq_true rfl⟩ rfl (Nat.le_of_ble_eq_true rfl) ⟨Nat.zero_le _, Nat.zero_le _⟩ (fun v2 σ2 τ2 hq => ?_)
    obtain ⟨rfl, hR2, hF2, rfl⟩ := hq
    refine y_if_eq (t := 52) C dX7_moveByRules_39 (by decide) (fun kc39 => ?_) (fun kc39 => ?_)
    · -- t
      rw [ite10] at kc39
      rw [(mMove_no kc39).2] at hR2
      exact y_vret C rfl dX7_moveByRules_52 (⟨by first | (rw [mMove_yes kc39]; exact hR3) | (rw [(mMove_no kc39).1]; exact hR2), by first | exact (hFt.trans hF2).trans hF3 | exact hFt.trans hF2, rfl⟩)
    · -- f
      rw [ite10n] at kc39
      refine y_aload_n C dX7_moveByRules_42 rfl ?_
      refine g_X7_counts C hB dX7_moveByRules_43 (by decide +kernel) (by decide +kernel) ?_
      refine y_iconst (v := 1) C dX7_moveByRules_46 (by decide) ?_
      refine y_dup2 C dX7_moveByRules_47 rfl rfl ?_
      refine aR C hB hR2 14 26 1 6 rfl (lv_l (by decide) (by decide)) (by decide) rfl (by decide) rfl (by decide) dX7_moveByRules_48 ?_
      refine y_iconst (v := 1) C dX7_moveByRules_49 (by decide) ?_
      refine y_iadd C dX7_moveByRules_50 ?_
      refine wR C hB hR2 14 26 1 6 rfl (by decide) (by decide) (lv_upd (by decide) (by decide) (by decide)) (by decide) rfl (by decide) rfl (by decide) dX7_moveByRules_51 (fun σ3 hR3 hF3 => ?_)
      exact y_vret C rfl dX7_moveByRules_52 (⟨by first | (rw [mMove_yes kc39]; exact hR3) | (rw [(mMove_no kc39).1]; exact hR2), by first | exact (hFt.trans hF2).trans hF3 | exact hFt.trans hF2, rfl⟩)
  · -- f
    obtain ⟨i, hi, ei⟩ := mHas_yes I kc13
    refine y_aload_n C dX7_moveByRules_16 rfl ?_
    refine g_X7_hearth C hB dX7_moveByRules_17 (by decide +kernel) (by decide +kernel) ?_
    refine y_aload_n C dX7_moveByRules_20 rfl ?_
    refine g_X7_rules C hB dX7_moveByRules_21 (by decide +kernel) (by decide +kernel) ?_
    refine g_X5_opening C hB dX7_moveByRules_24 (by decide +kernel) (by decide +kernel) ?_
    refine y_iload_n C dX7_moveByRules_27 rfl ?_
    refine aR C hB hR (113 + 4 * i + 3) 20 i 8 (pl_r _ (by omega) _ (by decide)) (lv_r (by omega) (by decide) (inv_r I hi)) (by decide) rfl (by decide) ei (by omega) dX7_moveByRules_28 ?_
    refine pR_X2_target C hB hR dX7_moveByRules_29 (by decide +kernel) (by decide +kernel) (fun σ8 hR8 hF8 => ?_)
    rw [← mTgt_at (by omega) ei] at hR8
    have hRt := hR8
    have hFt := hF8
    refine y_aload_n C dX7_moveByRules_32 rfl ?_
    refine g_X7_hearth C hB dX7_moveByRules_33 (by decide +kernel) (by decide +kernel) ?_
    refine y_callVi C (e_X2_moveDamper hB _ _ hRt) dX7_moveByRules_36 rfl gX7_moveByRules_X2_moveDamper rfl (is_X2 hB) ⟨rfl, qX2_moveDamper⟩ ⟨rfl, rfl⟩ ⟨Nat.le_of_ble_eq_true rfl, Nat.le_of_ble_eq_true rfl⟩ rfl (Nat.le_of_ble_eq_true rfl) ⟨Nat.zero_le _, Nat.zero_le _⟩ (fun v2 σ2 τ2 hq => ?_)
    obtain ⟨rfl, hR2, hF2, rfl⟩ := hq
    refine y_if_eq (t := 52) C dX7_moveByRules_39 (by decide) (fun kc39 => ?_) (fun kc39 => ?_)
    · -- t
      rw [ite10] at kc39
      rw [(mMove_no kc39).2] at hR2
      exact y_vret C rfl dX7_moveByRules_52 (⟨by first | (rw [mMove_yes kc39]; exact hR3) | (rw [(mMove_no kc39).1]; exact hR2), by first | exact (hFt.trans hF2).trans hF3 | exact hFt.trans hF2, rfl⟩)
    · -- f
      rw [ite10n] at kc39
      refine y_aload_n C dX7_moveByRules_42 rfl ?_
      refine g_X7_counts C hB dX7_moveByRules_43 (by decide +kernel) (by decide +kernel) ?_
      refine y_iconst (v := 1) C dX7_moveByRules_46 (by decide) ?_
      refine y_dup2 C dX7_moveByRules_47 rfl rfl ?_
      refine aR C hB hR2 14 26 1 6 rfl (lv_l (by decide) (by decide)) (by decide) rfl (by decide) rfl (by decide) dX7_moveByRules_48 ?_
      refine y_iconst (v := 1) C dX7_moveByRules_49 (by decide) ?_
      refine y_iadd C dX7_moveByRules_50 ?_
      refine wR C hB hR2 14 26 1 6 rfl (by decide) (by decide) (lv_upd (by decide) (by decide) (by decide)) (by decide) rfl (by decide) rfl (by decide) dX7_moveByRules_51 (fun σ3 hR3 hF3 => ?_)
      exact y_vret C rfl dX7_moveByRules_52 (⟨by first | (rw [mMove_yes kc39]; exact hR3) | (rw [(mMove_no kc39).1]; exact hR2), by first | exact (hFt.trans hF2).trans hF3 | exact hFt.trans hF2, rfl⟩)
set_option maxHeartbeats 4000000 in
set_option maxRecDepth 100000 in
theorem l_X7_letMinutePass {x : xC} (C : Cx x mX7_letMinutePass) {B : Nat} (hB : isW B) {r : Rw} (σ : xS) (τ : xT) (hR : Rel σ B r) {R ns nr ne t tl : Nat} (I : Inv r R ns nr ne t tl) (s : Int32) {Z : State → Prop} (kx : ∀ (σ1 : xS), Rel σ1 B (mW1 r ns) → Fr (wS B) σ σ1 → Y x 83 [some (.ref B), some (.int s), some (.int (nI ns))] [] σ1 τ 0 0 Z) : ∀ n k : Nat, k + n = ns → ∀ (σ1 : xS), Rel σ1 B (mW1 r k) → Fr (wS B) σ σ1 → Y x 53 [some (.ref B), some (.int s), some (.int (nI k))] [] σ1 τ 0 0 Z := by
  intro n
  induction n with
  | zero =>
    intro k hk
    intro σ1 hR1 hF1
    have hs8 := I.1.2.1.2
    have IW := I.w1 k (by omega)
    refine y_iload_n C dX7_letMinutePass_53 rfl ?_
    refine y_aload_n C dX7_letMinutePass_54 rfl ?_
    refine g_X7_sensors C hB dX7_letMinutePass_55 (by decide +kernel) (by decide +kernel) ?_
    refine gR_X6_count C hB hR1 dX7_letMinutePass_58 (by decide +kernel) (by decide +kernel) ?_
    refine y_topE (nI ns) IW.1.2.1.1 ?_
    refine y_icmp_ge (t := 83) C dX7_letMinutePass_61 (by decide) (fun c61 => ?_) (fun c61 => absurd (by rw [show k = ns by omega]; exact Int32.le_refl _) c61)
    obtain rfl : k = ns := by omega
    exact kx σ1 hR1 hF1
  | succ n ih =>
    intro k hk
    intro σ1 hR1 hF1
    have hs8 := I.1.2.1.2
    have IW := I.w1 k (by omega)
    refine y_iload_n C dX7_letMinutePass_53 rfl ?_
    refine y_aload_n C dX7_letMinutePass_54 rfl ?_
    refine g_X7_sensors C hB dX7_letMinutePass_55 (by decide +kernel) (by decide +kernel) ?_
    refine gR_X6_count C hB hR1 dX7_letMinutePass_58 (by decide +kernel) (by decide +kernel) ?_
    refine y_topE (nI ns) IW.1.2.1.1 ?_
    refine y_icmp_ge (t := 83) C dX7_letMinutePass_61 (by decide) (fun c61 => absurd c61 (nI_ge (by omega) (by omega))) (fun c61 => ?_)
    refine y_aload_n C dX7_letMinutePass_64 rfl ?_
    refine g_X7_sensors C hB dX7_letMinutePass_65 (by decide +kernel) (by decide +kernel) ?_
    refine y_iload_n C dX7_letMinutePass_68 rfl ?_
    refine y_aload_n C dX7_letMinutePass_69 rfl ?_
    refine y_iload_n C dX7_letMinutePass_70 rfl ?_
    refine y_callVi C (e_X7_isExcited hB _ _ hR1 IW k (by omega)) dX7_letMinutePass_71 rfl gX7_letMinutePass_X7_isExcited rfl (is_X7 hB) ⟨rfl, qX7_isExcited⟩ ⟨rfl, rfl⟩ ⟨Nat.le_of_ble_eq_true rfl, Nat.le_of_ble_eq_true rfl⟩ rfl (Nat.le_of_ble_eq_true rfl) ⟨Nat.zero_le _, Nat.zero_le _⟩ (fun v1 σ1 τ1 hq => ?_)
    obtain ⟨rfl, rfl, rfl⟩ := hq
    refine y_callVv C (e_X6_countMinute hB _ _ hR1 IW k (by omega) _) dX7_letMinutePass_74 rfl gX7_letMinutePass_X6_countMinute rfl (is_X6 hB) ⟨rfl, qX6_countMinute⟩ ⟨rfl, rfl⟩ ⟨Nat.le_of_ble_eq_true rfl, Nat.le_of_ble_eq_true rfl⟩ rfl (Nat.le_of_ble_eq_true rfl) ⟨Nat.zero_le _, Nat.zero_le _⟩ (fun σ2 τ2 hq => ?_)
    obtain ⟨hR2, hF2, rfl⟩ := hq
    refine y_iinc C dX7_letMinutePass_77 (L' := [_, _, _]) rfl (nI_1 k) rfl ?_
    refine y_goto (t := 53) C dX7_letMinutePass_80 (by decide) ?_
    exact ih (k + 1) (by omega) σ2 hR2 (hF1.trans hF2)
set_option maxHeartbeats 4000000 in
set_option maxRecDepth 100000 in
theorem e_X7_letMinutePass {B : Nat} (hB : isW B) {r : Rw} (σ : xS) (τ : xT) (hR : Rel σ B r) {R ns nr ne t : Nat} (I : Inv r R ns nr ne t (t + 1)) (hs : Sk r) (ht : t < 1000000) : Xi mX7_letMinutePass [.ref B] σ τ (fun v σ1 τ1 => v = mNew r ∧ Rel σ1 B (mMin r) ∧ Fr (wS B) σ σ1 ∧ τ = τ1) := by
  have I1 := I.tick ht
  have I2 := I.r1 ht
  have I3 := I2.b1
  have I4 := I.b hs ht
  have I5 := I.r2 hs ht
  have I6 := I5.w1 ns (Nat.le_refl _)
  have I7 := I6.ca
  refine Xi_mk (L := [some (.ref B), none, none]) (by decide) rfl (Nat.le_of_ble_eq_true rfl) rfl (fun x C => ?_)
  refine y_aload_n C dX7_letMinutePass_0 rfl ?_
  refine y_dup C dX7_letMinutePass_1 rfl ?_
  refine gR_X7_minute C hB hR dX7_letMinutePass_2 (by decide +kernel) (by decide +kernel) ?_
  refine y_iconst (v := 1) C dX7_letMinutePass_5 (by decide) ?_
  refine y_iadd C dX7_letMinutePass_6 ?_
  refine pR_X7_minute C hB hR dX7_letMinutePass_7 (by decide +kernel) (by decide +kernel) (fun σ1 hR1 hF1 => ?_)
  refine y_aload_n C dX7_letMinutePass_10 rfl ?_
  refine y_callVv C (e_X7_takeEvents hB _ _ hR1 I1) dX7_letMinutePass_11 rfl gX7_letMinutePass_X7_takeEvents rfl (is_X7 hB) ⟨rfl, qX7_takeEvents⟩ ⟨rfl, rfl⟩ ⟨Nat.le_of_ble_eq_true rfl, Nat.le_of_ble_eq_true rfl⟩ rfl (Nat.le_of_ble_eq_true rfl) ⟨Nat.zero_le _, Nat.zero_le _⟩ (fun σ2 τ2 hq => ?_)
  obtain ⟨hR2, hF2, rfl⟩ := hq
  have hR2 : Rel σ2 B (mR1 r) := hR2
  refine y_aload_n C dX7_letMinutePass_14 rfl ?_
  refine g_X7_hearth C hB dX7_letMinutePass_15 (by decide +kernel) (by decide +kernel) ?_
  refine y_callVi C (e_X2_strength hB _ _ hR2) dX7_letMinutePass_18 rfl gX7_letMinutePass_X2_strength rfl (is_X2 hB) ⟨rfl, qX2_strength⟩ ⟨rfl, rfl⟩ ⟨Nat.le_of_ble_eq_true rfl, Nat.le_of_ble_eq_true rfl⟩ rfl (Nat.le_of_ble_eq_true rfl) ⟨Nat.zero_le _, Nat.zero_le _⟩ (fun v1 σ1 τ1 hq => ?_)
  obtain ⟨rfl, rfl, rfl⟩ := hq
  refine y_istore_n C dX7_letMinutePass_21 (L' := [_, _, _]) (Nat.lt_of_lt_of_le (by decide : (1 : Nat) < 3) (Nat.le_refl _)) rfl ?_
  refine y_aload_n C dX7_letMinutePass_22 rfl ?_
  refine g_X7_hearth C hB dX7_letMinutePass_23 (by decide +kernel) (by decide +kernel) ?_
  refine y_iload_n C dX7_letMinutePass_26 rfl ?_
  refine y_callVv C (e_X2_burn hB _ _ hR2 I2) dX7_letMinutePass_27 rfl gX7_letMinutePass_X2_burn rfl (is_X2 hB) ⟨rfl, qX2_burn⟩ ⟨rfl, rfl⟩ ⟨Nat.le_of_ble_eq_true rfl, Nat.le_of_ble_eq_true rfl⟩ rfl (Nat.le_of_ble_eq_true rfl) ⟨Nat.zero_le _, Nat.zero_le _⟩ (fun σ3 τ3 hq => ?_)
  obtain ⟨hR3, hF3, rfl⟩ := hq
  refine y_aload_n C dX7_letMinutePass_30 rfl ?_
  refine y_iload_n C dX7_letMinutePass_31 rfl ?_
  refine y_callVv C (e_X7_letSmokeRise hB _ _ hR3 _) dX7_letMinutePass_32 rfl gX7_letMinutePass_X7_letSmokeRise rfl (is_X7 hB) ⟨rfl, qX7_letSmokeRise⟩ ⟨rfl, rfl⟩ ⟨Nat.le_of_ble_eq_true rfl, Nat.le_of_ble_eq_true rfl⟩ rfl (Nat.le_of_ble_eq_true rfl) ⟨Nat.zero_le _, Nat.zero_le _⟩ (fun σ4 τ4 hq => ?_)
  obtain ⟨hR4, hF4, rfl⟩ := hq
  refine y_aload_n C dX7_letMinutePass_35 rfl ?_
  refine g_X7_counts C hB dX7_letMinutePass_36 (by decide +kernel) (by decide +kernel) ?_
  refine y_iconst (v := 4) C dX7_letMinutePass_39 (by decide) ?_
  refine y_dup2 C dX7_letMinutePass_40 rfl rfl ?_
  refine aR C hB hR4 17 26 4 6 rfl (lv_l (by decide) (by decide)) (by decide) rfl (by decide) rfl (by decide) dX7_letMinutePass_41 ?_
  refine y_aload_n C dX7_letMinutePass_42 rfl ?_
  refine g_X7_house C hB dX7_letMinutePass_43 (by decide +kernel) (by decide +kernel) ?_
  refine y_callVi C (e_X3_spread hB _ _ hR4 I4) dX7_letMinutePass_46 rfl gX7_letMinutePass_X3_spread rfl (is_X3 hB) ⟨rfl, qX3_spread⟩ ⟨rfl, rfl⟩ ⟨Nat.le_of_ble_eq_true rfl, Nat.le_of_ble_eq_true rfl⟩ rfl (Nat.le_of_ble_eq_true rfl) ⟨Nat.zero_le _, Nat.zero_le _⟩ (fun v5 σ5 τ5 hq => ?_)
  obtain ⟨rfl, hR5, hF5, rfl⟩ := hq
  refine y_iadd C dX7_letMinutePass_49 ?_
  refine wR C hB hR5 17 26 4 6 rfl (by decide) (by decide) (lv_upd (by decide) (by decide) (by decide)) (by decide) rfl (by decide) rfl (by decide) dX7_letMinutePass_50 (fun σ6 hR6 hF6 => ?_)
  have hR6 : Rel σ6 B (mR2 r) := by
    unfold mR2 mSpread
    rw [inv_cR I4, mSpR_17]
    exact hR6
  refine y_iconst (v := 0) C dX7_letMinutePass_51 (by decide) ?_
  refine y_istore_n C dX7_letMinutePass_52 (L' := [_, _, _]) (Nat.lt_of_lt_of_le (by decide : (2 : Nat) < 3) (Nat.le_refl _)) rfl ?_
  refine l_X7_letMinutePass C hB _ _ hR6 I5 _ (fun σ7 hR7 hF7 => ?_) _ 0 (Nat.zero_add _) σ6 hR6 Fr.rf
  refine y_aload_n C dX7_letMinutePass_83 rfl ?_
  refine y_callVi C (e_X7_countAlarms hB _ _ hR7 I6) dX7_letMinutePass_84 rfl gX7_letMinutePass_X7_countAlarms rfl (is_X7 hB) ⟨rfl, qX7_countAlarms⟩ ⟨rfl, rfl⟩ ⟨Nat.le_of_ble_eq_true rfl, Nat.le_of_ble_eq_true rfl⟩ rfl (Nat.le_of_ble_eq_true rfl) ⟨Nat.zero_le _, Nat.zero_le _⟩ (fun v8 σ8 τ8 hq => ?_)
  obtain ⟨rfl, hR8, hF8, rfl⟩ := hq
  refine y_istore_n C dX7_letMinutePass_87 (L' := [_, _, _]) (Nat.lt_of_lt_of_le (by decide : (2 : Nat) < 3) (Nat.le_refl _)) rfl ?_
  refine y_aload_n C dX7_letMinutePass_88 rfl ?_
  refine y_callVv C (e_X7_moveByRules hB _ _ hR8 I7) dX7_letMinutePass_89 rfl gX7_letMinutePass_X7_moveByRules rfl (is_X7 hB) ⟨rfl, qX7_moveByRules⟩ ⟨rfl, rfl⟩ ⟨Nat.le_of_ble_eq_true rfl, Nat.le_of_ble_eq_true rfl⟩ rfl (Nat.le_of_ble_eq_true rfl) ⟨Nat.zero_le _, Nat.zero_le _⟩ (fun σ9 τ9 hq => ?_)
  obtain ⟨hR9, hF9, rfl⟩ := hq
  refine y_iload_n C dX7_letMinutePass_92 rfl ?_
  exact y_iret C rfl dX7_letMinutePass_93 (⟨(min_class I hs ht).2, by rw [← (min_class I hs ht).1]; exact hR9, (((((((hF1.trans hF2).trans hF3).trans hF4).trans hF5).trans hF6).trans hF7).trans hF8).trans hF9, rfl⟩)
theorem mMv1_yes {r : Rw} (h : r 3 = 0 ∧ ¬ r 4 = r 9) : mMv1 r = upd r 4 (r 4 + (if r 4 < r 9 then 1 else -1)) := if_pos h
