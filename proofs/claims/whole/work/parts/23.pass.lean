set_option maxHeartbeats 4000000 in
set_option maxRecDepth 100000 in
theorem l_X7_countAlarms {x : xC} (C : Cx x mX7_countAlarms) {B : Nat} (hB : isW B) {r : Rw} (σ : xS) (τ : xT) (hR : Rel σ B r) {R ns nr ne t tl : Nat} (I : Inv r R ns nr ne t tl) {Z : State → Prop} (kx : ∀ (σ1 : xS) (v4 v5 : Option Value), Rel σ1 B (mW2 r R) → Fr (wS B) σ σ1 → Y x 84 [some (.ref B), some (.int (mBgn r R)), some (.int (mSom r R)), some (.int (nI R)), v4, v5] [] σ1 τ 0 0 Z) : ∀ n k : Nat, k + n = R → ∀ (σ1 : xS) (v4 v5 : Option Value), Rel σ1 B (mW2 r k) → Fr (wS B) σ σ1 → Y x 6 [some (.ref B), some (.int (mBgn r k)), some (.int (mSom r k)), some (.int (nI k)), v4, v5] [] σ1 τ 0 0 Z := by
  intro n
  induction n with
  | zero =>
    intro k hk
    intro σ1 v4 v5 hR1 hF1
    have hR4 := I.1.1.2.2
    have IW := I.w2 k (by omega)
    refine y_iload_n C dX7_countAlarms_6 rfl ?_
    refine y_aload_n C dX7_countAlarms_7 rfl ?_
    refine g_X7_house C hB dX7_countAlarms_8 (by decide +kernel) (by decide +kernel) ?_
    refine gR_X3_rooms C hB hR1 dX7_countAlarms_11 (by decide +kernel) (by decide +kernel) ?_
    refine y_topE (nI R) IW.1.1.1 ?_
    refine y_icmp_ge (t := 84) C dX7_countAlarms_14 (by decide) (fun c14 => ?_) (fun c14 => absurd (by rw [show k = R by omega]; exact Int32.le_refl _) c14)
    obtain rfl : k = R := by omega
    exact kx σ1 v4 v5 hR1 hF1
  | succ n ih =>
    intro k hk
    intro σ1 v4 v5 hR1 hF1
    have hR4 := I.1.1.2.2
    have IW := I.w2 k (by omega)
    refine y_iload_n C dX7_countAlarms_6 rfl ?_
    refine y_aload_n C dX7_countAlarms_7 rfl ?_
    refine g_X7_house C hB dX7_countAlarms_8 (by decide +kernel) (by decide +kernel) ?_
    refine gR_X3_rooms C hB hR1 dX7_countAlarms_11 (by decide +kernel) (by decide +kernel) ?_
    refine y_topE (nI R) IW.1.1.1 ?_
    refine y_icmp_ge (t := 84) C dX7_countAlarms_14 (by decide) (fun c14 => absurd c14 (nI_ge (by omega) (by have := I.1.1.2.2; omega))) (fun c14 => ?_)
    refine y_aload_n C dX7_countAlarms_17 rfl ?_
    refine g_X7_alarms C hB dX7_countAlarms_18 (by decide +kernel) (by decide +kernel) ?_
    refine y_iload_n C dX7_countAlarms_21 rfl ?_
    refine y_callVi C (e_X0_soundsIn hB _ _ hR1 k (by omega)) dX7_countAlarms_22 rfl gX7_countAlarms_X0_soundsIn rfl (is_X0 hB) ⟨rfl, qX0_soundsIn⟩ ⟨rfl, rfl⟩ ⟨Nat.le_of_ble_eq_true rfl, Nat.le_of_ble_eq_true rfl⟩ rfl (Nat.le_of_ble_eq_true rfl) ⟨Nat.zero_le _, Nat.zero_le _⟩ (fun v1 σ1 τ1 hq => ?_)
    obtain ⟨rfl, rfl, rfl⟩ := hq
    refine y_istore C dX7_countAlarms_25 (L' := [_, _, _, _, _, _]) (Nat.lt_of_lt_of_le (by decide : (4 : Nat) < 6) (Nat.le_refl _)) rfl ?_
    refine y_aload_n C dX7_countAlarms_27 rfl ?_
    refine y_iload_n C dX7_countAlarms_28 rfl ?_
    refine y_callVi C (e_X7_isAgreedOn hB _ _ hR1 IW _) dX7_countAlarms_29 rfl gX7_countAlarms_X7_isAgreedOn rfl (is_X7 hB) ⟨rfl, qX7_isAgreedOn⟩ ⟨rfl, rfl⟩ ⟨Nat.le_of_ble_eq_true rfl, Nat.le_of_ble_eq_true rfl⟩ rfl (Nat.le_of_ble_eq_true rfl) ⟨Nat.zero_le _, Nat.zero_le _⟩ (fun v1 σ1 τ1 hq => ?_)
    obtain ⟨rfl, rfl, rfl⟩ := hq
    refine y_istore C dX7_countAlarms_32 (L' := [_, _, _, _, _, _]) (Nat.lt_of_lt_of_le (by decide : (5 : Nat) < 6) (Nat.le_refl _)) rfl ?_
    refine y_aload_n C dX7_countAlarms_34 rfl ?_
    refine g_X7_alarms C hB dX7_countAlarms_35 (by decide +kernel) (by decide +kernel) ?_
    refine y_iload_n C dX7_countAlarms_38 rfl ?_
    refine y_iload C dX7_countAlarms_39 rfl ?_
    refine y_callVv C (e_X0_countMinute hB _ _ hR1 IW k (by omega) _) dX7_countAlarms_41 rfl gX7_countAlarms_X0_countMinute rfl (is_X0 hB) ⟨rfl, qX0_countMinute⟩ ⟨rfl, rfl⟩ ⟨Nat.le_of_ble_eq_true rfl, Nat.le_of_ble_eq_true rfl⟩ rfl (Nat.le_of_ble_eq_true rfl) ⟨Nat.zero_le _, Nat.zero_le _⟩ (fun σ2 τ2 hq => ?_)
    obtain ⟨hR2, hF2, rfl⟩ := hq
    have hR2 : Rel σ2 B (mW2 r (k + 1)) := hR2
    refine y_aload_n C dX7_countAlarms_44 rfl ?_
    refine g_X7_alarms C hB dX7_countAlarms_45 (by decide +kernel) (by decide +kernel) ?_
    refine y_iload_n C dX7_countAlarms_48 rfl ?_
    refine y_callVi C (e_X0_soundsIn hB _ _ hR2 k (by omega)) dX7_countAlarms_49 rfl gX7_countAlarms_X0_soundsIn rfl (is_X0 hB) ⟨rfl, qX0_soundsIn⟩ ⟨rfl, rfl⟩ ⟨Nat.le_of_ble_eq_true rfl, Nat.le_of_ble_eq_true rfl⟩ rfl (Nat.le_of_ble_eq_true rfl) ⟨Nat.zero_le _, Nat.zero_le _⟩ (fun v1 σ1 τ1 hq => ?_)
    obtain ⟨rfl, rfl, rfl⟩ := hq
    refine y_if_eq (t := 63) C dX7_countAlarms_52 (by decide) (fun kc52 => ?_) (fun kc52 => ?_)
    · -- t
      refine y_iload_n C dX7_countAlarms_63 rfl ?_
      refine y_if_ne (t := 72) C dX7_countAlarms_64 (by decide) (fun kc64 => ?_) (fun kc64 => ?_)
      · -- t
        refine y_iconst (v := 1) C dX7_countAlarms_72 (by decide) ?_
        refine y_goto (t := 77) C dX7_countAlarms_73 (by decide) ?_
        refine y_istore_n C dX7_countAlarms_77 (L' := [_, _, _, _, _, _]) (Nat.lt_of_lt_of_le (by decide : (2 : Nat) < 6) (Nat.le_refl _)) rfl ?_
        refine y_iinc C dX7_countAlarms_78 (L' := [_, _, _, _, _, _]) rfl (nI_1 k) rfl ?_
        refine y_goto (t := 6) C dX7_countAlarms_81 (by decide) ?_
        have h9 := ih (k + 1) (by omega) σ2 (some (.int (mAlaI (mW2 r k) k))) (some (.int (mAgrI (mW2 r k) (nI k)))) hR2 (hF1.trans hF2)
        first
          | rw [mBgn_a kc52 kc57] at h9
          | rw [mBgn_b kc52] at h9
          | rw [mBgn_c kc57] at h9
        first
          | rw [mSom_a kc64] at h9
          | rw [mSom_b kc64 kc69] at h9
          | rw [mSom_c kc64 kc69] at h9
        exact h9
      · -- f
        refine y_iload C dX7_countAlarms_67 rfl ?_
        refine y_if_eq (t := 76) C dX7_countAlarms_69 (by decide) (fun kc69 => ?_) (fun kc69 => ?_)
        · -- t
          refine y_iconst (v := 0) C dX7_countAlarms_76 (by decide) ?_
          refine y_istore_n C dX7_countAlarms_77 (L' := [_, _, _, _, _, _]) (Nat.lt_of_lt_of_le (by decide : (2 : Nat) < 6) (Nat.le_refl _)) rfl ?_
          refine y_iinc C dX7_countAlarms_78 (L' := [_, _, _, _, _, _]) rfl (nI_1 k) rfl ?_
          refine y_goto (t := 6) C dX7_countAlarms_81 (by decide) ?_
          have h9 := ih (k + 1) (by omega) σ2 (some (.int (mAlaI (mW2 r k) k))) (some (.int (mAgrI (mW2 r k) (nI k)))) hR2 (hF1.trans hF2)
          first
            | rw [mBgn_a kc52 kc57] at h9
            | rw [mBgn_b kc52] at h9
            | rw [mBgn_c kc57] at h9
          first
            | rw [mSom_a kc64] at h9
            | rw [mSom_b kc64 kc69] at h9
            | rw [mSom_c kc64 kc69] at h9
          exact h9
        · -- f
          refine y_iconst (v := 1) C dX7_countAlarms_72 (by decide) ?_
          refine y_goto (t := 77) C dX7_countAlarms_73 (by decide) ?_
          refine y_istore_n C dX7_countAlarms_77 (L' := [_, _, _, _, _, _]) (Nat.lt_of_lt_of_le (by decide : (2 : Nat) < 6) (Nat.le_refl _)) rfl ?_
          refine y_iinc C dX7_countAlarms_78 (L' := [_, _, _, _, _, _]) rfl (nI_1 k) rfl ?_
          refine y_goto (t := 6) C dX7_countAlarms_81 (by decide) ?_
          have h9 := ih (k + 1) (by omega) σ2 (some (.int (mAlaI (mW2 r k) k))) (some (.int (mAgrI (mW2 r k) (nI k)))) hR2 (hF1.trans hF2)
          first
            | rw [mBgn_a kc52 kc57] at h9
            | rw [mBgn_b kc52] at h9
            | rw [mBgn_c kc57] at h9
          first
            | rw [mSom_a kc64] at h9
            | rw [mSom_b kc64 kc69] at h9
            | rw [mSom_c kc64 kc69] at h9
          exact h9
    · -- f
      refine y_iload C dX7_countAlarms_55 rfl ?_
      refine y_if_ne (t := 63) C dX7_countAlarms_57 (by decide) (fun kc57 => ?_) (fun kc57 => ?_)
      · -- t
        refine y_iload_n C dX7_countAlarms_63 rfl ?_
        refine y_if_ne (t := 72) C dX7_countAlarms_64 (by decide) (fun kc64 => ?_) (fun kc64 => ?_)
        · -- t
          refine y_iconst (v := 1) C dX7_countAlarms_72 (by decide) ?_
          refine y_goto (t := 77) C dX7_countAlarms_73 (by decide) ?_
          refine y_istore_n C dX7_countAlarms_77 (L' := [_, _, _, _, _, _]) (Nat.lt_of_lt_of_le (by decide : (2 : Nat) < 6) (Nat.le_refl _)) rfl ?_
          refine y_iinc C dX7_countAlarms_78 (L' := [_, _, _, _, _, _]) rfl (nI_1 k) rfl ?_
          refine y_goto (t := 6) C dX7_countAlarms_81 (by decide) ?_
          have h9 := ih (k + 1) (by omega) σ2 (some (.int (mAlaI (mW2 r k) k))) (some (.int (mAgrI (mW2 r k) (nI k)))) hR2 (hF1.trans hF2)
          first
            | rw [mBgn_a kc52 kc57] at h9
            | rw [mBgn_b kc52] at h9
            | rw [mBgn_c kc57] at h9
          first
            | rw [mSom_a kc64] at h9
            | rw [mSom_b kc64 kc69] at h9
            | rw [mSom_c kc64 kc69] at h9
          exact h9
        · -- f
          refine y_iload C dX7_countAlarms_67 rfl ?_
          refine y_if_eq (t := 76) C dX7_countAlarms_69 (by decide) (fun kc69 => ?_) (fun kc69 => ?_)
          · -- t
            refine y_iconst (v := 0) C dX7_countAlarms_76 (by decide) ?_
            refine y_istore_n C dX7_countAlarms_77 (L' := [_, _, _, _, _, _]) (Nat.lt_of_lt_of_le (by decide : (2 : Nat) < 6) (Nat.le_refl _)) rfl ?_
            refine y_iinc C dX7_countAlarms_78 (L' := [_, _, _, _, _, _]) rfl (nI_1 k) rfl ?_
            refine y_goto (t := 6) C dX7_countAlarms_81 (by decide) ?_
            have h9 := ih (k + 1) (by omega) σ2 (some (.int (mAlaI (mW2 r k) k))) (some (.int (mAgrI (mW2 r k) (nI k)))) hR2 (hF1.trans hF2)
            first
              | rw [mBgn_a kc52 kc57] at h9
              | rw [mBgn_b kc52] at h9
              | rw [mBgn_c kc57] at h9
            first
              | rw [mSom_a kc64] at h9
              | rw [mSom_b kc64 kc69] at h9
              | rw [mSom_c kc64 kc69] at h9
            exact h9
          · -- f
            refine y_iconst (v := 1) C dX7_countAlarms_72 (by decide) ?_
            refine y_goto (t := 77) C dX7_countAlarms_73 (by decide) ?_
            refine y_istore_n C dX7_countAlarms_77 (L' := [_, _, _, _, _, _]) (Nat.lt_of_lt_of_le (by decide : (2 : Nat) < 6) (Nat.le_refl _)) rfl ?_
            refine y_iinc C dX7_countAlarms_78 (L' := [_, _, _, _, _, _]) rfl (nI_1 k) rfl ?_
            refine y_goto (t := 6) C dX7_countAlarms_81 (by decide) ?_
            have h9 := ih (k + 1) (by omega) σ2 (some (.int (mAlaI (mW2 r k) k))) (some (.int (mAgrI (mW2 r k) (nI k)))) hR2 (hF1.trans hF2)
            first
              | rw [mBgn_a kc52 kc57] at h9
              | rw [mBgn_b kc52] at h9
              | rw [mBgn_c kc57] at h9
            first
              | rw [mSom_a kc64] at h9
              | rw [mSom_b kc64 kc69] at h9
              | rw [mSom_c kc64 kc69] at h9
            exact h9
      · -- f
        refine y_iinc C dX7_countAlarms_60 (L' := [_, _, _, _, _, _]) rfl rfl rfl ?_
        refine y_iload_n C dX7_countAlarms_63 rfl ?_
        refine y_if_ne (t := 72) C dX7_countAlarms_64 (by decide) (fun kc64 => ?_) (fun kc64 => ?_)
        · -- t
          refine y_iconst (v := 1) C dX7_countAlarms_72 (by decide) ?_
          refine y_goto (t := 77) C dX7_countAlarms_73 (by decide) ?_
          refine y_istore_n C dX7_countAlarms_77 (L' := [_, _, _, _, _, _]) (Nat.lt_of_lt_of_le (by decide : (2 : Nat) < 6) (Nat.le_refl _)) rfl ?_
          refine y_iinc C dX7_countAlarms_78 (L' := [_, _, _, _, _, _]) rfl (nI_1 k) rfl ?_
          refine y_goto (t := 6) C dX7_countAlarms_81 (by decide) ?_
          have h9 := ih (k + 1) (by omega) σ2 (some (.int (mAlaI (mW2 r k) k))) (some (.int (mAgrI (mW2 r k) (nI k)))) hR2 (hF1.trans hF2)
          first
            | rw [mBgn_a kc52 kc57] at h9
            | rw [mBgn_b kc52] at h9
            | rw [mBgn_c kc57] at h9
          first
            | rw [mSom_a kc64] at h9
            | rw [mSom_b kc64 kc69] at h9
            | rw [mSom_c kc64 kc69] at h9
          exact h9
        · -- f
          refine y_iload C dX7_countAlarms_67 rfl ?_
          refine y_if_eq (t := 76) C dX7_countAlarms_69 (by decide) (fun kc69 => ?_) (fun kc69 => ?_)
          · -- t
            refine y_iconst (v := 0) C dX7_countAlarms_76 (by decide) ?_
            refine y_istore_n C dX7_countAlarms_77 (L' := [_, _, _, _, _, _]) (Nat.lt_of_lt_of_le (by decide : (2 : Nat) < 6) (Nat.le_refl _)) rfl ?_
            refine y_iinc C dX7_countAlarms_78 (L' := [_, _, _, _, _, _]) rfl (nI_1 k) rfl ?_
            refine y_goto (t := 6) C dX7_countAlarms_81 (by decide) ?_
            have h9 := ih (k + 1) (by omega) σ2 (some (.int (mAlaI (mW2 r k) k))) (some (.int (mAgrI (mW2 r k) (nI k)))) hR2 (hF1.trans hF2)
            first
              | rw [mBgn_a kc52 kc57] at h9
              | rw [mBgn_b kc52] at h9
              | rw [mBgn_c kc57] at h9
            first
              | rw [mSom_a kc64] at h9
              | rw [mSom_b kc64 kc69] at h9
              | rw [mSom_c kc64 kc69] at h9
            exact h9
          · -- f
            refine y_iconst (v := 1) C dX7_countAlarms_72 (by decide) ?_
            refine y_goto (t := 77) C dX7_countAlarms_73 (by decide) ?_
            refine y_istore_n C dX7_countAlarms_77 (L' := [_, _, _, _, _, _]) (Nat.lt_of_lt_of_le (by decide : (2 : Nat) < 6) (Nat.le_refl _)) rfl ?_
            refine y_iinc C dX7_countAlarms_78 (L' := [_, _, _, _, _, _]) rfl (nI_1 k) rfl ?_
            refine y_goto (t := 6) C dX7_countAlarms_81 (by decide) ?_
            have h9 := ih (k + 1) (by omega) σ2 (some (.int (mAlaI (mW2 r k) k))) (some (.int (mAgrI (mW2 r k) (nI k)))) hR2 (hF1.trans hF2)
            first
              | rw [mBgn_a kc52 kc57] at h9
              | rw [mBgn_b kc52] at h9
              | rw [mBgn_c kc57] at h9
            first
              | rw [mSom_a kc64] at h9
              | rw [mSom_b kc64 kc69] at h9
              | rw [mSom_c kc64 kc69] at h9
            exact h9
set_option maxHeartbeats 4000000 in
set_option maxRecDepth 100000 in
theorem e_X7_countAlarms {B : Nat} (hB : isW B) {r : Rw} (σ : xS) (τ : xT) (hR : Rel σ B r) {R ns nr ne t tl : Nat} (I : Inv r R ns nr ne t tl) : Xi mX7_countAlarms [.ref B] σ τ (fun v σ1 τ1 => v = mBgn r R ∧ Rel σ1 B (mCA r R) ∧ Fr (wS B) σ σ1 ∧ τ = τ1) := by
  refine Xi_mk (L := [some (.ref B), none, none, none, none, none]) (by decide) rfl (Nat.le_of_ble_eq_true rfl) rfl (fun x C => ?_)
  refine y_iconst (v := 0) C dX7_countAlarms_0 (by decide) ?_
  refine y_istore_n C dX7_countAlarms_1 (L' := [_, _, _, _, _, _]) (Nat.lt_of_lt_of_le (by decide : (1 : Nat) < 6) (Nat.le_refl _)) rfl ?_
  refine y_iconst (v := 0) C dX7_countAlarms_2 (by decide) ?_
  refine y_istore_n C dX7_countAlarms_3 (L' := [_, _, _, _, _, _]) (Nat.lt_of_lt_of_le (by decide : (2 : Nat) < 6) (Nat.le_refl _)) rfl ?_
  refine y_iconst (v := 0) C dX7_countAlarms_4 (by decide) ?_
  refine y_istore_n C dX7_countAlarms_5 (L' := [_, _, _, _, _, _]) (Nat.lt_of_lt_of_le (by decide : (3 : Nat) < 6) (Nat.le_refl _)) rfl ?_
  refine l_X7_countAlarms C hB σ τ hR I (fun σ1 v4 v5 hR1 hF1 => ?_) _ 0 (Nat.zero_add _) σ none none hR Fr.rf
  refine y_aload_n C dX7_countAlarms_84 rfl ?_
  refine g_X7_counts C hB dX7_countAlarms_85 (by decide +kernel) (by decide +kernel) ?_
  refine y_iconst (v := 0) C dX7_countAlarms_88 (by decide) ?_
  refine y_dup2 C dX7_countAlarms_89 rfl rfl ?_
  refine aR C hB hR1 13 26 0 6 rfl (lv_l (by decide) (by decide)) (by decide) rfl (by decide) rfl (by decide) dX7_countAlarms_90 ?_
  refine y_iload_n C dX7_countAlarms_91 rfl ?_
  refine y_iadd C dX7_countAlarms_92 ?_
  refine wR C hB hR1 13 26 0 6 rfl (by decide) (by decide) (lv_upd (by decide) (by decide) (by decide)) (by decide) rfl (by decide) rfl (by decide) dX7_countAlarms_93 (fun σ2 hR2 hF2 => ?_)
  refine y_iload_n C dX7_countAlarms_94 rfl ?_
  refine y_if_eq (t := 108) C dX7_countAlarms_95 (by decide) (fun kc95 => ?_) (fun kc95 => ?_)
  · -- t
    rw [mCA_0 kc95] at hR2
    refine y_iload_n C dX7_countAlarms_108 rfl ?_
    exact y_iret C rfl dX7_countAlarms_109 (⟨rfl, by first | exact hR3 | exact hR2, by first | exact (hF1.trans hF2).trans hF3 | exact hF1.trans hF2, rfl⟩)
  · -- f
    refine y_aload_n C dX7_countAlarms_98 rfl ?_
    refine g_X7_counts C hB dX7_countAlarms_99 (by decide +kernel) (by decide +kernel) ?_
    refine y_iconst (v := 5) C dX7_countAlarms_102 (by decide) ?_
    refine y_dup2 C dX7_countAlarms_103 rfl rfl ?_
    refine aR C hB hR2 18 26 5 6 rfl (lv_l (by decide) (by decide)) (by decide) rfl (by decide) rfl (by decide) dX7_countAlarms_104 ?_
    refine y_topE (mW2 r R 18) (upd_ne (by decide)) ?_
    refine y_iconst (v := 1) C dX7_countAlarms_105 (by decide) ?_
    refine y_iadd C dX7_countAlarms_106 ?_
    refine wR C hB hR2 18 26 5 6 rfl (by decide) (by decide) (lv_upd (by decide) (by decide) (by decide)) (by decide) rfl (by decide) rfl (by decide) dX7_countAlarms_107 (fun σ3 hR3 hF3 => ?_)
    rw [mCA_1 kc95] at hR3
    refine y_iload_n C dX7_countAlarms_108 rfl ?_
    exact y_iret C rfl dX7_countAlarms_109 (⟨rfl, by first | exact hR3 | exact hR2, by first | exact (hF1.trans hF2).trans hF3 | exact hF1.trans hF2, rfl⟩)
set_option maxHeartbeats 4000000 in
set_option maxRecDepth 100000 in
theorem e_X7_moveByRules {B : Nat} (hB : isW B) {r : Rw} (σ : xS) (τ : xT) (hR : Rel σ B r) {R ns nr ne t tl : Nat} (I : Inv r R ns nr ne t tl) : Xv mX7_moveByRules [.ref B] σ τ (fun σ1 τ1 => Rel σ1 B (mMove r) ∧ Fr (wS B) σ σ1 ∧ τ = τ1) := by
  have hr8 := I.1.2.2.1.2
  refine Xv_mk (L := [some (.ref B), none]) (by decide) rfl (Nat.le_of_ble_eq_true rfl) rfl (fun x C => ?_)
  refine y_aload_n C dX7_moveByRules_0 rfl ?_
  refine y_callVi C (e_X7_firstRule hB _ _ hR I) dX7_moveByRules_1 rfl gX7_moveByRules_X7_firstRule rfl (is_X7 hB) ⟨rfl, qX7_firstRule⟩ ⟨rfl, rfl⟩ ⟨Nat.le_of_ble_eq_true rfl, Nat.le_of_ble_eq_true rfl⟩ rfl (Nat.le_of_ble_eq_true rfl) ⟨Nat.zero_le _, Nat.zero_le _⟩ (fun v1 σ1 τ1 hq => ?_)
  obtain ⟨rfl, rfl, rfl⟩ := hq
  refine y_istore_n C dX7_moveByRules_4 (L' := [_, _]) (Nat.lt_of_lt_of_le (by decide : (1 : Nat) < 2) (Nat.le_refl _)) rfl ?_
  refine y_aload_n C dX7_moveByRules_5 rfl ?_
  refine g_X7_rules C hB dX7_moveByRules_6 (by decide +kernel) (by decide +kernel) ?_
  refine y_iload_n C dX7_moveByRules_9 rfl ?_
  refine y_callVi C (e_X5_has hB _ _ hR _) dX7_moveByRules_10 rfl gX7_moveByRules_X5_has rfl (is_X5 hB) ⟨rfl, qX5_has⟩ ⟨rfl, rfl⟩ ⟨Nat.le_of_ble_eq_true rfl, Nat.le_of_ble_eq_true rfl⟩ rfl (Nat.le_of_ble_eq_true rfl) ⟨Nat.zero_le _, Nat.zero_le _⟩ (fun v1 σ1 τ1 hq => ?_)
  obtain ⟨rfl, rfl, rfl⟩ := hq
  refine y_if_eq (t := 32) C dX7_moveByRules_13 (by decide) (fun kc13 => ?_) (fun kc13 => ?_)
  · -- t
    have hRt : Rel σ B (mTgt r) := by rw [mHas_no I kc13]; exact hR
    have hFt : Fr (wS B) σ σ := Fr.rf
    refine y_aload_n C dX7_moveByRules_32 rfl ?_
    refine g_X7_hearth C hB dX7_moveByRules_33 (by decide +kernel) (by decide +kernel) ?_
    refine y_callVi C (e_X2_moveDamper hB _ _ hRt) dX7_moveByRules_36 rfl gX7_moveByRules_X2_moveDamper rfl (is_X2 hB) ⟨rfl, qX2_moveDamper⟩ ⟨rfl, rfl⟩ ⟨Nat.le_of_ble_eq_true rfl, Nat.le_of_ble_eq_true rfl⟩ rfl (Nat.le_of_ble_eq_true rfl) ⟨Nat.zero_le _, Nat.zero_le _⟩ (fun v2 σ2 τ2 hq => ?_)
    obtain ⟨rfl, hR2, hF2, rfl⟩ := hq
    refine y_if_eq (t := 52) C dX7_moveByRules_39 (by decide) (fun kc39 => ?_) (fun kc39 => ?_)
    · -- t
      rw [ite10] at kc39
      rw [(mMove_no kc39).2] at hR2
      exact y_vret C rfl dX7_moveByRules_52 (⟨by first | (rw [mMove_yes kc39]; exact hR3) | (rw [(mMove_no kc39).1]; exact hR2), by first | exact (hFt.trans hF2).trans hF3 | exact hFt.trans hF2, rfl⟩)
    · -- f
      rw [ite10n] at kc39
      refine y_aload_n C dX7_moveByRules_42 rfl ?_
      refine g_X7_counts C hB dX7_moveByRules_43 (by decide +kernel) (by decide +kernel) ?_
      refine y_iconst (v := 1) C dX7_moveByRules_46 (by decide) ?_
      refine y_dup2 C dX7_moveByRules_47 rfl rfl ?_
      refine aR C hB hR2 14 26 1 6 rfl (lv_l (by decide) (by decide)) (by decide) rfl (by decide) rfl (by decide) dX7_moveByRules_48 ?_
      refine y_iconst (v := 1) C dX7_moveByRules_49 (by decide) ?_
      refine y_iadd C dX7_moveByRules_50 ?_
      refine wR C hB hR2 14 26 1 6 rfl (by decide) (by decide) (lv_upd (by decide) (by decide) (by decide)) (by decide) rfl (by decide) rfl (by decide) dX7_moveByRules_51 (fun σ3 hR3 hF3 => ?_)
      exact y_vret C rfl dX7_moveByRules_52 (⟨by first | (rw [mMove_yes kc39]; exact hR3) | (rw [(mMove_no kc39).1]; exact hR2), by first | exact (hFt.trans hF2).trans hF3 | exact hFt.trans hF2, rfl⟩)
  · -- f
    obtain ⟨i, hi, ei⟩ := mHas_yes I kc13
    refine y_aload_n C dX7_moveByRules_16 rfl ?_
    refine g_X7_hearth C hB dX7_moveByRules_17 (by decide +kernel) (by decide +kernel) ?_
    refine y_aload_n C dX7_moveByRules_20 rfl ?_
    refine g_X7_rules C hB dX7_moveByRules_21 (by decide +kernel) (by decide +kernel) ?_
    refine g_X5_opening C hB dX7_moveByRules_24 (by decide +kernel) (by decide +kernel) ?_
    refine y_iload_n C dX7_moveByRules_27 rfl ?_
    refine aR C hB hR (113 + 4 * i + 3) 20 i 8 (pl_r _ (by omega) _ (by decide)) (lv_r (by omega) (by decide) (inv_r I hi)) (by decide) rfl (by decide) ei (by omega) dX7_moveByRules_28 ?_
    refine pR_X2_target C hB hR dX7_moveByRules_29 (by decide +kernel) (by decide +kernel) (fun σ8 hR8 hF8 => ?_)
    rw [← mTgt_at (by omega) ei] at hR8
    have hRt := hR8
    have hFt := hF8
    refine y_aload_n C dX7_moveByRules_32 rfl ?_
    refine g_X7_hearth C hB dX7_moveByRules_33 (by decide +kernel) (by decide +kernel) ?_
    refine y_callVi C (e_X2_moveDamper hB _ _ hRt) dX7_moveByRules_36 rfl gX7_moveByRules_X2_moveDamper rfl (is_X2 hB) ⟨rfl, qX2_moveDamper⟩ ⟨rfl, rfl⟩ ⟨Nat.le_of_ble_eq_true rfl, Nat.le_of_ble_eq_true rfl⟩ rfl (Nat.le_of_ble_eq_true rfl) ⟨Nat.zero_le _, Nat.zero_le _⟩ (fun v2 σ2 τ2 hq => ?_)
    obtain ⟨rfl, hR2, hF2, rfl⟩ := hq
    refine y_if_eq (t := 52) C dX7_moveByRules_39 (by decide) (fun kc39 => ?_) (fun kc39 => ?_)
    · -- t
      rw [ite10] at kc39
      rw [(mMove_no kc39).2] at hR2
      exact y_vret C rfl dX7_moveByRules_52 (⟨by first | (rw [mMove_yes kc39]; exact hR3) | (rw [(mMove_no kc39).1]; exact hR2), by first | exact (hFt.trans hF2).trans hF3 | exact hFt.trans hF2, rfl⟩)
    · -- f
      rw [ite10n] at kc39
      refine y_aload_n C dX7_moveByRules_42 rfl ?_
      refine g_X7_counts C hB dX7_moveByRules_43 (by decide +kernel) (by decide +kernel) ?_
      refine y_iconst (v := 1) C dX7_moveByRules_46 (by decide) ?_
      refine y_dup2 C dX7_moveByRules_47 rfl rfl ?_
      refine aR C hB hR2 14 26 1 6 rfl (lv_l (by decide) (by decide)) (by decide) rfl (by decide) rfl (by decide) dX7_moveByRules_48 ?_
      refine y_iconst (v := 1) C dX7_moveByRules_49 (by decide) ?_
      refine y_iadd C dX7_moveByRules_50 ?_
      refine wR C hB hR2 14 26 1 6 rfl (by decide) (by decide) (lv_upd (by decide) (by decide) (by decide)) (by decide) rfl (by decide) rfl (by decide) dX7_moveByRules_51 (fun σ3 hR3 hF3 => ?_)
      exact y_vret C rfl dX7_moveByRules_52 (⟨by first | (rw [mMove_yes kc39]; exact hR3) | (rw [(mMove_no kc39).1]; exact hR2), by first | exact (hFt.trans hF2).trans hF3 | exact hFt.trans hF2, rfl⟩)
set_option maxHeartbeats 4000000 in
set_option maxRecDepth 100000 in
theorem l_X7_letMinutePass {x : xC} (C : Cx x mX7_letMinutePass) {B : Nat} (hB : isW B) {r : Rw} (σ : xS) (τ : xT) (hR : Rel σ B r) {R ns nr ne t tl : Nat} (I : Inv r R ns nr ne t tl) (s : Int32) {Z : State → Prop} (kx : ∀ (σ1 : xS), Rel σ1 B (mW1 r ns) → Fr (wS B) σ σ1 → Y x 83 [some (.ref B), some (.int s), some (.int (nI ns))] [] σ1 τ 0 0 Z) : ∀ n k : Nat, k + n = ns → ∀ (σ1 : xS), Rel σ1 B (mW1 r k) → Fr (wS B) σ σ1 → Y x 53 [some (.ref B), some (.int s), some (.int (nI k))] [] σ1 τ 0 0 Z := by
  intro n
  induction n with
  | zero =>
    intro k hk
    intro σ1 hR1 hF1
    have hs8 := I.1.2.1.2
    have IW := I.w1 k (by omega)
    refine y_iload_n C dX7_letMinutePass_53 rfl ?_
    refine y_aload_n C dX7_letMinutePass_54 rfl ?_
    refine g_X7_sensors C hB dX7_letMinutePass_55 (by decide +kernel) (by decide +kernel) ?_
    refine gR_X6_count C hB hR1 dX7_letMinutePass_58 (by decide +kernel) (by decide +kernel) ?_
    refine y_topE (nI ns) IW.1.2.1.1 ?_
    refine y_icmp_ge (t := 83) C dX7_letMinutePass_61 (by decide) (fun c61 => ?_) (fun c61 => absurd (by rw [show k = ns by omega]; exact Int32.le_refl _) c61)
    obtain rfl : k = ns := by omega
    exact kx σ1 hR1 hF1
  | succ n ih =>
    intro k hk
    intro σ1 hR1 hF1
    have hs8 := I.1.2.1.2
    have IW := I.w1 k (by omega)
    refine y_iload_n C dX7_letMinutePass_53 rfl ?_
    refine y_aload_n C dX7_letMinutePass_54 rfl ?_
    refine g_X7_sensors C hB dX7_letMinutePass_55 (by decide +kernel) (by decide +kernel) ?_
    refine gR_X6_count C hB hR1 dX7_letMinutePass_58 (by decide +kernel) (by decide +kernel) ?_
    refine y_topE (nI ns) IW.1.2.1.1 ?_
    refine y_icmp_ge (t := 83) C dX7_letMinutePass_61 (by decide) (fun c61 => absurd c61 (nI_ge (by omega) (by omega))) (fun c61 => ?_)
    refine y_aload_n C dX7_letMinutePass_64 rfl ?_
    refine g_X7_sensors C hB dX7_letMinutePass_65 (by decide +kernel) (by decide +kernel) ?_
    refine y_iload_n C dX7_letMinutePass_68 rfl ?_
    refine y_aload_n C dX7_letMinutePass_69 rfl ?_
    refine y_iload_n C dX7_letMinutePass_70 rfl ?_
    refine y_callVi C (e_X7_isExcited hB _ _ hR1 IW k (by omega)) dX7_letMinutePass_71 rfl gX7_letMinutePass_X7_isExcited rfl (is_X7 hB) ⟨rfl, qX7_isExcited⟩ ⟨rfl, rfl⟩ ⟨Nat.le_of_ble_eq_true rfl, Nat.le_of_ble_eq_true rfl⟩ rfl (Nat.le_of_ble_eq_true rfl) ⟨Nat.zero_le _, Nat.zero_le _⟩ (fun v1 σ1 τ1 hq => ?_)
    obtain ⟨rfl, rfl, rfl⟩ := hq
    refine y_callVv C (e_X6_countMinute hB _ _ hR1 IW k (by omega) _) dX7_letMinutePass_74 rfl gX7_letMinutePass_X6_countMinute rfl (is_X6 hB) ⟨rfl, qX6_countMinute⟩ ⟨rfl, rfl⟩ ⟨Nat.le_of_ble_eq_true rfl, Nat.le_of_ble_eq_true rfl⟩ rfl (Nat.le_of_ble_eq_true rfl) ⟨Nat.zero_le _, Nat.zero_le _⟩ (fun σ2 τ2 hq => ?_)
    obtain ⟨hR2, hF2, rfl⟩ := hq
    refine y_iinc C dX7_letMinutePass_77 (L' := [_, _, _]) rfl (nI_1 k) rfl ?_
    refine y_goto (t := 53) C dX7_letMinutePass_80 (by decide) ?_
    exact ih (k + 1) (by omega) σ2 hR2 (hF1.trans hF2)
set_option maxHeartbeats 4000000 in
set_option maxRecDepth 100000 in
theorem e_X7_letMinutePass {B : Nat} (hB : isW B) {r : Rw} (σ : xS) (τ : xT) (hR : Rel σ B r) {R ns nr ne t : Nat} (I : Inv r R ns nr ne t (t + 1)) (hs : Sk r) (ht : t < 1000000) : Xi mX7_letMinutePass [.ref B] σ τ (fun v σ1 τ1 => v = mNew r ∧ Rel σ1 B (mMin r) ∧ Fr (wS B) σ σ1 ∧ τ = τ1) := by
  have I1 := I.tick ht
  have I2 := I.r1 ht
  have I3 := I2.b1
  have I4 := I.b hs ht
  have I5 := I.r2 hs ht
  have I6 := I5.w1 ns (Nat.le_refl _)
  have I7 := I6.ca
  refine Xi_mk (L := [some (.ref B), none, none]) (by decide) rfl (Nat.le_of_ble_eq_true rfl) rfl (fun x C => ?_)
  refine y_aload_n C dX7_letMinutePass_0 rfl ?_
  refine y_dup C dX7_letMinutePass_1 rfl ?_
  refine gR_X7_minute C hB hR dX7_letMinutePass_2 (by decide +kernel) (by decide +kernel) ?_
  refine y_iconst (v := 1) C dX7_letMinutePass_5 (by decide) ?_
  refine y_iadd C dX7_letMinutePass_6 ?_
  refine pR_X7_minute C hB hR dX7_letMinutePass_7 (by decide +kernel) (by decide +kernel) (fun σ1 hR1 hF1 => ?_)
  refine y_aload_n C dX7_letMinutePass_10 rfl ?_
  refine y_callVv C (e_X7_takeEvents hB _ _ hR1 I1) dX7_letMinutePass_11 rfl gX7_letMinutePass_X7_takeEvents rfl (is_X7 hB) ⟨rfl, qX7_takeEvents⟩ ⟨rfl, rfl⟩ ⟨Nat.le_of_ble_eq_true rfl, Nat.le_of_ble_eq_true rfl⟩ rfl (Nat.le_of_ble_eq_true rfl) ⟨Nat.zero_le _, Nat.zero_le _⟩ (fun σ2 τ2 hq => ?_)
  obtain ⟨hR2, hF2, rfl⟩ := hq
  have hR2 : Rel σ2 B (mR1 r) := hR2
  refine y_aload_n C dX7_letMinutePass_14 rfl ?_
  refine g_X7_hearth C hB dX7_letMinutePass_15 (by decide +kernel) (by decide +kernel) ?_
  refine y_callVi C (e_X2_strength hB _ _ hR2) dX7_letMinutePass_18 rfl gX7_letMinutePass_X2_strength rfl (is_X2 hB) ⟨rfl, qX2_strength⟩ ⟨rfl, rfl⟩ ⟨Nat.le_of_ble_eq_true rfl, Nat.le_of_ble_eq_true rfl⟩ rfl (Nat.le_of_ble_eq_true rfl) ⟨Nat.zero_le _, Nat.zero_le _⟩ (fun v1 σ1 τ1 hq => ?_)
  obtain ⟨rfl, rfl, rfl⟩ := hq
  refine y_istore_n C dX7_letMinutePass_21 (L' := [_, _, _]) (Nat.lt_of_lt_of_le (by decide : (1 : Nat) < 3) (Nat.le_refl _)) rfl ?_
  refine y_aload_n C dX7_letMinutePass_22 rfl ?_
  refine g_X7_hearth C hB dX7_letMinutePass_23 (by decide +kernel) (by decide +kernel) ?_
  refine y_iload_n C dX7_letMinutePass_26 rfl ?_
  refine y_callVv C (e_X2_burn hB _ _ hR2 I2) dX7_letMinutePass_27 rfl gX7_letMinutePass_X2_burn rfl (is_X2 hB) ⟨rfl, qX2_burn⟩ ⟨rfl, rfl⟩ ⟨Nat.le_of_ble_eq_true rfl, Nat.le_of_ble_eq_true rfl⟩ rfl (Nat.le_of_ble_eq_true rfl) ⟨Nat.zero_le _, Nat.zero_le _⟩ (fun σ3 τ3 hq => ?_)
  obtain ⟨hR3, hF3, rfl⟩ := hq
  refine y_aload_n C dX7_letMinutePass_30 rfl ?_
  refine y_iload_n C dX7_letMinutePass_31 rfl ?_
  refine y_callVv C (e_X7_letSmokeRise hB _ _ hR3 _) dX7_letMinutePass_32 rfl gX7_letMinutePass_X7_letSmokeRise rfl (is_X7 hB) ⟨rfl, qX7_letSmokeRise⟩ ⟨rfl, rfl⟩ ⟨Nat.le_of_ble_eq_true rfl, Nat.le_of_ble_eq_true rfl⟩ rfl (Nat.le_of_ble_eq_true rfl) ⟨Nat.zero_le _, Nat.zero_le _⟩ (fun σ4 τ4 hq => ?_)
  obtain ⟨hR4, hF4, rfl⟩ := hq
  refine y_aload_n C dX7_letMinutePass_35 rfl ?_
  refine g_X7_counts C hB dX7_letMinutePass_36 (by decide +kernel) (by decide +kernel) ?_
  refine y_iconst (v := 4) C dX7_letMinutePass_39 (by decide) ?_
  refine y_dup2 C dX7_letMinutePass_40 rfl rfl ?_
  refine aR C hB hR4 17 26 4 6 rfl (lv_l (by decide) (by decide)) (by decide) rfl (by decide) rfl (by decide) dX7_letMinutePass_41 ?_
  refine y_aload_n C dX7_letMinutePass_42 rfl ?_
  refine g_X7_house C hB dX7_letMinutePass_43 (by decide +kernel) (by decide +kernel) ?_
  refine y_callVi C (e_X3_spread hB _ _ hR4 I4) dX7_letMinutePass_46 rfl gX7_letMinutePass_X3_spread rfl (is_X3 hB) ⟨rfl, qX3_spread⟩ ⟨rfl, rfl⟩ ⟨Nat.le_of_ble_eq_true rfl, Nat.le_of_ble_eq_true rfl⟩ rfl (Nat.le_of_ble_eq_true rfl) ⟨Nat.zero_le _, Nat.zero_le _⟩ (fun v5 σ5 τ5 hq => ?_)
  obtain ⟨rfl, hR5, hF5, rfl⟩ := hq
  refine y_iadd C dX7_letMinutePass_49 ?_
  refine wR C hB hR5 17 26 4 6 rfl (by decide) (by decide) (lv_upd (by decide) (by decide) (by decide)) (by decide) rfl (by decide) rfl (by decide) dX7_letMinutePass_50 (fun σ6 hR6 hF6 => ?_)
  have hR6 : Rel σ6 B (mR2 r) := by
    unfold mR2 mSpread
    rw [inv_cR I4, mSpR_17]
    exact hR6
  refine y_iconst (v := 0) C dX7_letMinutePass_51 (by decide) ?_
  refine y_istore_n C dX7_letMinutePass_52 (L' := [_, _, _]) (Nat.lt_of_lt_of_le (by decide : (2 : Nat) < 3) (Nat.le_refl _)) rfl ?_
  refine l_X7_letMinutePass C hB _ _ hR6 I5 _ (fun σ7 hR7 hF7 => ?_) _ 0 (Nat.zero_add _) σ6 hR6 Fr.rf
  refine y_aload_n C dX7_letMinutePass_83 rfl ?_
  refine y_callVi C (e_X7_countAlarms hB _ _ hR7 I6) dX7_letMinutePass_84 rfl gX7_letMinutePass_X7_countAlarms rfl (is_X7 hB) ⟨rfl, qX7_countAlarms⟩ ⟨rfl, rfl⟩ ⟨Nat.le_of_ble_eq_true rfl, Nat.le_of_ble_eq_true rfl⟩ rfl (Nat.le_of_ble_eq_true rfl) ⟨Nat.zero_le _, Nat.zero_le _⟩ (fun v8 σ8 τ8 hq => ?_)
  obtain ⟨rfl, hR8, hF8, rfl⟩ := hq
  refine y_istore_n C dX7_letMinutePass_87 (L' := [_, _, _]) (Nat.lt_of_lt_of_le (by decide : (2 : Nat) < 3) (Nat.le_refl _)) rfl ?_
  refine y_aload_n C dX7_letMinutePass_88 rfl ?_
  refine y_callVv C (e_X7_moveByRules hB _ _ hR8 I7) dX7_letMinutePass_89 rfl gX7_letMinutePass_X7_moveByRules rfl (is_X7 hB) ⟨rfl, qX7_moveByRules⟩ ⟨rfl, rfl⟩ ⟨Nat.le_of_ble_eq_true rfl, Nat.le_of_ble_eq_true rfl⟩ rfl (Nat.le_of_ble_eq_true rfl) ⟨Nat.zero_le _, Nat.zero_le _⟩ (fun σ9 τ9 hq => ?_)
  obtain ⟨hR9, hF9, rfl⟩ := hq
  refine y_iload_n C dX7_letMinutePass_92 rfl ?_
  exact y_iret C rfl dX7_letMinutePass_93 (⟨(min_class I hs ht).2, by rw [← (min_class I hs ht).1]; exact hR9, (((((((hF1.trans hF2).trans hF3).trans hF4).trans hF5).trans hF6).trans hF7).trans hF8).trans hF9, rfl⟩)
set_option maxHeartbeats 4000000 in
set_option maxRecDepth 100000 in
theorem l_X9_watches1 {x : xC} (C : Cx x mX9_watches) (σ : xS) (τ : xT) {r : Rw} {R ns nr ne t tl : Nat} (I : Inv r R ns nr ne t tl) {Z : State → Prop} (kx : ∀ (σ1 : xS) (v2 : Option Value), σ1 166 = mW1 r ns → Fr (fun q => q = 166) σ σ1 → Y x 61 [some (.ref 165), some (.int (nI ns)), v2, none, none] [] σ1 τ 0 0 Z) : ∀ n k : Nat, k + n = ns → ∀ (σ1 : xS) (v2 : Option Value), σ1 166 = mW1 r k → Fr (fun q => q = 166) σ σ1 → Y x 2 [some (.ref 165), some (.int (nI k)), v2, none, none] [] σ1 τ 0 0 Z := by
  intro n
  induction n with
  | zero =>
    intro k hk
    intro σ1 v2 hM1 hF1
    have hs8 := I.1.2.1.2
    have IW := I.w1 k (by omega)
    refine y_iload_n C dX9_watches_2 rfl ?_
    refine y_aload_n C dX9_watches_3 rfl ?_
    refine g_X9_now C dX9_watches_4 (by decide +kernel) (by decide +kernel) ?_
    refine y_bipush (v := 10) C dX9_watches_7 (by decide) ?_
    refine mA C hM1 10 rfl (by decide) dX9_watches_9 ?_
    refine y_topE (nI ns) IW.1.2.1.1 ?_
    refine y_icmp_ge (t := 61) C dX9_watches_10 (by decide) (fun c10 => ?_) (fun c10 => absurd (by rw [show k = ns by omega]; exact Int32.le_refl _) c10)
    obtain rfl : k = ns := by omega
    exact kx σ1 v2 hM1 hF1
  | succ n ih =>
    intro k hk
    intro σ1 v2 hM1 hF1
    have hs8 := I.1.2.1.2
    have IW := I.w1 k (by omega)
    refine y_iload_n C dX9_watches_2 rfl ?_
    refine y_aload_n C dX9_watches_3 rfl ?_
    refine g_X9_now C dX9_watches_4 (by decide +kernel) (by decide +kernel) ?_
    refine y_bipush (v := 10) C dX9_watches_7 (by decide) ?_
    refine mA C hM1 10 rfl (by decide) dX9_watches_9 ?_
    refine y_topE (nI ns) IW.1.2.1.1 ?_
    refine y_icmp_ge (t := 61) C dX9_watches_10 (by decide) (fun c10 => absurd c10 (nI_ge (by omega) (by omega))) (fun c10 => ?_)
    refine y_bipush (v := 57) C dX9_watches_13 (by decide) ?_
    refine y_bipush (v := 7) C dX9_watches_15 (by decide) ?_
    refine y_iload_n C dX9_watches_17 rfl ?_
    refine y_imul C dX9_watches_18 ?_
    refine y_iadd C dX9_watches_19 ?_
    refine y_bipush (v := 6) C dX9_watches_20 (by decide) ?_
    refine y_iadd C dX9_watches_22 ?_
    refine y_topE (nI (57 + 7 * k + 6)) (by simp only [← nI_add, ← pk_mul]; rfl) ?_
    refine y_istore_n C dX9_watches_23 (L' := [_, _, _, _, _]) (Nat.lt_of_lt_of_le (by decide : (2 : Nat) < 5) (Nat.le_refl _)) rfl ?_
    refine y_aload_n C dX9_watches_24 rfl ?_
    refine g_X9_now C dX9_watches_25 (by decide +kernel) (by decide +kernel) ?_
    refine y_iload_n C dX9_watches_28 rfl ?_
    refine y_join (t := 54) (v := .int (if mExcI (mW1 r k) k = 0 then 0 else mLes 99 (mW1 r k (57 + 7 * k + 6) + 1))) ?_ (fun K29 => ?_)
    ·
      refine mW C hM1 (57 + 7 * k + 6) rfl (by omega) dX9_watches_54 (fun σ2 hM2 hF2 => ?_)
      refine y_iinc C dX9_watches_55 (L' := [_, _, _, _, _]) rfl (nI_1 k) rfl ?_
      refine y_goto (t := 2) C dX9_watches_58 (by decide) ?_
      exact ih (k + 1) (by omega) σ2 _ hM2 (hF1.trans hF2)
    ·
      refine y_aload_n C dX9_watches_29 rfl ?_
      refine y_iload_n C dX9_watches_30 rfl ?_
      refine y_callVi C (e_X9_isExcited _ _ hM1 IW k (by omega)) dX9_watches_31 rfl gX9_watches_X9_isExcited rfl (is_X9) ⟨rfl, qX9_isExcited⟩ ⟨rfl, rfl⟩ ⟨Nat.le_of_ble_eq_true rfl, Nat.le_of_ble_eq_true rfl⟩ rfl (Nat.le_of_ble_eq_true rfl) ⟨Nat.zero_le _, Nat.zero_le _⟩ (fun v1 σ1 τ1 hq => ?_)
      obtain ⟨rfl, rfl, rfl⟩ := hq
      refine y_if_eq (t := 53) C dX9_watches_34 (by decide) (fun kc34 => ?_) (fun kc34 => ?_)
      · -- t
        refine y_iconst (v := 0) C dX9_watches_53 (by decide) ?_
        exact y_kE K29 (by first | (rw [if_pos kc34]; done) | (rw [if_neg kc34]; done))
      · -- f
        refine y_bipush (v := 99) C dX9_watches_37 (by decide) ?_
        refine y_aload_n C dX9_watches_39 rfl ?_
        refine g_X9_now C dX9_watches_40 (by decide +kernel) (by decide +kernel) ?_
        refine y_iload_n C dX9_watches_43 rfl ?_
        refine mA C hM1 (57 + 7 * k + 6) rfl (by omega) dX9_watches_44 ?_
        refine y_iconst (v := 1) C dX9_watches_45 (by decide) ?_
        refine y_iadd C dX9_watches_46 ?_
        refine y_callSi C (e_X9_lesser _ _ _ _) dX9_watches_47 rfl gX9_watches_X9_lesser rfl qX9_lesser ⟨rfl, rfl⟩ ⟨Nat.le_of_ble_eq_true rfl, Nat.le_of_ble_eq_true rfl⟩ rfl (Nat.le_of_ble_eq_true rfl) ⟨Nat.zero_le _, Nat.zero_le _⟩ (fun v1 σ1 τ1 hq => ?_)
        obtain ⟨rfl, rfl, rfl⟩ := hq
        refine y_goto (t := 54) C dX9_watches_50 (by decide) ?_
        exact y_kE K29 (by first | (rw [if_pos kc34]; done) | (rw [if_neg kc34]; done))
set_option maxHeartbeats 4000000 in
set_option maxRecDepth 100000 in
theorem l_X9_watches2 {x : xC} (C : Cx x mX9_watches) (σ : xS) (τ : xT) {r : Rw} {R ns nr ne t tl : Nat} (I : Inv r R ns nr ne t tl) {Z : State → Prop} (kx : ∀ (σ1 : xS) (v3 v4 : Option Value), σ1 166 = mW2 r R → Fr (fun q => q = 166) σ σ1 → Y x 179 [some (.ref 165), some (.int (mSom r R)), some (.int (nI R)), v3, v4] [] σ1 τ 0 0 Z) : ∀ n k : Nat, k + n = R → ∀ (σ1 : xS) (v3 v4 : Option Value), σ1 166 = mW2 r k → Fr (fun q => q = 166) σ σ1 → Y x 65 [some (.ref 165), some (.int (mSom r k)), some (.int (nI k)), v3, v4] [] σ1 τ 0 0 Z := by
  intro n
  induction n with
  | zero =>
    intro k hk
    intro σ1 v3 v4 hM1 hF1
    have hR4 := I.1.1.2.2
    have IW := I.w2 k (by omega)
    refine y_iload_n C dX9_watches_65 rfl ?_
    refine y_aload_n C dX9_watches_66 rfl ?_
    refine g_X9_now C dX9_watches_67 (by decide +kernel) (by decide +kernel) ?_
    refine y_bipush (v := 6) C dX9_watches_70 (by decide) ?_
    refine mA C hM1 6 rfl (by decide) dX9_watches_72 ?_
    refine y_topE (nI R) IW.1.1.1 ?_
    refine y_icmp_ge (t := 179) C dX9_watches_73 (by decide) (fun c73 => ?_) (fun c73 => absurd (by rw [show k = R by omega]; exact Int32.le_refl _) c73)
    obtain rfl : k = R := by omega
    exact kx σ1 v3 v4 hM1 hF1
  | succ n ih =>
    intro k hk
    intro σ1 v3 v4 hM1 hF1
    have hR4 := I.1.1.2.2
    have IW := I.w2 k (by omega)
    refine y_iload_n C dX9_watches_65 rfl ?_
    refine y_aload_n C dX9_watches_66 rfl ?_
    refine g_X9_now C dX9_watches_67 (by decide +kernel) (by decide +kernel) ?_
    refine y_bipush (v := 6) C dX9_watches_70 (by decide) ?_
    refine mA C hM1 6 rfl (by decide) dX9_watches_72 ?_
    refine y_topE (nI R) IW.1.1.1 ?_
    refine y_icmp_ge (t := 179) C dX9_watches_73 (by decide) (fun c73 => absurd c73 (nI_ge (by omega) (by have := I.1.1.2.2; omega))) (fun c73 => ?_)
    refine y_aload_n C dX9_watches_76 rfl ?_
    refine y_iload_n C dX9_watches_77 rfl ?_
    refine y_callVi C (e_X9_isAgreed _ _ hM1 IW _) dX9_watches_78 rfl gX9_watches_X9_isAgreed rfl (is_X9) ⟨rfl, qX9_isAgreed⟩ ⟨rfl, rfl⟩ ⟨Nat.le_of_ble_eq_true rfl, Nat.le_of_ble_eq_true rfl⟩ rfl (Nat.le_of_ble_eq_true rfl) ⟨Nat.zero_le _, Nat.zero_le _⟩ (fun v1 σ1 τ1 hq => ?_)
    obtain ⟨rfl, rfl, rfl⟩ := hq
    refine y_istore_n C dX9_watches_81 (L' := [_, _, _, _, _]) (Nat.lt_of_lt_of_le (by decide : (3 : Nat) < 5) (Nat.le_refl _)) rfl ?_
    refine y_join (t := 95) (v := .int (mSom r (k + 1))) ?_ (fun K82 => ?_)
    ·
      refine y_istore_n C dX9_watches_95 (L' := [_, _, _, _, _]) (Nat.lt_of_lt_of_le (by decide : (1 : Nat) < 5) (Nat.le_refl _)) rfl ?_
      refine y_aload_n C dX9_watches_96 rfl ?_
      refine g_X9_now C dX9_watches_97 (by decide +kernel) (by decide +kernel) ?_
      refine y_bipush (v := 28) C dX9_watches_100 (by decide) ?_
      refine y_iload_n C dX9_watches_102 rfl ?_
      refine y_iadd C dX9_watches_103 ?_
      refine y_dup2 C dX9_watches_104 rfl rfl ?_
      refine mA C hM1 (28 + k) (by simp only [← nI_add, ← pk_mul]; rfl) (by omega) dX9_watches_105 ?_
      refine y_join (t := 123) (v := .int (if 0 < mW2 r k (28 + k) then 1 else 0)) ?_ (fun K106 => ?_)
      ·
        refine y_isub C dX9_watches_123 ?_
        refine mW C hM1 (28 + k) (by simp only [← nI_add, ← pk_mul]; rfl) (by omega) dX9_watches_124 (fun σ2 hM2 hF2 => ?_)
        refine y_aload_n C dX9_watches_125 rfl ?_
        refine g_X9_now C dX9_watches_126 (by decide +kernel) (by decide +kernel) ?_
        refine y_bipush (v := 24) C dX9_watches_129 (by decide) ?_
        refine y_iload_n C dX9_watches_131 rfl ?_
        refine y_iadd C dX9_watches_132 ?_
        refine mA C hM2 (24 + k) (by simp only [← nI_add, ← pk_mul]; rfl) (by omega) dX9_watches_133 ?_
        refine y_topE (mW2 r k (24 + k)) (upd_ne (by omega)) ?_
        refine y_istore C dX9_watches_134 (L' := [_, _, _, _, _]) (Nat.lt_of_lt_of_le (by decide : (4 : Nat) < 5) (Nat.le_refl _)) rfl ?_
        refine y_aload_n C dX9_watches_136 rfl ?_
        refine g_X9_now C dX9_watches_137 (by decide +kernel) (by decide +kernel) ?_
        refine y_bipush (v := 24) C dX9_watches_140 (by decide) ?_
        refine y_iload_n C dX9_watches_142 rfl ?_
        refine y_iadd C dX9_watches_143 ?_
        refine y_join (t := 172) (v := .int (if mAgrI (mW2 r k) (nI k) = 0 then (if 0 < mW2 r k (24 + k) then mW2 r k (24 + k) - 1 else 0) else mW2 r k 2 + 1)) ?_ (fun K144 => ?_)
        ·
          refine mW C hM2 (24 + k) (by simp only [← nI_add, ← pk_mul]; rfl) (by omega) dX9_watches_172 (fun σ3 hM3 hF3 => ?_)
          refine y_iinc C dX9_watches_173 (L' := [_, _, _, _, _]) rfl (nI_1 k) rfl ?_
          refine y_goto (t := 65) C dX9_watches_176 (by decide) ?_
          exact ih (k + 1) (by omega) σ3 _ _ hM3 ((hF1.trans hF2).trans hF3)
        ·
          refine y_iload_n C dX9_watches_144 rfl ?_
          refine y_if_eq (t := 159) C dX9_watches_145 (by decide) (fun kc145 => ?_) (fun kc145 => ?_)
          · -- t
            refine y_iload C dX9_watches_159 rfl ?_
            refine y_if_le (t := 171) C dX9_watches_161 (by decide) (fun kc161 => ?_) (fun kc161 => ?_)
            · -- t
              refine y_iconst (v := 0) C dX9_watches_171 (by decide) ?_
              exact y_kE K144 (by first | (rw [if_pos kc145, if_neg (Int32.not_lt.mpr kc161)]; done) | (rw [if_pos kc145, if_pos (Int32.not_le.mp kc161)]; done) | (rw [if_neg kc145]; done))
            · -- f
              refine y_iload C dX9_watches_164 rfl ?_
              refine y_iconst (v := 1) C dX9_watches_166 (by decide) ?_
              refine y_isub C dX9_watches_167 ?_
              refine y_goto (t := 172) C dX9_watches_168 (by decide) ?_
              exact y_kE K144 (by first | (rw [if_pos kc145, if_neg (Int32.not_lt.mpr kc161)]; done) | (rw [if_pos kc145, if_pos (Int32.not_le.mp kc161)]; done) | (rw [if_neg kc145]; done))
          · -- f
            refine y_aload_n C dX9_watches_148 rfl ?_
            refine g_X9_now C dX9_watches_149 (by decide +kernel) (by decide +kernel) ?_
            refine y_iconst (v := 2) C dX9_watches_152 (by decide) ?_
            refine mA C hM2 2 rfl (by decide) dX9_watches_153 ?_
            refine y_topE (mW2 r k 2) (upd_ne (by omega)) ?_
            refine y_iconst (v := 1) C dX9_watches_154 (by decide) ?_
            refine y_iadd C dX9_watches_155 ?_
            refine y_goto (t := 172) C dX9_watches_156 (by decide) ?_
            exact y_kE K144 (by first | (rw [if_pos kc145, if_neg (Int32.not_lt.mpr kc161)]; done) | (rw [if_pos kc145, if_pos (Int32.not_le.mp kc161)]; done) | (rw [if_neg kc145]; done))
      ·
        refine y_aload_n C dX9_watches_106 rfl ?_
        refine g_X9_now C dX9_watches_107 (by decide +kernel) (by decide +kernel) ?_
        refine y_bipush (v := 28) C dX9_watches_110 (by decide) ?_
        refine y_iload_n C dX9_watches_112 rfl ?_
        refine y_iadd C dX9_watches_113 ?_
        refine mA C hM1 (28 + k) (by simp only [← nI_add, ← pk_mul]; rfl) (by omega) dX9_watches_114 ?_
        refine y_if_le (t := 122) C dX9_watches_115 (by decide) (fun kc115 => ?_) (fun kc115 => ?_)
        · -- t
          refine y_iconst (v := 0) C dX9_watches_122 (by decide) ?_
          exact y_kE K106 (by first | (rw [if_neg (Int32.not_lt.mpr kc115)]; done) | (rw [if_pos (Int32.not_le.mp kc115)]; done))
        · -- f
          refine y_iconst (v := 1) C dX9_watches_118 (by decide) ?_
          refine y_goto (t := 123) C dX9_watches_119 (by decide) ?_
          exact y_kE K106 (by first | (rw [if_neg (Int32.not_lt.mpr kc115)]; done) | (rw [if_pos (Int32.not_le.mp kc115)]; done))
    ·
      refine y_iload_n C dX9_watches_82 rfl ?_
      refine y_if_ne (t := 90) C dX9_watches_83 (by decide) (fun kc83 => ?_) (fun kc83 => ?_)
      · -- t
        refine y_iconst (v := 1) C dX9_watches_90 (by decide) ?_
        refine y_goto (t := 95) C dX9_watches_91 (by decide) ?_
        exact y_kE K82 (by first | exact (mSom_a kc83).symm | exact (mSom_b kc83 kc87).symm | exact (mSom_c kc83 kc87).symm)
      · -- f
        refine y_iload_n C dX9_watches_86 rfl ?_
        refine y_if_eq (t := 94) C dX9_watches_87 (by decide) (fun kc87 => ?_) (fun kc87 => ?_)
        · -- t
          refine y_iconst (v := 0) C dX9_watches_94 (by decide) ?_
          exact y_kE K82 (by first | exact (mSom_a kc83).symm | exact (mSom_b kc83 kc87).symm | exact (mSom_c kc83 kc87).symm)
        · -- f
          refine y_iconst (v := 1) C dX9_watches_90 (by decide) ?_
          refine y_goto (t := 95) C dX9_watches_91 (by decide) ?_
          exact y_kE K82 (by first | exact (mSom_a kc83).symm | exact (mSom_b kc83 kc87).symm | exact (mSom_c kc83 kc87).symm)
set_option maxHeartbeats 4000000 in
set_option maxRecDepth 100000 in
theorem e_X9_watches (σ : xS) (τ : xT) {r : Rw} (hM : σ 166 = r) {R ns nr ne t tl : Nat} (I : Inv r R ns nr ne t tl) : Xv mX9_watches [.ref 165] σ τ (fun σ1 τ1 => σ1 166 = mWat r ∧ Fr (fun a => a = 166) σ σ1 ∧ τ = τ1) := by
  have I1 := I.w1 ns (Nat.le_refl _)
  refine Xv_mk (L := [some (.ref 165), none, none, none, none]) (by decide) rfl (Nat.le_of_ble_eq_true rfl) rfl (fun x C => ?_)
  refine y_iconst (v := 0) C dX9_watches_0 (by decide) ?_
  refine y_istore_n C dX9_watches_1 (L' := [_, _, _, _, _]) (Nat.lt_of_lt_of_le (by decide : (1 : Nat) < 5) (Nat.le_refl _)) rfl ?_
  refine l_X9_watches1 C σ τ I (fun σ1 v2 hM1 hF1 => ?_) _ 0 (Nat.zero_add _) σ _ hM Fr.rf
  refine y_iconst (v := 0) C dX9_watches_61 (by decide) ?_
  refine y_istore_n C dX9_watches_62 (L' := [_, _, _, _, _]) (Nat.lt_of_lt_of_le (by decide : (1 : Nat) < 5) (Nat.le_refl _)) rfl ?_
  refine y_iconst (v := 0) C dX9_watches_63 (by decide) ?_
  refine y_istore_n C dX9_watches_64 (L' := [_, _, _, _, _]) (Nat.lt_of_lt_of_le (by decide : (2 : Nat) < 5) (Nat.le_refl _)) rfl ?_
  refine l_X9_watches2 C σ1 τ I1 (fun σ2 v3 v4 hM2 hF2 => ?_) _ 0 (Nat.zero_add _) σ1 _ _ hM1 Fr.rf
  refine y_aload_n C dX9_watches_179 rfl ?_
  refine g_X9_now C dX9_watches_180 (by decide +kernel) (by decide +kernel) ?_
  refine y_bipush (v := 18) C dX9_watches_183 (by decide) ?_
  refine y_dup2 C dX9_watches_185 rfl rfl ?_
  refine mA C hM2 18 rfl (by decide) dX9_watches_186 ?_
  refine y_join (t := 196) (v := .int (if mSom (mW1 r ns) R = 0 then 0 else 1)) ?_ (fun K187 => ?_)
  ·
    refine y_iadd C dX9_watches_196 ?_
    refine mW C hM2 18 rfl (by decide) dX9_watches_197 (fun σ3 hM3 hF3 => ?_)
    exact y_vret C rfl dX9_watches_198 (⟨by rw [hM3]; unfold mWat mWt; rw [inv_cs I, inv_cR I], (hF1.trans hF2).trans hF3, rfl⟩)
  ·
    refine y_iload_n C dX9_watches_187 rfl ?_
    refine y_if_eq (t := 195) C dX9_watches_188 (by decide) (fun kc188 => ?_) (fun kc188 => ?_)
    · -- t
      refine y_iconst (v := 0) C dX9_watches_195 (by decide) ?_
      exact y_kE K187 (by first | (rw [if_pos kc188]; done) | (rw [if_neg kc188]; done))
    · -- f
      refine y_iconst (v := 1) C dX9_watches_191 (by decide) ?_
      refine y_goto (t := 196) C dX9_watches_192 (by decide) ?_
      exact y_kE K187 (by first | (rw [if_pos kc188]; done) | (rw [if_neg kc188]; done))
theorem mMv1_yes {r : Rw} (h : r 3 = 0 ∧ ¬ r 4 = r 9) : mMv1 r = upd r 4 (r 4 + (if r 4 < r 9 then 1 else -1)) := if_pos h
set_option maxHeartbeats 4000000 in
set_option maxRecDepth 100000 in
theorem e_X9_moves (σ : xS) (τ : xT) {r : Rw} (hM : σ 166 = r) {R ns nr ne t tl : Nat} (I : Inv r R ns nr ne t tl) : Xv mX9_moves [.ref 165] σ τ (fun σ1 τ1 => σ1 166 = mMove r ∧ Fr (fun a => a = 166) σ σ1 ∧ τ = τ1) := by
  have hr8 := I.1.2.2.1.2
  refine Xv_mk (L := [some (.ref 165), none]) (by decide) rfl (Nat.le_of_ble_eq_true rfl) rfl (fun x C => ?_)
  refine y_aload_n C dX9_moves_0 rfl ?_
  refine y_callVi C (e_X9_firstRule _ _ hM I) dX9_moves_1 rfl gX9_moves_X9_firstRule rfl (is_X9) ⟨rfl, qX9_firstRule⟩ ⟨rfl, rfl⟩ ⟨Nat.le_of_ble_eq_true rfl, Nat.le_of_ble_eq_true rfl⟩ rfl (Nat.le_of_ble_eq_true rfl) ⟨Nat.zero_le _, Nat.zero_le _⟩ (fun v1 σ1 τ1 hq => ?_)
  obtain ⟨rfl, rfl, rfl⟩ := hq
  refine y_istore_n C dX9_moves_4 (L' := [_, _]) (Nat.lt_of_lt_of_le (by decide : (1 : Nat) < 2) (Nat.le_refl _)) rfl ?_
  refine y_aload_n C dX9_moves_5 rfl ?_
  refine g_X9_now C dX9_moves_6 (by decide +kernel) (by decide +kernel) ?_
  refine y_bipush (v := 9) C dX9_moves_9 (by decide) ?_
  refine y_join (t := 39) (v := .int (mTgt r 9)) ?_ (fun K11 => ?_)
  ·
    refine mW C hM 9 rfl (by decide) dX9_moves_39 (fun σ1 hM1 hF1 => ?_)
    rw [mTgt_9] at hM1
    refine y_aload_n C dX9_moves_40 rfl ?_
    refine g_X9_now C dX9_moves_41 (by decide +kernel) (by decide +kernel) ?_
    refine y_iconst (v := 3) C dX9_moves_44 (by decide) ?_
    refine mA C hM1 3 rfl (by decide) dX9_moves_45 ?_
    refine y_if_ne (t := 106) C dX9_moves_46 (by decide) (fun kc46 => ?_) (fun kc46 => ?_)
    · -- t
      exact y_vret C rfl dX9_moves_106 (⟨by first | (rw [hM3, mMove_yes ⟨kc46, kc62⟩]; done) | (rw [hM1, (mMove_no (fun q => kc46 q.1)).1]; done) | (rw [hM1, (mMove_no (fun q => q.2 kc62)).1]; done), by first | exact (hF1.trans hF2).trans hF3 | exact hF1, rfl⟩)
    · -- f
      refine y_aload_n C dX9_moves_49 rfl ?_
      refine g_X9_now C dX9_moves_50 (by decide +kernel) (by decide +kernel) ?_
      refine y_iconst (v := 4) C dX9_moves_53 (by decide) ?_
      refine mA C hM1 4 rfl (by decide) dX9_moves_54 ?_
      refine y_aload_n C dX9_moves_55 rfl ?_
      refine g_X9_now C dX9_moves_56 (by decide +kernel) (by decide +kernel) ?_
      refine y_bipush (v := 9) C dX9_moves_59 (by decide) ?_
      refine mA C hM1 9 rfl (by decide) dX9_moves_61 ?_
      refine y_icmp_eq (t := 106) C dX9_moves_62 (by decide) (fun kc62 => ?_) (fun kc62 => ?_)
      · -- t
        exact y_vret C rfl dX9_moves_106 (⟨by first | (rw [hM3, mMove_yes ⟨kc46, kc62⟩]; done) | (rw [hM1, (mMove_no (fun q => kc46 q.1)).1]; done) | (rw [hM1, (mMove_no (fun q => q.2 kc62)).1]; done), by first | exact (hF1.trans hF2).trans hF3 | exact hF1, rfl⟩)
      · -- f
        refine y_aload_n C dX9_moves_65 rfl ?_
        refine g_X9_now C dX9_moves_66 (by decide +kernel) (by decide +kernel) ?_
        refine y_iconst (v := 4) C dX9_moves_69 (by decide) ?_
        refine y_dup2 C dX9_moves_70 rfl rfl ?_
        refine mA C hM1 4 rfl (by decide) dX9_moves_71 ?_
        refine y_join (t := 93) (v := .int (if mTgt r 4 < mTgt r 9 then 1 else -1)) ?_ (fun K72 => ?_)
        ·
          refine y_iadd C dX9_moves_93 ?_
          refine mW C hM1 4 rfl (by decide) dX9_moves_94 (fun σ2 hM2 hF2 => ?_)
          have hM2 : σ2 166 = mMv1 (mTgt r) := by rw [hM2, mMv1_yes ⟨kc46, kc62⟩]
          refine y_aload_n C dX9_moves_95 rfl ?_
          refine g_X9_now C dX9_moves_96 (by decide +kernel) (by decide +kernel) ?_
          refine y_bipush (v := 14) C dX9_moves_99 (by decide) ?_
          refine y_dup2 C dX9_moves_101 rfl rfl ?_
          refine mA C hM2 14 rfl (by decide) dX9_moves_102 ?_
          refine y_iconst (v := 1) C dX9_moves_103 (by decide) ?_
          refine y_iadd C dX9_moves_104 ?_
          refine mW C hM2 14 rfl (by decide) dX9_moves_105 (fun σ3 hM3 hF3 => ?_)
          exact y_vret C rfl dX9_moves_106 (⟨by first | (rw [hM3, mMove_yes ⟨kc46, kc62⟩]; done) | (rw [hM1, (mMove_no (fun q => kc46 q.1)).1]; done) | (rw [hM1, (mMove_no (fun q => q.2 kc62)).1]; done), by first | exact (hF1.trans hF2).trans hF3 | exact hF1, rfl⟩)
        ·
          refine y_aload_n C dX9_moves_72 rfl ?_
          refine g_X9_now C dX9_moves_73 (by decide +kernel) (by decide +kernel) ?_
          refine y_iconst (v := 4) C dX9_moves_76 (by decide) ?_
          refine mA C hM1 4 rfl (by decide) dX9_moves_77 ?_
          refine y_aload_n C dX9_moves_78 rfl ?_
          refine g_X9_now C dX9_moves_79 (by decide +kernel) (by decide +kernel) ?_
          refine y_bipush (v := 9) C dX9_moves_82 (by decide) ?_
          refine mA C hM1 9 rfl (by decide) dX9_moves_84 ?_
          refine y_icmp_ge (t := 92) C dX9_moves_85 (by decide) (fun kc85 => ?_) (fun kc85 => ?_)
          · -- t
            refine y_iconst (v := -1) C dX9_moves_92 (by decide) ?_
            exact y_kE K72 (by first | (rw [if_neg (Int32.not_lt.mpr kc85)]; done) | (rw [if_pos (Int32.not_le.mp kc85)]; done))
          · -- f
            refine y_iconst (v := 1) C dX9_moves_88 (by decide) ?_
            refine y_goto (t := 93) C dX9_moves_89 (by decide) ?_
            exact y_kE K72 (by first | (rw [if_neg (Int32.not_lt.mpr kc85)]; done) | (rw [if_pos (Int32.not_le.mp kc85)]; done))
  ·
    refine y_iload_n C dX9_moves_11 rfl ?_
    refine y_iconst (v := -1) C dX9_moves_12 (by decide) ?_
    refine y_icmp_ne (t := 26) C dX9_moves_13 (by decide) (fun kc13 => ?_) (fun kc13 => ?_)
    · -- t
      obtain ⟨i, hi, ei⟩ := (mFst_cases I).resolve_left kc13
      refine y_aload_n C dX9_moves_26 rfl ?_
      refine g_X9_now C dX9_moves_27 (by decide +kernel) (by decide +kernel) ?_
      refine y_bipush (v := 113) C dX9_moves_30 (by decide) ?_
      refine y_iconst (v := 4) C dX9_moves_32 (by decide) ?_
      refine y_iload_n C dX9_moves_33 rfl ?_
      refine y_imul C dX9_moves_34 ?_
      refine y_iadd C dX9_moves_35 ?_
      refine y_iconst (v := 3) C dX9_moves_36 (by decide) ?_
      refine y_iadd C dX9_moves_37 ?_
      refine mA C hM (113 + 4 * i + 3) (by rw [ei]; simp only [← nI_add, ← pk_mul]; rfl) (by omega) dX9_moves_38 ?_
      exact y_kE K11 (by first | (rw [mTgt_m1 kc13]; done) | (rw [mTgt_at (by omega) ei, upd_eq]; done))
    · -- f
      refine y_aload_n C dX9_moves_16 rfl ?_
      refine g_X9_now C dX9_moves_17 (by decide +kernel) (by decide +kernel) ?_
      refine y_bipush (v := 9) C dX9_moves_20 (by decide) ?_
      refine mA C hM 9 rfl (by decide) dX9_moves_22 ?_
      refine y_goto (t := 39) C dX9_moves_23 (by decide) ?_
      exact y_kE K11 (by first | (rw [mTgt_m1 kc13]; done) | (rw [mTgt_at (by omega) ei, upd_eq]; done))
set_option maxHeartbeats 4000000 in
set_option maxRecDepth 100000 in
theorem l_X9_alarms {x : xC} (C : Cx x mX9_alarms) (σ : xS) (τ : xT) {r : Rw} (hM : σ 166 = r) {R ns nr ne t tl : Nat} (I : Inv r R ns nr ne t tl) {Z : State → Prop} (kx : Y x 39 [some (.ref 165), some (.int (gAl (mAlaI r) R)), some (.int (nI R))] [] σ τ 0 0 Z) : ∀ n k : Nat, k + n = R → Y x 4 [some (.ref 165), some (.int (gAl (mAlaI r) k)), some (.int (nI k))] [] σ τ 0 0 Z := by
  intro n
  induction n with
  | zero =>
    intro k hk
    refine y_iload_n C dX9_alarms_4 rfl ?_
    refine y_aload_n C dX9_alarms_5 rfl ?_
    refine g_X9_now C dX9_alarms_6 (by decide +kernel) (by decide +kernel) ?_
    refine y_bipush (v := 6) C dX9_alarms_9 (by decide) ?_
    refine mA C hM 6 rfl (by decide) dX9_alarms_11 ?_
    refine y_topE (nI R) I.1.1.1 ?_
    refine y_icmp_ge (t := 39) C dX9_alarms_12 (by decide) (fun c12 => ?_) (fun c12 => absurd (by rw [show k = R by omega]; exact Int32.le_refl _) c12)
    obtain rfl : k = R := by omega
    exact kx
  | succ n ih =>
    intro k hk
    have hR4 := I.1.1.2.2
    refine y_iload_n C dX9_alarms_4 rfl ?_
    refine y_aload_n C dX9_alarms_5 rfl ?_
    refine g_X9_now C dX9_alarms_6 (by decide +kernel) (by decide +kernel) ?_
    refine y_bipush (v := 6) C dX9_alarms_9 (by decide) ?_
    refine mA C hM 6 rfl (by decide) dX9_alarms_11 ?_
    refine y_topE (nI R) I.1.1.1 ?_
    refine y_icmp_ge (t := 39) C dX9_alarms_12 (by decide) (fun c12 => absurd c12 (nI_ge (by omega) (by have := I.1.1.2.2; omega))) (fun c12 => ?_)
    refine y_iload_n C dX9_alarms_15 rfl ?_
    refine y_join (t := 31) (v := .int (if mAlaI r k = 0 then 0 else (1 : Int32) <<< (nI k &&& 31))) ?_ (fun K16 => ?_)
    ·
      refine y_ior C dX9_alarms_31 ?_
      refine y_istore_n C dX9_alarms_32 (L' := [_, _, _]) (Nat.lt_of_lt_of_le (by decide : (1 : Nat) < 3) (Nat.le_refl _)) rfl ?_
      refine y_iinc C dX9_alarms_33 (L' := [_, _, _]) rfl (nI_1 k) rfl ?_
      refine y_goto (t := 4) C dX9_alarms_36 (by decide) ?_
      exact ih (k + 1) (by omega)
    ·
      refine y_aload_n C dX9_alarms_16 rfl ?_
      refine y_iload_n C dX9_alarms_17 rfl ?_
      refine y_callVi C (e_X9_hasAlarm _ _ hM k (by omega)) dX9_alarms_18 rfl gX9_alarms_X9_hasAlarm rfl (is_X9) ⟨rfl, qX9_hasAlarm⟩ ⟨rfl, rfl⟩ ⟨Nat.le_of_ble_eq_true rfl, Nat.le_of_ble_eq_true rfl⟩ rfl (Nat.le_of_ble_eq_true rfl) ⟨Nat.zero_le _, Nat.zero_le _⟩ (fun v1 σ1 τ1 hq => ?_)
      obtain ⟨rfl, rfl, rfl⟩ := hq
      refine y_if_eq (t := 30) C dX9_alarms_21 (by decide) (fun kc21 => ?_) (fun kc21 => ?_)
      · -- t
        refine y_iconst (v := 0) C dX9_alarms_30 (by decide) ?_
        exact y_kE K16 (by first | (rw [if_pos kc21]; done) | (rw [if_neg kc21]; done))
      · -- f
        refine y_iconst (v := 1) C dX9_alarms_24 (by decide) ?_
        refine y_iload_n C dX9_alarms_25 rfl ?_
        refine y_ishl C dX9_alarms_26 ?_
        refine y_goto (t := 31) C dX9_alarms_27 (by decide) ?_
        exact y_kE K16 (by first | (rw [if_pos kc21]; done) | (rw [if_neg kc21]; done))
set_option maxHeartbeats 4000000 in
set_option maxRecDepth 100000 in
theorem e_X9_alarms (σ : xS) (τ : xT) {r : Rw} (hM : σ 166 = r) {R ns nr ne t tl : Nat} (I : Inv r R ns nr ne t tl) : Xi mX9_alarms [.ref 165] σ τ (fun o σ1 τ1 => o = (mAla r R) ∧ σ = σ1 ∧ τ = τ1) := by
  refine Xi_mk (L := [some (.ref 165), none, none]) (by decide) rfl (Nat.le_of_ble_eq_true rfl) rfl (fun x C => ?_)
  refine y_iconst (v := 0) C dX9_alarms_0 (by decide) ?_
  refine y_istore_n C dX9_alarms_1 (L' := [_, _, _]) (Nat.lt_of_lt_of_le (by decide : (1 : Nat) < 3) (Nat.le_refl _)) rfl ?_
  refine y_iconst (v := 0) C dX9_alarms_2 (by decide) ?_
  refine y_istore_n C dX9_alarms_3 (L' := [_, _, _]) (Nat.lt_of_lt_of_le (by decide : (2 : Nat) < 3) (Nat.le_refl _)) rfl ?_
  refine l_X9_alarms C σ τ hM I ?_ _ 0 (Nat.zero_add _)
  refine y_iload_n C dX9_alarms_39 rfl ?_
  exact y_iret C rfl dX9_alarms_40 (⟨rfl, rfl, rfl⟩)
set_option maxHeartbeats 4000000 in
set_option maxRecDepth 100000 in
theorem l_X9_minutes {x : xC} (C : Cx x mX9_minutes) (σ : xS) (τ : xT) (a s : Int32) {Z : State → Prop} (kx : Y x 71 [some (.ref 165), some (.int a), some (.int s), some (.int (mMny s 4)), some (.int (nI 4))] [] σ τ 0 0 Z) : ∀ n k : Nat, k + n = 4 → Y x 50 [some (.ref 165), some (.int a), some (.int s), some (.int (mMny s k)), some (.int (nI k))] [] σ τ 0 0 Z := by
  intro n
  induction n with
  | zero =>
    intro k hk
    refine y_iload C dX9_minutes_50 rfl ?_
    refine y_iconst (v := 4) C dX9_minutes_52 (by decide) ?_
    refine y_icmp_ge (t := 71) C dX9_minutes_53 (by decide) (fun c53 => ?_) (fun c53 => absurd (by rw [show k = 4 by omega]; exact Int32.le_refl _) c53)
    obtain rfl : k = 4 := by omega
    exact kx
  | succ n ih =>
    intro k hk
    refine y_iload C dX9_minutes_50 rfl ?_
    refine y_iconst (v := 4) C dX9_minutes_52 (by decide) ?_
    refine y_icmp_ge (t := 71) C dX9_minutes_53 (by decide) (fun c53 => absurd c53 (nI_ge (a := k) (b := 4) (by omega) (by decide))) (fun c53 => ?_)
    refine y_iload_n C dX9_minutes_56 rfl ?_
    refine y_iload_n C dX9_minutes_57 rfl ?_
    refine y_iload C dX9_minutes_58 rfl ?_
    refine y_ishr C dX9_minutes_60 ?_
    refine y_iconst (v := 1) C dX9_minutes_61 (by decide) ?_
    refine y_iand C dX9_minutes_62 ?_
    refine y_iadd C dX9_minutes_63 ?_
    refine y_istore_n C dX9_minutes_64 (L' := [_, _, _, _, _]) (Nat.lt_of_lt_of_le (by decide : (3 : Nat) < 5) (Nat.le_refl _)) rfl ?_
    refine y_iinc C dX9_minutes_65 (L' := [_, _, _, _, _]) rfl (nI_1 k) rfl ?_
    refine y_goto (t := 50) C dX9_minutes_68 (by decide) ?_
    exact ih (k + 1) (by omega)
set_option maxHeartbeats 4000000 in
set_option maxRecDepth 100000 in
theorem e_X9_minutes (σ : xS) (τ : xT) {r : Rw} (hM : σ 166 = r) {R ns nr ne t : Nat} (I : Inv r R ns nr ne t (t + 1)) (hs : Sk r) (ht : t < 1000000) : Xi mX9_minutes [.ref 165] σ τ (fun v σ1 τ1 => v = mNew r ∧ σ1 166 = mMin r ∧ Fr (fun q => q = 166 ∨ q = 169) σ σ1 ∧ τ = τ1) := by
  have I1 := I.tick ht
  have I2 := I.r1 ht
  have I4 := I.b hs ht
  have I5 := I.r2 hs ht
  have I6 := I5.wat
  have I7 := I6.move
  have hor : ∀ a, a = 166 → (fun q => q = 166 ∨ q = 169) a := fun a h => Or.inl h
  refine Xi_mk (L := [some (.ref 165), none, none, none, none]) (by decide) rfl (Nat.le_of_ble_eq_true rfl) rfl (fun x C => ?_)
  refine y_aload_n C dX9_minutes_0 rfl ?_
  refine y_callVi C (e_X9_alarms _ _ hM I) dX9_minutes_1 rfl gX9_minutes_X9_alarms rfl (is_X9) ⟨rfl, qX9_alarms⟩ ⟨rfl, rfl⟩ ⟨Nat.le_of_ble_eq_true rfl, Nat.le_of_ble_eq_true rfl⟩ rfl (Nat.le_of_ble_eq_true rfl) ⟨Nat.zero_le _, Nat.zero_le _⟩ (fun v1 σ1 τ1 hq => ?_)
  obtain ⟨rfl, rfl, rfl⟩ := hq
  refine y_istore_n C dX9_minutes_4 (L' := [_, _, _, _, _]) (Nat.lt_of_lt_of_le (by decide : (1 : Nat) < 5) (Nat.le_refl _)) rfl ?_
  refine y_aload_n C dX9_minutes_5 rfl ?_
  refine g_X9_now C dX9_minutes_6 (by decide +kernel) (by decide +kernel) ?_
  refine y_bipush (v := 7) C dX9_minutes_9 (by decide) ?_
  refine y_dup2 C dX9_minutes_11 rfl rfl ?_
  refine mA C hM 7 rfl (by decide) dX9_minutes_12 ?_
  refine y_iconst (v := 1) C dX9_minutes_13 (by decide) ?_
  refine y_iadd C dX9_minutes_14 ?_
  refine mW C hM 7 rfl (by decide) dX9_minutes_15 (fun σ1 hM1 hF1 => ?_)
  refine y_aload_n C dX9_minutes_16 rfl ?_
  refine y_callVv C (e_X9_comes _ _ hM1 I1) dX9_minutes_17 rfl gX9_minutes_X9_comes rfl (is_X9) ⟨rfl, qX9_comes⟩ ⟨rfl, rfl⟩ ⟨Nat.le_of_ble_eq_true rfl, Nat.le_of_ble_eq_true rfl⟩ rfl (Nat.le_of_ble_eq_true rfl) ⟨Nat.zero_le _, Nat.zero_le _⟩ (fun σ2 τ2 hq => ?_)
  obtain ⟨hM2, hF2, rfl⟩ := hq
  refine y_aload_n C dX9_minutes_20 rfl ?_
  refine y_callVv C (e_X9_burns _ _ hM2) dX9_minutes_21 rfl gX9_minutes_X9_burns rfl (is_X9) ⟨rfl, qX9_burns⟩ ⟨rfl, rfl⟩ ⟨Nat.le_of_ble_eq_true rfl, Nat.le_of_ble_eq_true rfl⟩ rfl (Nat.le_of_ble_eq_true rfl) ⟨Nat.zero_le _, Nat.zero_le _⟩ (fun σ3 τ3 hq => ?_)
  obtain ⟨hM3, hF3, rfl⟩ := hq
  refine y_aload_n C dX9_minutes_24 rfl ?_
  refine y_callVv C (e_X9_spreads _ _ hM3 I4) dX9_minutes_25 rfl gX9_minutes_X9_spreads rfl (is_X9) ⟨rfl, qX9_spreads⟩ ⟨rfl, rfl⟩ ⟨Nat.le_of_ble_eq_true rfl, Nat.le_of_ble_eq_true rfl⟩ rfl (Nat.le_of_ble_eq_true rfl) ⟨Nat.zero_le _, Nat.zero_le _⟩ (fun σ4 τ4 hq => ?_)
  obtain ⟨hM4, hF4, rfl⟩ := hq
  refine y_aload_n C dX9_minutes_28 rfl ?_
  refine y_callVv C (e_X9_watches _ _ hM4 I5) dX9_minutes_29 rfl gX9_minutes_X9_watches rfl (is_X9) ⟨rfl, qX9_watches⟩ ⟨rfl, rfl⟩ ⟨Nat.le_of_ble_eq_true rfl, Nat.le_of_ble_eq_true rfl⟩ rfl (Nat.le_of_ble_eq_true rfl) ⟨Nat.zero_le _, Nat.zero_le _⟩ (fun σ5 τ5 hq => ?_)
  obtain ⟨hM5, hF5, rfl⟩ := hq
  refine y_aload_n C dX9_minutes_32 rfl ?_
  refine y_callVv C (e_X9_moves _ _ hM5 I6) dX9_minutes_33 rfl gX9_minutes_X9_moves rfl (is_X9) ⟨rfl, qX9_moves⟩ ⟨rfl, rfl⟩ ⟨Nat.le_of_ble_eq_true rfl, Nat.le_of_ble_eq_true rfl⟩ rfl (Nat.le_of_ble_eq_true rfl) ⟨Nat.zero_le _, Nat.zero_le _⟩ (fun σ6 τ6 hq => ?_)
  obtain ⟨hM6, hF6, rfl⟩ := hq
  have hM6 : σ6 166 = mMinI r := hM6
  refine y_aload_n C dX9_minutes_36 rfl ?_
  refine y_callVi C (e_X9_alarms _ _ hM6 I7) dX9_minutes_37 rfl gX9_minutes_X9_alarms rfl (is_X9) ⟨rfl, qX9_alarms⟩ ⟨rfl, rfl⟩ ⟨Nat.le_of_ble_eq_true rfl, Nat.le_of_ble_eq_true rfl⟩ rfl (Nat.le_of_ble_eq_true rfl) ⟨Nat.zero_le _, Nat.zero_le _⟩ (fun v1 σ1 τ1 hq => ?_)
  obtain ⟨rfl, rfl, rfl⟩ := hq
  refine y_iload_n C dX9_minutes_40 rfl ?_
  refine y_iconst (v := -1) C dX9_minutes_41 (by decide) ?_
  refine y_ixor C dX9_minutes_42 ?_
  refine y_iand C dX9_minutes_43 ?_
  refine y_istore_n C dX9_minutes_44 (L' := [_, _, _, _, _]) (Nat.lt_of_lt_of_le (by decide : (2 : Nat) < 5) (Nat.le_refl _)) rfl ?_
  refine y_iconst (v := 0) C dX9_minutes_45 (by decide) ?_
  refine y_istore_n C dX9_minutes_46 (L' := [_, _, _, _, _]) (Nat.lt_of_lt_of_le (by decide : (3 : Nat) < 5) (Nat.le_refl _)) rfl ?_
  refine y_iconst (v := 0) C dX9_minutes_47 (by decide) ?_
  refine y_istore C dX9_minutes_48 (L' := [_, _, _, _, _]) (Nat.lt_of_lt_of_le (by decide : (4 : Nat) < 5) (Nat.le_refl _)) rfl ?_
  refine l_X9_minutes C _ _ _ _ ?_ _ 0 (Nat.zero_add _)
  refine y_aload_n C dX9_minutes_71 rfl ?_
  refine g_X9_now C dX9_minutes_72 (by decide +kernel) (by decide +kernel) ?_
  refine y_bipush (v := 13) C dX9_minutes_75 (by decide) ?_
  refine y_dup2 C dX9_minutes_77 rfl rfl ?_
  refine mA C hM6 13 rfl (by decide) dX9_minutes_78 ?_
  refine y_iload_n C dX9_minutes_79 rfl ?_
  refine y_iadd C dX9_minutes_80 ?_
  refine mW C hM6 13 rfl (by decide) dX9_minutes_81 (fun σ7 hM7 hF7 => ?_)
  refine y_iload_n C dX9_minutes_82 rfl ?_
  exact y_iret C rfl dX9_minutes_83 (⟨min_model I hs ht, by rw [hM7, min_model I hs ht]; rfl, ((((((hF1.mono hor).trans (hF2.mono hor)).trans (hF3.mono hor)).trans hF4).trans (hF5.mono hor)).trans (hF6.mono hor)).trans (hF7.mono hor), rfl⟩)
