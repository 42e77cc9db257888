set_option maxHeartbeats 4000000 in
set_option maxRecDepth 100000 in
theorem e_X7_aboutAll {B : Nat} (hB : isW B) {r : Rw} (σ : xS) (τ : xT) (hR : Rel σ B r) {R ns nr ne t tl : Nat} (I : Inv r R ns nr ne t tl) (w : Nat) (hw : w < 15) : Xi mX7_aboutAll [.ref B, .int (nI w)] σ τ (fun o σ1 τ1 => o = (mNum r (nI w)) ∧ σ = σ1 ∧ τ = τ1) := by
  refine Xi_mk (L := [some (.ref B), some (.int (nI w))]) (by decide) rfl (Nat.le_of_ble_eq_true rfl) rfl (fun x C => ?_)
  refine y_iload_n C dX7_aboutAll_0 rfl ?_
  by_cases w1_0 : nI w = 0
  ·
    refine y_tableIn (t := 72) C dX7_aboutAll_1 (by rw [w1_0]; decide) (by rw [w1_0]; decide) (by first | (rw [w1_0]; done) | (rw [w1_0]; rfl)) (by decide) ?_
    refine y_aload_n C dX7_aboutAll_72 rfl ?_
    refine g_X7_hearth C hB dX7_aboutAll_73 (by decide +kernel) (by decide +kernel) ?_
    refine gR_X2_wind C hB hR dX7_aboutAll_76 (by decide +kernel) (by decide +kernel) ?_
    exact y_iret C rfl dX7_aboutAll_79 (⟨by rw [w1_0]; rfl, rfl, rfl⟩)
  by_cases w1_1 : nI w = 1
  ·
    refine y_tableIn (t := 80) C dX7_aboutAll_1 (by rw [w1_1]; decide) (by rw [w1_1]; decide) (by first | (rw [w1_1]; done) | (rw [w1_1]; rfl)) (by decide) ?_
    refine y_aload_n C dX7_aboutAll_80 rfl ?_
    refine g_X7_alarms C hB dX7_aboutAll_81 (by decide +kernel) (by decide +kernel) ?_
    refine gR_X0_quorum C hB hR dX7_aboutAll_84 (by decide +kernel) (by decide +kernel) ?_
    exact y_iret C rfl dX7_aboutAll_87 (⟨by rw [w1_1]; rfl, rfl, rfl⟩)
  by_cases w1_2 : nI w = 2
  ·
    refine y_tableIn (t := 88) C dX7_aboutAll_1 (by rw [w1_2]; decide) (by rw [w1_2]; decide) (by first | (rw [w1_2]; done) | (rw [w1_2]; rfl)) (by decide) ?_
    refine y_aload_n C dX7_aboutAll_88 rfl ?_
    refine g_X7_alarms C hB dX7_aboutAll_89 (by decide +kernel) (by decide +kernel) ?_
    refine gR_X0_hold C hB hR dX7_aboutAll_92 (by decide +kernel) (by decide +kernel) ?_
    exact y_iret C rfl dX7_aboutAll_95 (⟨by rw [w1_2]; rfl, rfl, rfl⟩)
  by_cases w1_3 : nI w = 3
  ·
    refine y_tableIn (t := 96) C dX7_aboutAll_1 (by rw [w1_3]; decide) (by rw [w1_3]; decide) (by first | (rw [w1_3]; done) | (rw [w1_3]; rfl)) (by decide) ?_
    refine y_aload_n C dX7_aboutAll_96 rfl ?_
    refine g_X7_hearth C hB dX7_aboutAll_97 (by decide +kernel) (by decide +kernel) ?_
    refine gR_X2_jammed C hB hR dX7_aboutAll_100 (by decide +kernel) (by decide +kernel) ?_
    refine y_if_eq (t := 110) C dX7_aboutAll_103 (by decide) (fun c103 => ?_) (fun c103 => ?_)
    · -- t
      refine y_iconst (v := 0) C dX7_aboutAll_110 (by decide) ?_
      exact y_iret C rfl dX7_aboutAll_111 (⟨by rw [w1_3]; show _ = r 3; rcases I.2.2.2.2.2.1.2.2.1 with q | q <;> simp_all, rfl, rfl⟩)
    · -- f
      refine y_iconst (v := 1) C dX7_aboutAll_106 (by decide) ?_
      refine y_goto (t := 111) C dX7_aboutAll_107 (by decide) ?_
      exact y_iret C rfl dX7_aboutAll_111 (⟨by rw [w1_3]; show _ = r 3; rcases I.2.2.2.2.2.1.2.2.1 with q | q <;> simp_all, rfl, rfl⟩)
  by_cases w1_4 : nI w = 4
  ·
    refine y_tableIn (t := 112) C dX7_aboutAll_1 (by rw [w1_4]; decide) (by rw [w1_4]; decide) (by first | (rw [w1_4]; done) | (rw [w1_4]; rfl)) (by decide) ?_
    refine y_aload_n C dX7_aboutAll_112 rfl ?_
    refine g_X7_hearth C hB dX7_aboutAll_113 (by decide +kernel) (by decide +kernel) ?_
    refine gR_X2_opening C hB hR dX7_aboutAll_116 (by decide +kernel) (by decide +kernel) ?_
    exact y_iret C rfl dX7_aboutAll_119 (⟨by rw [w1_4]; rfl, rfl, rfl⟩)
  by_cases w1_5 : nI w = 5
  ·
    refine y_tableIn (t := 120) C dX7_aboutAll_1 (by rw [w1_5]; decide) (by rw [w1_5]; decide) (by first | (rw [w1_5]; done) | (rw [w1_5]; rfl)) (by decide) ?_
    refine y_aload_n C dX7_aboutAll_120 rfl ?_
    refine g_X7_hearth C hB dX7_aboutAll_121 (by decide +kernel) (by decide +kernel) ?_
    refine gR_X2_warmth C hB hR dX7_aboutAll_124 (by decide +kernel) (by decide +kernel) ?_
    exact y_iret C rfl dX7_aboutAll_127 (⟨by rw [w1_5]; rfl, rfl, rfl⟩)
  by_cases w1_6 : nI w = 6
  ·
    refine y_tableIn (t := 128) C dX7_aboutAll_1 (by rw [w1_6]; decide) (by rw [w1_6]; decide) (by first | (rw [w1_6]; done) | (rw [w1_6]; rfl)) (by decide) ?_
    refine y_aload_n C dX7_aboutAll_128 rfl ?_
    refine g_X7_house C hB dX7_aboutAll_129 (by decide +kernel) (by decide +kernel) ?_
    refine gR_X3_rooms C hB hR dX7_aboutAll_132 (by decide +kernel) (by decide +kernel) ?_
    exact y_iret C rfl dX7_aboutAll_135 (⟨by rw [w1_6]; rfl, rfl, rfl⟩)
  by_cases w1_7 : nI w = 7
  ·
    refine y_tableIn (t := 136) C dX7_aboutAll_1 (by rw [w1_7]; decide) (by rw [w1_7]; decide) (by first | (rw [w1_7]; done) | (rw [w1_7]; rfl)) (by decide) ?_
    refine y_aload_n C dX7_aboutAll_136 rfl ?_
    refine gR_X7_minute C hB hR dX7_aboutAll_137 (by decide +kernel) (by decide +kernel) ?_
    exact y_iret C rfl dX7_aboutAll_140 (⟨by rw [w1_7]; rfl, rfl, rfl⟩)
  by_cases w1_8 : nI w = 8
  ·
    refine y_tableIn (t := 141) C dX7_aboutAll_1 (by rw [w1_8]; decide) (by rw [w1_8]; decide) (by first | (rw [w1_8]; done) | (rw [w1_8]; rfl)) (by decide) ?_
    refine y_aload_n C dX7_aboutAll_141 rfl ?_
    refine g_X7_hearth C hB dX7_aboutAll_142 (by decide +kernel) (by decide +kernel) ?_
    refine gR_X2_fuel C hB hR dX7_aboutAll_145 (by decide +kernel) (by decide +kernel) ?_
    exact y_iret C rfl dX7_aboutAll_148 (⟨by rw [w1_8]; rfl, rfl, rfl⟩)
  by_cases w1_9 : nI w = 9
  ·
    refine y_tableIn (t := 149) C dX7_aboutAll_1 (by rw [w1_9]; decide) (by rw [w1_9]; decide) (by first | (rw [w1_9]; done) | (rw [w1_9]; rfl)) (by decide) ?_
    refine y_aload_n C dX7_aboutAll_149 rfl ?_
    refine g_X7_hearth C hB dX7_aboutAll_150 (by decide +kernel) (by decide +kernel) ?_
    refine y_callVi C (e_X2_strength hB _ _ hR) dX7_aboutAll_153 rfl gX7_aboutAll_X2_strength rfl (is_X2 hB) ⟨rfl, qX2_strength⟩ ⟨rfl, rfl⟩ ⟨Nat.le_of_ble_eq_true rfl, Nat.le_of_ble_eq_true rfl⟩ rfl (Nat.le_of_ble_eq_true rfl) ⟨Nat.zero_le _, Nat.zero_le _⟩ (fun v1 σ1 τ1 hq => ?_)
    obtain ⟨rfl, rfl, rfl⟩ := hq
    exact y_iret C rfl dX7_aboutAll_156 (⟨by rw [w1_9]; rfl, rfl, rfl⟩)
  by_cases w1_10 : nI w = 10
  ·
    refine y_tableIn (t := 157) C dX7_aboutAll_1 (by rw [w1_10]; decide) (by rw [w1_10]; decide) (by first | (rw [w1_10]; done) | (rw [w1_10]; rfl)) (by decide) ?_
    refine y_aload_n C dX7_aboutAll_157 rfl ?_
    refine g_X7_hearth C hB dX7_aboutAll_158 (by decide +kernel) (by decide +kernel) ?_
    refine gR_X2_target C hB hR dX7_aboutAll_161 (by decide +kernel) (by decide +kernel) ?_
    exact y_iret C rfl dX7_aboutAll_164 (⟨by rw [w1_10]; rfl, rfl, rfl⟩)
  by_cases w1_11 : nI w = 11
  ·
    refine y_tableIn (t := 165) C dX7_aboutAll_1 (by rw [w1_11]; decide) (by rw [w1_11]; decide) (by first | (rw [w1_11]; done) | (rw [w1_11]; rfl)) (by decide) ?_
    refine y_aload_n C dX7_aboutAll_165 rfl ?_
    refine g_X7_hearth C hB dX7_aboutAll_166 (by decide +kernel) (by decide +kernel) ?_
    refine y_callVi C (e_X2_draft hB _ _ hR) dX7_aboutAll_169 rfl gX7_aboutAll_X2_draft rfl (is_X2 hB) ⟨rfl, qX2_draft⟩ ⟨rfl, rfl⟩ ⟨Nat.le_of_ble_eq_true rfl, Nat.le_of_ble_eq_true rfl⟩ rfl (Nat.le_of_ble_eq_true rfl) ⟨Nat.zero_le _, Nat.zero_le _⟩ (fun v1 σ1 τ1 hq => ?_)
    obtain ⟨rfl, rfl, rfl⟩ := hq
    exact y_iret C rfl dX7_aboutAll_172 (⟨by rw [w1_11]; rfl, rfl, rfl⟩)
  by_cases w1_12 : nI w = 12
  ·
    refine y_tableIn (t := 173) C dX7_aboutAll_1 (by rw [w1_12]; decide) (by rw [w1_12]; decide) (by first | (rw [w1_12]; done) | (rw [w1_12]; rfl)) (by decide) ?_
    refine y_aload_n C dX7_aboutAll_173 rfl ?_
    refine g_X7_sensors C hB dX7_aboutAll_174 (by decide +kernel) (by decide +kernel) ?_
    refine gR_X6_count C hB hR dX7_aboutAll_177 (by decide +kernel) (by decide +kernel) ?_
    exact y_iret C rfl dX7_aboutAll_180 (⟨by rw [w1_12]; rfl, rfl, rfl⟩)
  by_cases w1_13 : nI w = 13
  ·
    refine y_tableIn (t := 181) C dX7_aboutAll_1 (by rw [w1_13]; decide) (by rw [w1_13]; decide) (by first | (rw [w1_13]; done) | (rw [w1_13]; rfl)) (by decide) ?_
    refine y_aload_n C dX7_aboutAll_181 rfl ?_
    refine g_X7_rules C hB dX7_aboutAll_182 (by decide +kernel) (by decide +kernel) ?_
    refine gR_X5_count C hB hR dX7_aboutAll_185 (by decide +kernel) (by decide +kernel) ?_
    exact y_iret C rfl dX7_aboutAll_188 (⟨by rw [w1_13]; rfl, rfl, rfl⟩)
  refine y_tableOut (t := 189) C dX7_aboutAll_1 (by have q0 : ¬ (nI w).toInt = 0 := lv_neT w1_0 (by decide); have q1 : ¬ (nI w).toInt = 1 := lv_neT w1_1 (by decide); have q2 : ¬ (nI w).toInt = 2 := lv_neT w1_2 (by decide); have q3 : ¬ (nI w).toInt = 3 := lv_neT w1_3 (by decide); have q4 : ¬ (nI w).toInt = 4 := lv_neT w1_4 (by decide); have q5 : ¬ (nI w).toInt = 5 := lv_neT w1_5 (by decide); have q6 : ¬ (nI w).toInt = 6 := lv_neT w1_6 (by decide); have q7 : ¬ (nI w).toInt = 7 := lv_neT w1_7 (by decide); have q8 : ¬ (nI w).toInt = 8 := lv_neT w1_8 (by decide); have q9 : ¬ (nI w).toInt = 9 := lv_neT w1_9 (by decide); have q10 : ¬ (nI w).toInt = 10 := lv_neT w1_10 (by decide); have q11 : ¬ (nI w).toInt = 11 := lv_neT w1_11 (by decide); have q12 : ¬ (nI w).toInt = 12 := lv_neT w1_12 (by decide); have q13 : ¬ (nI w).toInt = 13 := lv_neT w1_13 (by decide); omega) (by decide) ?_
  refine y_aload_n C dX7_aboutAll_189 rfl ?_
  refine g_X7_events C hB dX7_aboutAll_190 (by decide +kernel) (by decide +kernel) ?_
  refine gR_X1_count C hB hR dX7_aboutAll_193 (by decide +kernel) (by decide +kernel) ?_
  exact y_iret C rfl dX7_aboutAll_196 (⟨by rw [num_14 w hw w1_0 w1_1 w1_2 w1_3 w1_4 w1_5 w1_6 w1_7 w1_8 w1_9 w1_10 w1_11 w1_12 w1_13]; rfl, rfl, rfl⟩)
set_option maxHeartbeats 4000000 in
set_option maxRecDepth 100000 in
theorem e_X7_aboutRoom {B : Nat} (hB : isW B) {r : Rw} (σ : xS) (τ : xT) (hR : Rel σ B r) {R ns nr ne t tl : Nat} (I : Inv r R ns nr ne t tl) (i w : Nat) (hi : i < R) (hw : w < 7) : Xi mX7_aboutRoom [.ref B, .int (nI i), .int (nI w)] σ τ (fun o σ1 τ1 => o = (mRooT r i (nI w)) ∧ σ = σ1 ∧ τ = τ1) := by
  have hR4 := I.1.1.2.2
  have hs8 := I.1.2.1.2
  have hr8 := I.1.2.2.1.2
  refine Xi_mk (L := [some (.ref B), some (.int (nI i)), some (.int (nI w))]) (by decide) rfl (Nat.le_of_ble_eq_true rfl) rfl (fun x C => ?_)
  refine y_iload_n C dX7_aboutRoom_0 rfl ?_
  by_cases w1_0 : nI w = 0
  ·
    refine y_tableIn (t := 40) C dX7_aboutRoom_1 (by rw [w1_0]; decide) (by rw [w1_0]; decide) (by first | (rw [w1_0]; done) | (rw [w1_0]; rfl)) (by decide) ?_
    refine y_aload_n C dX7_aboutRoom_40 rfl ?_
    refine g_X7_house C hB dX7_aboutRoom_41 (by decide +kernel) (by decide +kernel) ?_
    refine g_X3_smoke C hB dX7_aboutRoom_44 (by decide +kernel) (by decide +kernel) ?_
    refine y_iload_n C dX7_aboutRoom_47 rfl ?_
    refine aR C hB hR (20 + i) 2 i 4 (pl_lo20 _ (by omega)) (lv_l (by omega) (by omega)) (by decide) rfl (by decide) rfl (by omega) dX7_aboutRoom_48 ?_
    exact y_iret C rfl dX7_aboutRoom_49 (⟨by rw [w1_0]; rfl, rfl, rfl⟩)
  by_cases w1_1 : nI w = 1
  ·
    refine y_tableIn (t := 50) C dX7_aboutRoom_1 (by rw [w1_1]; decide) (by rw [w1_1]; decide) (by first | (rw [w1_1]; done) | (rw [w1_1]; rfl)) (by decide) ?_
    refine y_aload_n C dX7_aboutRoom_50 rfl ?_
    refine g_X7_alarms C hB dX7_aboutRoom_51 (by decide +kernel) (by decide +kernel) ?_
    refine g_X0_rest C hB dX7_aboutRoom_54 (by decide +kernel) (by decide +kernel) ?_
    refine y_iload_n C dX7_aboutRoom_57 rfl ?_
    refine aR C hB hR (24 + i) 14 i 4 (pl_lo24 _ (by omega)) (lv_l (by omega) (by omega)) (by decide) rfl (by decide) rfl (by omega) dX7_aboutRoom_58 ?_
    exact y_iret C rfl dX7_aboutRoom_59 (⟨by rw [w1_1]; rfl, rfl, rfl⟩)
  by_cases w1_2 : nI w = 2
  ·
    refine y_tableIn (t := 60) C dX7_aboutRoom_1 (by rw [w1_2]; decide) (by rw [w1_2]; decide) (by first | (rw [w1_2]; done) | (rw [w1_2]; rfl)) (by decide) ?_
    refine y_aload_n C dX7_aboutRoom_60 rfl ?_
    refine g_X7_alarms C hB dX7_aboutRoom_61 (by decide +kernel) (by decide +kernel) ?_
    refine g_X0_muting C hB dX7_aboutRoom_64 (by decide +kernel) (by decide +kernel) ?_
    refine y_iload_n C dX7_aboutRoom_67 rfl ?_
    refine aR C hB hR (28 + i) 15 i 4 (pl_lo28 _ (by omega)) (lv_l (by omega) (by omega)) (by decide) rfl (by decide) rfl (by omega) dX7_aboutRoom_68 ?_
    exact y_iret C rfl dX7_aboutRoom_69 (⟨by rw [w1_2]; rfl, rfl, rfl⟩)
  by_cases w1_3 : nI w = 3
  ·
    refine y_tableIn (t := 70) C dX7_aboutRoom_1 (by rw [w1_3]; decide) (by rw [w1_3]; decide) (by first | (rw [w1_3]; done) | (rw [w1_3]; rfl)) (by decide) ?_
    refine y_aload_n C dX7_aboutRoom_70 rfl ?_
    refine g_X7_alarms C hB dX7_aboutRoom_71 (by decide +kernel) (by decide +kernel) ?_
    refine y_iload_n C dX7_aboutRoom_74 rfl ?_
    refine y_callVi C (e_X0_soundsIn hB _ _ hR i (by omega)) dX7_aboutRoom_75 rfl gX7_aboutRoom_X0_soundsIn rfl (is_X0 hB) ⟨rfl, qX0_soundsIn⟩ ⟨rfl, rfl⟩ ⟨Nat.le_of_ble_eq_true rfl, Nat.le_of_ble_eq_true rfl⟩ rfl (Nat.le_of_ble_eq_true rfl) ⟨Nat.zero_le _, Nat.zero_le _⟩ (fun v1 σ1 τ1 hq => ?_)
    obtain ⟨rfl, rfl, rfl⟩ := hq
    refine y_if_eq (t := 85) C dX7_aboutRoom_78 (by decide) (fun c78 => ?_) (fun c78 => ?_)
    · -- t
      refine y_iconst (v := 0) C dX7_aboutRoom_85 (by decide) ?_
      exact y_iret C rfl dX7_aboutRoom_86 (⟨by rw [w1_3]; show _ = mAlaI r i; rcases mAlaI_01 r i with q | q <;> simp_all, rfl, rfl⟩)
    · -- f
      refine y_iconst (v := 1) C dX7_aboutRoom_81 (by decide) ?_
      refine y_goto (t := 86) C dX7_aboutRoom_82 (by decide) ?_
      exact y_iret C rfl dX7_aboutRoom_86 (⟨by rw [w1_3]; show _ = mAlaI r i; rcases mAlaI_01 r i with q | q <;> simp_all, rfl, rfl⟩)
  by_cases w1_4 : nI w = 4
  ·
    refine y_tableIn (t := 87) C dX7_aboutRoom_1 (by rw [w1_4]; decide) (by rw [w1_4]; decide) (by first | (rw [w1_4]; done) | (rw [w1_4]; rfl)) (by decide) ?_
    refine y_aload_n C dX7_aboutRoom_87 rfl ?_
    refine y_iload_n C dX7_aboutRoom_88 rfl ?_
    refine y_callVi C (e_X7_isAgreedOn hB _ _ hR I _) dX7_aboutRoom_89 rfl gX7_aboutRoom_X7_isAgreedOn rfl (is_X7 hB) ⟨rfl, qX7_isAgreedOn⟩ ⟨rfl, rfl⟩ ⟨Nat.le_of_ble_eq_true rfl, Nat.le_of_ble_eq_true rfl⟩ rfl (Nat.le_of_ble_eq_true rfl) ⟨Nat.zero_le _, Nat.zero_le _⟩ (fun v1 σ1 τ1 hq => ?_)
    obtain ⟨rfl, rfl, rfl⟩ := hq
    refine y_if_eq (t := 99) C dX7_aboutRoom_92 (by decide) (fun c92 => ?_) (fun c92 => ?_)
    · -- t
      refine y_iconst (v := 0) C dX7_aboutRoom_99 (by decide) ?_
      exact y_iret C rfl dX7_aboutRoom_100 (⟨by rw [w1_4]; show _ = mAgrI r (nI i); rcases mAgrI_01 r (nI i) with q | q <;> simp_all, rfl, rfl⟩)
    · -- f
      refine y_iconst (v := 1) C dX7_aboutRoom_95 (by decide) ?_
      refine y_goto (t := 100) C dX7_aboutRoom_96 (by decide) ?_
      exact y_iret C rfl dX7_aboutRoom_100 (⟨by rw [w1_4]; show _ = mAgrI r (nI i); rcases mAgrI_01 r (nI i) with q | q <;> simp_all, rfl, rfl⟩)
  by_cases w1_5 : nI w = 5
  ·
    refine y_tableIn (t := 101) C dX7_aboutRoom_1 (by rw [w1_5]; decide) (by rw [w1_5]; decide) (by first | (rw [w1_5]; done) | (rw [w1_5]; rfl)) (by decide) ?_
    refine y_aload_n C dX7_aboutRoom_101 rfl ?_
    refine g_X7_sensors C hB dX7_aboutRoom_102 (by decide +kernel) (by decide +kernel) ?_
    refine y_iload_n C dX7_aboutRoom_105 rfl ?_
    refine y_callVi C (e_X6_votersIn hB _ _ hR I _) dX7_aboutRoom_106 rfl gX7_aboutRoom_X6_votersIn rfl (is_X6 hB) ⟨rfl, qX6_votersIn⟩ ⟨rfl, rfl⟩ ⟨Nat.le_of_ble_eq_true rfl, Nat.le_of_ble_eq_true rfl⟩ rfl (Nat.le_of_ble_eq_true rfl) ⟨Nat.zero_le _, Nat.zero_le _⟩ (fun v1 σ1 τ1 hq => ?_)
    obtain ⟨rfl, rfl, rfl⟩ := hq
    exact y_iret C rfl dX7_aboutRoom_109 (⟨by rw [w1_5, ← inv_cs I]; rfl, rfl, rfl⟩)
  refine y_tableOut (t := 110) C dX7_aboutRoom_1 (by have q0 : ¬ (nI w).toInt = 0 := lv_neT w1_0 (by decide); have q1 : ¬ (nI w).toInt = 1 := lv_neT w1_1 (by decide); have q2 : ¬ (nI w).toInt = 2 := lv_neT w1_2 (by decide); have q3 : ¬ (nI w).toInt = 3 := lv_neT w1_3 (by decide); have q4 : ¬ (nI w).toInt = 4 := lv_neT w1_4 (by decide); have q5 : ¬ (nI w).toInt = 5 := lv_neT w1_5 (by decide); omega) (by decide) ?_
  refine y_aload_n C dX7_aboutRoom_110 rfl ?_
  refine g_X7_sensors C hB dX7_aboutRoom_111 (by decide +kernel) (by decide +kernel) ?_
  refine y_aload_n C dX7_aboutRoom_114 rfl ?_
  refine g_X7_sensors C hB dX7_aboutRoom_115 (by decide +kernel) (by decide +kernel) ?_
  refine y_iload_n C dX7_aboutRoom_118 rfl ?_
  refine y_callVi C (e_X6_votersIn hB _ _ hR I _) dX7_aboutRoom_119 rfl gX7_aboutRoom_X6_votersIn rfl (is_X6 hB) ⟨rfl, qX6_votersIn⟩ ⟨rfl, rfl⟩ ⟨Nat.le_of_ble_eq_true rfl, Nat.le_of_ble_eq_true rfl⟩ rfl (Nat.le_of_ble_eq_true rfl) ⟨Nat.zero_le _, Nat.zero_le _⟩ (fun v1 σ1 τ1 hq => ?_)
  obtain ⟨rfl, rfl, rfl⟩ := hq
  refine y_callVi C (e_X6_weightOf hB _ _ hR I _ (mVts_256 I _)) dX7_aboutRoom_122 rfl gX7_aboutRoom_X6_weightOf rfl (is_X6 hB) ⟨rfl, qX6_weightOf⟩ ⟨rfl, rfl⟩ ⟨Nat.le_of_ble_eq_true rfl, Nat.le_of_ble_eq_true rfl⟩ rfl (Nat.le_of_ble_eq_true rfl) ⟨Nat.zero_le _, Nat.zero_le _⟩ (fun v1 σ1 τ1 hq => ?_)
  obtain ⟨rfl, rfl, rfl⟩ := hq
  exact y_iret C rfl dX7_aboutRoom_125 (⟨by rw [num_6 w hw w1_0 w1_1 w1_2 w1_3 w1_4 w1_5, ← inv_cs I]; rfl, rfl, rfl⟩)
theorem num_7o : ∀ w, w < 9 → (¬ (7 : Int32) ≤ nI w ∨ nI w = 7 ∨ nI w = 8) := by decide +kernel
theorem num_7 (w : Nat) (h : w < 9) (h1 : (7 : Int32) ≤ nI w) (h2 : ¬ nI w = 7) : nI w = 8 := by
  rcases num_7o w h with e | e | e
  · exact absurd h1 e
  · exact absurd e h2
  · exact e
theorem num_lt7o : ∀ w, w < 9 → ((7 : Int32) ≤ nI w ∨ (w < 7 ∧ ¬ nI w = 7 ∧ ¬ nI w = 8)) := by decide +kernel
theorem num_lt7 (w : Nat) (h : w < 9) (h1 : ¬ (7 : Int32) ≤ nI w) : w < 7 ∧ ¬ nI w = 7 ∧ ¬ nI w = 8 := (num_lt7o w h).resolve_left h1
set_option maxHeartbeats 4000000 in
set_option maxRecDepth 100000 in
theorem e_X7_aboutSensor {B : Nat} (hB : isW B) {r : Rw} (σ : xS) (τ : xT) (hR : Rel σ B r) {R ns nr ne t tl : Nat} (I : Inv r R ns nr ne t tl) (i w : Nat) (hi : i < ns) (hw : w < 9) : Xi mX7_aboutSensor [.ref B, .int (nI i), .int (nI w)] σ τ (fun o σ1 τ1 => o = (mSenT r i (nI w)) ∧ σ = σ1 ∧ τ = τ1) := by
  have hR4 := I.1.1.2.2
  have hs8 := I.1.2.1.2
  have hr8 := I.1.2.2.1.2
  refine Xi_mk (L := [some (.ref B), some (.int (nI i)), some (.int (nI w))]) (by decide) rfl (Nat.le_of_ble_eq_true rfl) rfl (fun x C => ?_)
  refine y_iload_n C dX7_aboutSensor_0 rfl ?_
  by_cases w1_0 : nI w = 0
  ·
    refine y_tableIn (t := 48) C dX7_aboutSensor_1 (by rw [w1_0]; decide) (by rw [w1_0]; decide) (by first | (rw [w1_0]; done) | (rw [w1_0]; rfl)) (by decide) ?_
    refine y_aload_n C dX7_aboutSensor_48 rfl ?_
    refine g_X7_sensors C hB dX7_aboutSensor_49 (by decide +kernel) (by decide +kernel) ?_
    refine g_X6_room C hB dX7_aboutSensor_52 (by decide +kernel) (by decide +kernel) ?_
    refine y_iload_n C dX7_aboutSensor_55 rfl ?_
    refine aR C hB hR (57 + 7 * i + 0) 6 i 8 (pl_s _ (by have := I.1.2.1.2; omega) _ (by decide)) (lv_s (by have := I.1.2.1.2; omega) (by decide) (inv_s I hi)) (by decide) rfl (by decide) rfl (by have := I.1.2.1.2; omega) dX7_aboutSensor_56 ?_
    exact y_iret C rfl dX7_aboutSensor_57 (⟨by rw [w1_0]; rfl, rfl, rfl⟩)
  by_cases w1_1 : nI w = 1
  ·
    refine y_tableIn (t := 58) C dX7_aboutSensor_1 (by rw [w1_1]; decide) (by rw [w1_1]; decide) (by first | (rw [w1_1]; done) | (rw [w1_1]; rfl)) (by decide) ?_
    refine y_aload_n C dX7_aboutSensor_58 rfl ?_
    refine g_X7_sensors C hB dX7_aboutSensor_59 (by decide +kernel) (by decide +kernel) ?_
    refine g_X6_kind C hB dX7_aboutSensor_62 (by decide +kernel) (by decide +kernel) ?_
    refine y_iload_n C dX7_aboutSensor_65 rfl ?_
    refine aR C hB hR (57 + 7 * i + 1) 7 i 8 (pl_s _ (by have := I.1.2.1.2; omega) _ (by decide)) (lv_s (by have := I.1.2.1.2; omega) (by decide) (inv_s I hi)) (by decide) rfl (by decide) rfl (by have := I.1.2.1.2; omega) dX7_aboutSensor_66 ?_
    exact y_iret C rfl dX7_aboutSensor_67 (⟨by rw [w1_1]; rfl, rfl, rfl⟩)
  by_cases w1_2 : nI w = 2
  ·
    refine y_tableIn (t := 68) C dX7_aboutSensor_1 (by rw [w1_2]; decide) (by rw [w1_2]; decide) (by first | (rw [w1_2]; done) | (rw [w1_2]; rfl)) (by decide) ?_
    refine y_aload_n C dX7_aboutSensor_68 rfl ?_
    refine g_X7_sensors C hB dX7_aboutSensor_69 (by decide +kernel) (by decide +kernel) ?_
    refine g_X6_threshold C hB dX7_aboutSensor_72 (by decide +kernel) (by decide +kernel) ?_
    refine y_iload_n C dX7_aboutSensor_75 rfl ?_
    refine aR C hB hR (57 + 7 * i + 2) 8 i 8 (pl_s _ (by have := I.1.2.1.2; omega) _ (by decide)) (lv_s (by have := I.1.2.1.2; omega) (by decide) (inv_s I hi)) (by decide) rfl (by decide) rfl (by have := I.1.2.1.2; omega) dX7_aboutSensor_76 ?_
    exact y_iret C rfl dX7_aboutSensor_77 (⟨by rw [w1_2]; rfl, rfl, rfl⟩)
  by_cases w1_3 : nI w = 3
  ·
    refine y_tableIn (t := 78) C dX7_aboutSensor_1 (by rw [w1_3]; decide) (by rw [w1_3]; decide) (by first | (rw [w1_3]; done) | (rw [w1_3]; rfl)) (by decide) ?_
    refine y_aload_n C dX7_aboutSensor_78 rfl ?_
    refine g_X7_sensors C hB dX7_aboutSensor_79 (by decide +kernel) (by decide +kernel) ?_
    refine g_X6_delay C hB dX7_aboutSensor_82 (by decide +kernel) (by decide +kernel) ?_
    refine y_iload_n C dX7_aboutSensor_85 rfl ?_
    refine aR C hB hR (57 + 7 * i + 3) 9 i 8 (pl_s _ (by have := I.1.2.1.2; omega) _ (by decide)) (lv_s (by have := I.1.2.1.2; omega) (by decide) (inv_s I hi)) (by decide) rfl (by decide) rfl (by have := I.1.2.1.2; omega) dX7_aboutSensor_86 ?_
    exact y_iret C rfl dX7_aboutSensor_87 (⟨by rw [w1_3]; rfl, rfl, rfl⟩)
  by_cases w1_4 : nI w = 4
  ·
    refine y_tableIn (t := 88) C dX7_aboutSensor_1 (by rw [w1_4]; decide) (by rw [w1_4]; decide) (by first | (rw [w1_4]; done) | (rw [w1_4]; rfl)) (by decide) ?_
    refine y_aload_n C dX7_aboutSensor_88 rfl ?_
    refine g_X7_sensors C hB dX7_aboutSensor_89 (by decide +kernel) (by decide +kernel) ?_
    refine g_X6_weight C hB dX7_aboutSensor_92 (by decide +kernel) (by decide +kernel) ?_
    refine y_iload_n C dX7_aboutSensor_95 rfl ?_
    refine aR C hB hR (57 + 7 * i + 4) 10 i 8 (pl_s _ (by have := I.1.2.1.2; omega) _ (by decide)) (lv_s (by have := I.1.2.1.2; omega) (by decide) (inv_s I hi)) (by decide) rfl (by decide) rfl (by have := I.1.2.1.2; omega) dX7_aboutSensor_96 ?_
    exact y_iret C rfl dX7_aboutSensor_97 (⟨by rw [w1_4]; rfl, rfl, rfl⟩)
  by_cases w1_5 : nI w = 5
  ·
    refine y_tableIn (t := 98) C dX7_aboutSensor_1 (by rw [w1_5]; decide) (by rw [w1_5]; decide) (by first | (rw [w1_5]; done) | (rw [w1_5]; rfl)) (by decide) ?_
    refine y_aload_n C dX7_aboutSensor_98 rfl ?_
    refine g_X7_sensors C hB dX7_aboutSensor_99 (by decide +kernel) (by decide +kernel) ?_
    refine g_X6_fault C hB dX7_aboutSensor_102 (by decide +kernel) (by decide +kernel) ?_
    refine y_iload_n C dX7_aboutSensor_105 rfl ?_
    refine aR C hB hR (57 + 7 * i + 5) 11 i 8 (pl_s _ (by have := I.1.2.1.2; omega) _ (by decide)) (lv_s (by have := I.1.2.1.2; omega) (by decide) (inv_s I hi)) (by decide) rfl (by decide) rfl (by have := I.1.2.1.2; omega) dX7_aboutSensor_106 ?_
    exact y_iret C rfl dX7_aboutSensor_107 (⟨by rw [w1_5]; rfl, rfl, rfl⟩)
  by_cases w1_6 : nI w = 6
  ·
    refine y_tableIn (t := 108) C dX7_aboutSensor_1 (by rw [w1_6]; decide) (by rw [w1_6]; decide) (by first | (rw [w1_6]; done) | (rw [w1_6]; rfl)) (by decide) ?_
    refine y_aload_n C dX7_aboutSensor_108 rfl ?_
    refine g_X7_sensors C hB dX7_aboutSensor_109 (by decide +kernel) (by decide +kernel) ?_
    refine g_X6_excitedFor C hB dX7_aboutSensor_112 (by decide +kernel) (by decide +kernel) ?_
    refine y_iload_n C dX7_aboutSensor_115 rfl ?_
    refine aR C hB hR (57 + 7 * i + 6) 12 i 8 (pl_s _ (by have := I.1.2.1.2; omega) _ (by decide)) (lv_s (by have := I.1.2.1.2; omega) (by decide) (inv_s I hi)) (by decide) rfl (by decide) rfl (by have := I.1.2.1.2; omega) dX7_aboutSensor_116 ?_
    exact y_iret C rfl dX7_aboutSensor_117 (⟨by rw [w1_6]; rfl, rfl, rfl⟩)
  by_cases w1_7 : nI w = 7
  ·
    refine y_tableIn (t := 118) C dX7_aboutSensor_1 (by rw [w1_7]; decide) (by rw [w1_7]; decide) (by first | (rw [w1_7]; done) | (rw [w1_7]; rfl)) (by decide) ?_
    refine y_aload_n C dX7_aboutSensor_118 rfl ?_
    refine y_iload_n C dX7_aboutSensor_119 rfl ?_
    refine y_callVi C (e_X7_isExcited hB _ _ hR I i hi) dX7_aboutSensor_120 rfl gX7_aboutSensor_X7_isExcited rfl (is_X7 hB) ⟨rfl, qX7_isExcited⟩ ⟨rfl, rfl⟩ ⟨Nat.le_of_ble_eq_true rfl, Nat.le_of_ble_eq_true rfl⟩ rfl (Nat.le_of_ble_eq_true rfl) ⟨Nat.zero_le _, Nat.zero_le _⟩ (fun v1 σ1 τ1 hq => ?_)
    obtain ⟨rfl, rfl, rfl⟩ := hq
    refine y_if_eq (t := 130) C dX7_aboutSensor_123 (by decide) (fun c123 => ?_) (fun c123 => ?_)
    · -- t
      refine y_iconst (v := 0) C dX7_aboutSensor_130 (by decide) ?_
      exact y_iret C rfl dX7_aboutSensor_131 (⟨by rw [w1_7]; show _ = mExcI r i; rcases mExcI_01 r i with q | q <;> simp_all, rfl, rfl⟩)
    · -- f
      refine y_iconst (v := 1) C dX7_aboutSensor_126 (by decide) ?_
      refine y_goto (t := 131) C dX7_aboutSensor_127 (by decide) ?_
      exact y_iret C rfl dX7_aboutSensor_131 (⟨by rw [w1_7]; show _ = mExcI r i; rcases mExcI_01 r i with q | q <;> simp_all, rfl, rfl⟩)
  refine y_tableOut (t := 132) C dX7_aboutSensor_1 (by have q0 : ¬ (nI w).toInt = 0 := lv_neT w1_0 (by decide); have q1 : ¬ (nI w).toInt = 1 := lv_neT w1_1 (by decide); have q2 : ¬ (nI w).toInt = 2 := lv_neT w1_2 (by decide); have q3 : ¬ (nI w).toInt = 3 := lv_neT w1_3 (by decide); have q4 : ¬ (nI w).toInt = 4 := lv_neT w1_4 (by decide); have q5 : ¬ (nI w).toInt = 5 := lv_neT w1_5 (by decide); have q6 : ¬ (nI w).toInt = 6 := lv_neT w1_6 (by decide); have q7 : ¬ (nI w).toInt = 7 := lv_neT w1_7 (by decide); omega) (by decide) ?_
  refine y_aload_n C dX7_aboutSensor_132 rfl ?_
  refine g_X7_sensors C hB dX7_aboutSensor_133 (by decide +kernel) (by decide +kernel) ?_
  refine y_iload_n C dX7_aboutSensor_136 rfl ?_
  refine y_callVi C (e_X6_votes hB _ _ hR I i hi) dX7_aboutSensor_137 rfl gX7_aboutSensor_X6_votes rfl (is_X6 hB) ⟨rfl, qX6_votes⟩ ⟨rfl, rfl⟩ ⟨Nat.le_of_ble_eq_true rfl, Nat.le_of_ble_eq_true rfl⟩ rfl (Nat.le_of_ble_eq_true rfl) ⟨Nat.zero_le _, Nat.zero_le _⟩ (fun v1 σ1 τ1 hq => ?_)
  obtain ⟨rfl, rfl, rfl⟩ := hq
  refine y_if_eq (t := 147) C dX7_aboutSensor_140 (by decide) (fun c140 => ?_) (fun c140 => ?_)
  · -- t
    refine y_iconst (v := 0) C dX7_aboutSensor_147 (by decide) ?_
    exact y_iret C rfl dX7_aboutSensor_148 (⟨by rw [num_8 w hw w1_0 w1_1 w1_2 w1_3 w1_4 w1_5 w1_6 w1_7]; show _ = mVotI r i; rcases mVotI_01 r i with q | q <;> simp_all, rfl, rfl⟩)
  · -- f
    refine y_iconst (v := 1) C dX7_aboutSensor_143 (by decide) ?_
    refine y_goto (t := 148) C dX7_aboutSensor_144 (by decide) ?_
    exact y_iret C rfl dX7_aboutSensor_148 (⟨by rw [num_8 w hw w1_0 w1_1 w1_2 w1_3 w1_4 w1_5 w1_6 w1_7]; show _ = mVotI r i; rcases mVotI_01 r i with q | q <;> simp_all, rfl, rfl⟩)
theorem nI_inj4 (w : Nat) (h : w < 4) (v : Nat) (hv : v < 4) (e : nI w = nI v) : w = v := (nI_eq (by omega) (by omega)).mp e
set_option maxHeartbeats 4000000 in
set_option maxRecDepth 100000 in
theorem e_X1_about {B : Nat} (hB : isW B) {r : Rw} (σ : xS) (τ : xT) (hR : Rel σ B r) {R ns nr ne t tl : Nat} (I : Inv r R ns nr ne t tl) (i w : Nat) (hi : i < ne) (hw : w < 4) : Xi mX1_about [.ref (B + 21), .int (nI i), .int (nI w)] σ τ (fun o σ1 τ1 => o = (r (145 + 4 * i + w)) ∧ σ = σ1 ∧ τ = τ1) := by
  refine Xi_mk (L := [some (.ref (B + 21)), some (.int (nI i)), some (.int (nI w))]) (by decide) rfl (Nat.le_of_ble_eq_true rfl) rfl (fun x C => ?_)
  refine y_iload_n C dX1_about_0 rfl ?_
  by_cases w1_0 : nI w = 0
  ·
    refine y_tableIn (t := 28) C dX1_about_1 (by rw [w1_0]; decide) (by rw [w1_0]; decide) (by first | (rw [w1_0]; done) | (rw [w1_0]; rfl)) (by decide) ?_
    refine y_aload_n C dX1_about_28 rfl ?_
    refine g_X1_minute C hB dX1_about_29 (by decide +kernel) (by decide +kernel) ?_
    refine y_iload_n C dX1_about_32 rfl ?_
    refine aR C hB hR (145 + 4 * i + 0) 22 i 20 (pl_e _ (by have := I.1.2.2.2.1.2; omega) _ (by decide)) (lv_e (by have := I.1.2.2.2.1.2; omega) (by decide) (inv_e I hi)) (by decide) rfl (by decide) rfl (by have := I.1.2.2.2.1.2; omega) dX1_about_33 ?_
    exact y_iret C rfl dX1_about_34 (⟨by obtain rfl : w = 0 := by { have := w1_0; exact nI_inj4 w hw 0 (by decide) this }; rfl, rfl, rfl⟩)
  by_cases w1_1 : nI w = 1
  ·
    refine y_tableIn (t := 35) C dX1_about_1 (by rw [w1_1]; decide) (by rw [w1_1]; decide) (by first | (rw [w1_1]; done) | (rw [w1_1]; rfl)) (by decide) ?_
    refine y_aload_n C dX1_about_35 rfl ?_
    refine g_X1_kind C hB dX1_about_36 (by decide +kernel) (by decide +kernel) ?_
    refine y_iload_n C dX1_about_39 rfl ?_
    refine aR C hB hR (145 + 4 * i + 1) 23 i 20 (pl_e _ (by have := I.1.2.2.2.1.2; omega) _ (by decide)) (lv_e (by have := I.1.2.2.2.1.2; omega) (by decide) (inv_e I hi)) (by decide) rfl (by decide) rfl (by have := I.1.2.2.2.1.2; omega) dX1_about_40 ?_
    exact y_iret C rfl dX1_about_41 (⟨by obtain rfl : w = 1 := by { have := w1_1; exact nI_inj4 w hw 1 (by decide) this }; rfl, rfl, rfl⟩)
  by_cases w1_2 : nI w = 2
  ·
    refine y_tableIn (t := 42) C dX1_about_1 (by rw [w1_2]; decide) (by rw [w1_2]; decide) (by first | (rw [w1_2]; done) | (rw [w1_2]; rfl)) (by decide) ?_
    refine y_aload_n C dX1_about_42 rfl ?_
    refine g_X1_a C hB dX1_about_43 (by decide +kernel) (by decide +kernel) ?_
    refine y_iload_n C dX1_about_46 rfl ?_
    refine aR C hB hR (145 + 4 * i + 2) 24 i 20 (pl_e _ (by have := I.1.2.2.2.1.2; omega) _ (by decide)) (lv_e (by have := I.1.2.2.2.1.2; omega) (by decide) (inv_e I hi)) (by decide) rfl (by decide) rfl (by have := I.1.2.2.2.1.2; omega) dX1_about_47 ?_
    exact y_iret C rfl dX1_about_48 (⟨by obtain rfl : w = 2 := by { have := w1_2; exact nI_inj4 w hw 2 (by decide) this }; rfl, rfl, rfl⟩)
  refine y_tableOut (t := 49) C dX1_about_1 (by have q0 : ¬ (nI w).toInt = 0 := lv_neT w1_0 (by decide); have q1 : ¬ (nI w).toInt = 1 := lv_neT w1_1 (by decide); have q2 : ¬ (nI w).toInt = 2 := lv_neT w1_2 (by decide); omega) (by decide) ?_
  refine y_aload_n C dX1_about_49 rfl ?_
  refine g_X1_b C hB dX1_about_50 (by decide +kernel) (by decide +kernel) ?_
  refine y_iload_n C dX1_about_53 rfl ?_
  refine aR C hB hR (145 + 4 * i + 3) 25 i 20 (pl_e _ (by have := I.1.2.2.2.1.2; omega) _ (by decide)) (lv_e (by have := I.1.2.2.2.1.2; omega) (by decide) (inv_e I hi)) (by decide) rfl (by decide) rfl (by have := I.1.2.2.2.1.2; omega) dX1_about_54 ?_
  exact y_iret C rfl dX1_about_55 (⟨by obtain rfl : w = 3 := nI_inj4 w hw 3 (by decide) (num_3 w hw w1_0 w1_1 w1_2); rfl, rfl, rfl⟩)
theorem isRoom_eq {r : Rw} {R ns nr ne t tl : Nat} (I : Inv r R ns nr ne t tl) (u : Int32) : mWithI u 0 (r 6 - 1) = mRoomI r u := by
  simp only [mRoomI]
  rw [I.1.1.1]
  exact with_pred (by have := I.1.1.2.2; omega) u
set_option maxHeartbeats 4000000 in
set_option maxRecDepth 100000 in
theorem e_X8_isWithin (σ : xS) (τ : xT) (u v w : Int32) : Xi mX8_isWithin [.int u, .int v, .int w] σ τ (fun o σ1 τ1 => o = (mWithI u v w) ∧ σ = σ1 ∧ τ = τ1) := by
  refine Xi_mk (L := [some (.int u), some (.int v), some (.int w)]) (by decide) rfl (Nat.le_of_ble_eq_true rfl) rfl (fun x C => ?_)
  refine y_iload_n C dX8_isWithin_0 rfl ?_
  refine y_iload_n C dX8_isWithin_1 rfl ?_
  refine y_icmp_lt (t := 14) C dX8_isWithin_2 (by decide) (fun c2 => ?_) (fun c2 => ?_)
  · -- t
    refine y_iconst (v := 0) C dX8_isWithin_14 (by decide) ?_
    exact y_zret C rfl dX8_isWithin_15 (by first | exact Or.inl rfl | exact Or.inr rfl) (⟨by simp only [mWithI, Int32.lt_iff_toInt_lt, Int32.le_iff_toInt_le] at *; (repeat' split) <;> simp_all <;> omega, rfl, rfl⟩)
  · -- f
    refine y_iload_n C dX8_isWithin_5 rfl ?_
    refine y_iload_n C dX8_isWithin_6 rfl ?_
    refine y_icmp_gt (t := 14) C dX8_isWithin_7 (by decide) (fun c7 => ?_) (fun c7 => ?_)
    · -- t
      refine y_iconst (v := 0) C dX8_isWithin_14 (by decide) ?_
      exact y_zret C rfl dX8_isWithin_15 (by first | exact Or.inl rfl | exact Or.inr rfl) (⟨by simp only [mWithI, Int32.lt_iff_toInt_lt, Int32.le_iff_toInt_le] at *; (repeat' split) <;> simp_all <;> omega, rfl, rfl⟩)
    · -- f
      refine y_iconst (v := 1) C dX8_isWithin_10 (by decide) ?_
      refine y_goto (t := 15) C dX8_isWithin_11 (by decide) ?_
      exact y_zret C rfl dX8_isWithin_15 (by first | exact Or.inl rfl | exact Or.inr rfl) (⟨by simp only [mWithI, Int32.lt_iff_toInt_lt, Int32.le_iff_toInt_le] at *; (repeat' split) <;> simp_all <;> omega, rfl, rfl⟩)
set_option maxHeartbeats 4000000 in
set_option maxRecDepth 100000 in
theorem e_X7_allowsEvent {B : Nat} (hB : isW B) {r : Rw} (σ : xS) (τ : xT) (hR : Rel σ B r) (kd a b : Int32) : Xi mX7_allowsEvent [.ref B, .int kd, .int a, .int b] σ τ (fun o σ1 τ1 => o = (mEvtI r kd a b) ∧ σ = σ1 ∧ τ = τ1) := by
  refine Xi_mk (L := [some (.ref B), some (.int kd), some (.int a), some (.int b)]) (by decide) rfl (Nat.le_of_ble_eq_true rfl) rfl (fun x C => ?_)
  refine y_iload_n C dX7_allowsEvent_0 rfl ?_
  by_cases w1_0 : kd = 0
  ·
    refine y_tableIn (t := 36) C dX7_allowsEvent_1 (by rw [w1_0]; decide) (by rw [w1_0]; decide) (by first | (rw [w1_0]; done) | (rw [w1_0]; rfl)) (by decide) ?_
    refine y_aload_n C dX7_allowsEvent_36 rfl ?_
    refine g_X7_house C hB dX7_allowsEvent_37 (by decide +kernel) (by decide +kernel) ?_
    refine y_iload_n C dX7_allowsEvent_40 rfl ?_
    refine y_callVi C (e_X3_isRoom hB _ _ hR _) dX7_allowsEvent_41 rfl gX7_allowsEvent_X3_isRoom rfl (is_X3 hB) ⟨rfl, qX3_isRoom⟩ ⟨rfl, rfl⟩ ⟨Nat.le_of_ble_eq_true rfl, Nat.le_of_ble_eq_true rfl⟩ rfl (Nat.le_of_ble_eq_true rfl) ⟨Nat.zero_le _, Nat.zero_le _⟩ (fun v1 σ1 τ1 hq => ?_)
    obtain ⟨rfl, rfl, rfl⟩ := hq
    refine y_if_eq (t := 67) C dX7_allowsEvent_44 (by decide) (fun c44 => ?_) (fun c44 => ?_)
    · -- t
      refine y_iconst (v := 0) C dX7_allowsEvent_67 (by decide) ?_
      exact y_zret C rfl dX7_allowsEvent_68 (by first | exact Or.inl rfl | exact Or.inr rfl) (⟨by simp only [mEvtI]; rw [if_pos w1_0]; (try simp only [mWithI_ne, mWithI_eq0, mRoomI_ne, mRoomI_eq0, mPlacI_ne, mPlacI_eq0, mSensI_ne, mSensI_eq0] at *); first | (rw [if_pos (by simp_all)]; done) | (rw [if_neg (fun q => by first | exact absurd q.1 (by assumption) | exact absurd q.2 (by assumption) | exact absurd q.2.1 (by assumption) | exact absurd q.2.2 (by assumption) | exact q.2.2 (by assumption))]; done), rfl, rfl⟩)
    · -- f
      refine y_aload_n C dX7_allowsEvent_47 rfl ?_
      refine g_X7_house C hB dX7_allowsEvent_48 (by decide +kernel) (by decide +kernel) ?_
      refine y_iload_n C dX7_allowsEvent_51 rfl ?_
      refine y_callVi C (e_X3_isPlace hB _ _ hR _) dX7_allowsEvent_52 rfl gX7_allowsEvent_X3_isPlace rfl (is_X3 hB) ⟨rfl, qX3_isPlace⟩ ⟨rfl, rfl⟩ ⟨Nat.le_of_ble_eq_true rfl, Nat.le_of_ble_eq_true rfl⟩ rfl (Nat.le_of_ble_eq_true rfl) ⟨Nat.zero_le _, Nat.zero_le _⟩ (fun v1 σ1 τ1 hq => ?_)
      obtain ⟨rfl, rfl, rfl⟩ := hq
      refine y_if_eq (t := 67) C dX7_allowsEvent_55 (by decide) (fun c55 => ?_) (fun c55 => ?_)
      · -- t
        refine y_iconst (v := 0) C dX7_allowsEvent_67 (by decide) ?_
        exact y_zret C rfl dX7_allowsEvent_68 (by first | exact Or.inl rfl | exact Or.inr rfl) (⟨by simp only [mEvtI]; rw [if_pos w1_0]; (try simp only [mWithI_ne, mWithI_eq0, mRoomI_ne, mRoomI_eq0, mPlacI_ne, mPlacI_eq0, mSensI_ne, mSensI_eq0] at *); first | (rw [if_pos (by simp_all)]; done) | (rw [if_neg (fun q => by first | exact absurd q.1 (by assumption) | exact absurd q.2 (by assumption) | exact absurd q.2.1 (by assumption) | exact absurd q.2.2 (by assumption) | exact q.2.2 (by assumption))]; done), rfl, rfl⟩)
      · -- f
        refine y_iload_n C dX7_allowsEvent_58 rfl ?_
        refine y_iload_n C dX7_allowsEvent_59 rfl ?_
        refine y_icmp_eq (t := 67) C dX7_allowsEvent_60 (by decide) (fun c60 => ?_) (fun c60 => ?_)
        · -- t
          refine y_iconst (v := 0) C dX7_allowsEvent_67 (by decide) ?_
          exact y_zret C rfl dX7_allowsEvent_68 (by first | exact Or.inl rfl | exact Or.inr rfl) (⟨by simp only [mEvtI]; rw [if_pos w1_0]; (try simp only [mWithI_ne, mWithI_eq0, mRoomI_ne, mRoomI_eq0, mPlacI_ne, mPlacI_eq0, mSensI_ne, mSensI_eq0] at *); first | (rw [if_pos (by simp_all)]; done) | (rw [if_neg (fun q => by first | exact absurd q.1 (by assumption) | exact absurd q.2 (by assumption) | exact absurd q.2.1 (by assumption) | exact absurd q.2.2 (by assumption) | exact q.2.2 (by assumption))]; done), rfl, rfl⟩)
        · -- f
          refine y_iconst (v := 1) C dX7_allowsEvent_63 (by decide) ?_
          refine y_goto (t := 68) C dX7_allowsEvent_64 (by decide) ?_
          exact y_zret C rfl dX7_allowsEvent_68 (by first | exact Or.inl rfl | exact Or.inr rfl) (⟨by simp only [mEvtI]; rw [if_pos w1_0]; (try simp only [mWithI_ne, mWithI_eq0, mRoomI_ne, mRoomI_eq0, mPlacI_ne, mPlacI_eq0, mSensI_ne, mSensI_eq0] at *); first | (rw [if_pos (by simp_all)]; done) | (rw [if_neg (fun q => by first | exact absurd q.1 (by assumption) | exact absurd q.2 (by assumption) | exact absurd q.2.1 (by assumption) | exact absurd q.2.2 (by assumption) | exact q.2.2 (by assumption))]; done), rfl, rfl⟩)
  by_cases w1_1 : kd = 1
  ·
    refine y_tableIn (t := 69) C dX7_allowsEvent_1 (by rw [w1_1]; decide) (by rw [w1_1]; decide) (by first | (rw [w1_1]; done) | (rw [w1_1]; rfl)) (by decide) ?_
    refine y_iload_n C dX7_allowsEvent_69 rfl ?_
    refine y_iconst (v := 1) C dX7_allowsEvent_70 (by decide) ?_
    refine y_sipush (v := 200) C dX7_allowsEvent_71 (by decide) ?_
    refine y_callNi C (e_X8_isWithin _ _ _ _ _) dX7_allowsEvent_74 rfl gX7_allowsEvent_X8_isWithin_n208 rfl (by decide +kernel) (by decide +kernel) (by decide +kernel) qX8_isWithin ⟨rfl, rfl⟩ ⟨Nat.le_of_ble_eq_true rfl, Nat.le_of_ble_eq_true rfl⟩ rfl (Nat.le_of_ble_eq_true rfl) ⟨Nat.zero_le _, Nat.zero_le _⟩ (fun v1 σ1 τ1 hq => ?_)
    obtain ⟨rfl, rfl, rfl⟩ := hq
    refine y_if_eq (t := 88) C dX7_allowsEvent_77 (by decide) (fun c77 => ?_) (fun c77 => ?_)
    · -- t
      refine y_iconst (v := 0) C dX7_allowsEvent_88 (by decide) ?_
      exact y_zret C rfl dX7_allowsEvent_89 (by first | exact Or.inl rfl | exact Or.inr rfl) (⟨by simp only [mEvtI]; rw [if_neg w1_0, if_pos w1_1]; (try simp only [mWithI_ne, mWithI_eq0, mRoomI_ne, mRoomI_eq0, mPlacI_ne, mPlacI_eq0, mSensI_ne, mSensI_eq0] at *); first | (rw [if_pos (by simp_all)]; done) | (rw [if_neg (fun q => by first | exact absurd q.1 (by assumption) | exact absurd q.2 (by assumption) | exact absurd q.2.1 (by assumption) | exact absurd q.2.2 (by assumption) | exact q.2.2 (by assumption))]; done), rfl, rfl⟩)
    · -- f
      refine y_iload_n C dX7_allowsEvent_80 rfl ?_
      refine y_if_ne (t := 88) C dX7_allowsEvent_81 (by decide) (fun c81 => ?_) (fun c81 => ?_)
      · -- t
        refine y_iconst (v := 0) C dX7_allowsEvent_88 (by decide) ?_
        exact y_zret C rfl dX7_allowsEvent_89 (by first | exact Or.inl rfl | exact Or.inr rfl) (⟨by simp only [mEvtI]; rw [if_neg w1_0, if_pos w1_1]; (try simp only [mWithI_ne, mWithI_eq0, mRoomI_ne, mRoomI_eq0, mPlacI_ne, mPlacI_eq0, mSensI_ne, mSensI_eq0] at *); first | (rw [if_pos (by simp_all)]; done) | (rw [if_neg (fun q => by first | exact absurd q.1 (by assumption) | exact absurd q.2 (by assumption) | exact absurd q.2.1 (by assumption) | exact absurd q.2.2 (by assumption) | exact q.2.2 (by assumption))]; done), rfl, rfl⟩)
      · -- f
        refine y_iconst (v := 1) C dX7_allowsEvent_84 (by decide) ?_
        refine y_goto (t := 89) C dX7_allowsEvent_85 (by decide) ?_
        exact y_zret C rfl dX7_allowsEvent_89 (by first | exact Or.inl rfl | exact Or.inr rfl) (⟨by simp only [mEvtI]; rw [if_neg w1_0, if_pos w1_1]; (try simp only [mWithI_ne, mWithI_eq0, mRoomI_ne, mRoomI_eq0, mPlacI_ne, mPlacI_eq0, mSensI_ne, mSensI_eq0] at *); first | (rw [if_pos (by simp_all)]; done) | (rw [if_neg (fun q => by first | exact absurd q.1 (by assumption) | exact absurd q.2 (by assumption) | exact absurd q.2.1 (by assumption) | exact absurd q.2.2 (by assumption) | exact q.2.2 (by assumption))]; done), rfl, rfl⟩)
  by_cases w1_2 : kd = 2
  ·
    refine y_tableIn (t := 90) C dX7_allowsEvent_1 (by rw [w1_2]; decide) (by rw [w1_2]; decide) (by first | (rw [w1_2]; done) | (rw [w1_2]; rfl)) (by decide) ?_
    refine y_iload_n C dX7_allowsEvent_90 rfl ?_
    refine y_iconst (v := 0) C dX7_allowsEvent_91 (by decide) ?_
    refine y_bipush (v := 60) C dX7_allowsEvent_92 (by decide) ?_
    refine y_callNi C (e_X8_isWithin _ _ _ _ _) dX7_allowsEvent_94 rfl gX7_allowsEvent_X8_isWithin_n208 rfl (by decide +kernel) (by decide +kernel) (by decide +kernel) qX8_isWithin ⟨rfl, rfl⟩ ⟨Nat.le_of_ble_eq_true rfl, Nat.le_of_ble_eq_true rfl⟩ rfl (Nat.le_of_ble_eq_true rfl) ⟨Nat.zero_le _, Nat.zero_le _⟩ (fun v1 σ1 τ1 hq => ?_)
    obtain ⟨rfl, rfl, rfl⟩ := hq
    refine y_if_eq (t := 108) C dX7_allowsEvent_97 (by decide) (fun c97 => ?_) (fun c97 => ?_)
    · -- t
      refine y_iconst (v := 0) C dX7_allowsEvent_108 (by decide) ?_
      exact y_zret C rfl dX7_allowsEvent_109 (by first | exact Or.inl rfl | exact Or.inr rfl) (⟨by simp only [mEvtI]; rw [if_neg w1_0, if_neg w1_1, if_pos w1_2]; (try simp only [mWithI_ne, mWithI_eq0, mRoomI_ne, mRoomI_eq0, mPlacI_ne, mPlacI_eq0, mSensI_ne, mSensI_eq0] at *); first | (rw [if_pos (by simp_all)]; done) | (rw [if_neg (fun q => by first | exact absurd q.1 (by assumption) | exact absurd q.2 (by assumption) | exact absurd q.2.1 (by assumption) | exact absurd q.2.2 (by assumption) | exact q.2.2 (by assumption))]; done), rfl, rfl⟩)
    · -- f
      refine y_iload_n C dX7_allowsEvent_100 rfl ?_
      refine y_if_ne (t := 108) C dX7_allowsEvent_101 (by decide) (fun c101 => ?_) (fun c101 => ?_)
      · -- t
        refine y_iconst (v := 0) C dX7_allowsEvent_108 (by decide) ?_
        exact y_zret C rfl dX7_allowsEvent_109 (by first | exact Or.inl rfl | exact Or.inr rfl) (⟨by simp only [mEvtI]; rw [if_neg w1_0, if_neg w1_1, if_pos w1_2]; (try simp only [mWithI_ne, mWithI_eq0, mRoomI_ne, mRoomI_eq0, mPlacI_ne, mPlacI_eq0, mSensI_ne, mSensI_eq0] at *); first | (rw [if_pos (by simp_all)]; done) | (rw [if_neg (fun q => by first | exact absurd q.1 (by assumption) | exact absurd q.2 (by assumption) | exact absurd q.2.1 (by assumption) | exact absurd q.2.2 (by assumption) | exact q.2.2 (by assumption))]; done), rfl, rfl⟩)
      · -- f
        refine y_iconst (v := 1) C dX7_allowsEvent_104 (by decide) ?_
        refine y_goto (t := 109) C dX7_allowsEvent_105 (by decide) ?_
        exact y_zret C rfl dX7_allowsEvent_109 (by first | exact Or.inl rfl | exact Or.inr rfl) (⟨by simp only [mEvtI]; rw [if_neg w1_0, if_neg w1_1, if_pos w1_2]; (try simp only [mWithI_ne, mWithI_eq0, mRoomI_ne, mRoomI_eq0, mPlacI_ne, mPlacI_eq0, mSensI_ne, mSensI_eq0] at *); first | (rw [if_pos (by simp_all)]; done) | (rw [if_neg (fun q => by first | exact absurd q.1 (by assumption) | exact absurd q.2 (by assumption) | exact absurd q.2.1 (by assumption) | exact absurd q.2.2 (by assumption) | exact q.2.2 (by assumption))]; done), rfl, rfl⟩)
  by_cases w1_3 : kd = 3
  ·
    refine y_tableIn (t := 110) C dX7_allowsEvent_1 (by rw [w1_3]; decide) (by rw [w1_3]; decide) (by first | (rw [w1_3]; done) | (rw [w1_3]; rfl)) (by decide) ?_
    refine y_aload_n C dX7_allowsEvent_110 rfl ?_
    refine g_X7_sensors C hB dX7_allowsEvent_111 (by decide +kernel) (by decide +kernel) ?_
    refine y_iload_n C dX7_allowsEvent_114 rfl ?_
    refine y_callVi C (e_X6_has hB _ _ hR _) dX7_allowsEvent_115 rfl gX7_allowsEvent_X6_has rfl (is_X6 hB) ⟨rfl, qX6_has⟩ ⟨rfl, rfl⟩ ⟨Nat.le_of_ble_eq_true rfl, Nat.le_of_ble_eq_true rfl⟩ rfl (Nat.le_of_ble_eq_true rfl) ⟨Nat.zero_le _, Nat.zero_le _⟩ (fun v1 σ1 τ1 hq => ?_)
    obtain ⟨rfl, rfl, rfl⟩ := hq
    refine y_if_eq (t := 134) C dX7_allowsEvent_118 (by decide) (fun c118 => ?_) (fun c118 => ?_)
    · -- t
      refine y_iconst (v := 0) C dX7_allowsEvent_134 (by decide) ?_
      exact y_zret C rfl dX7_allowsEvent_135 (by first | exact Or.inl rfl | exact Or.inr rfl) (⟨by simp only [mEvtI]; rw [if_neg w1_0, if_neg w1_1, if_neg w1_2, if_pos w1_3]; (try simp only [mWithI_ne, mWithI_eq0, mRoomI_ne, mRoomI_eq0, mPlacI_ne, mPlacI_eq0, mSensI_ne, mSensI_eq0] at *); first | (rw [if_pos (by simp_all)]; done) | (rw [if_neg (fun q => by first | exact absurd q.1 (by assumption) | exact absurd q.2 (by assumption) | exact absurd q.2.1 (by assumption) | exact absurd q.2.2 (by assumption) | exact q.2.2 (by assumption))]; done), rfl, rfl⟩)
    · -- f
      refine y_iload_n C dX7_allowsEvent_121 rfl ?_
      refine y_iconst (v := 0) C dX7_allowsEvent_122 (by decide) ?_
      refine y_iconst (v := 2) C dX7_allowsEvent_123 (by decide) ?_
      refine y_callNi C (e_X8_isWithin _ _ _ _ _) dX7_allowsEvent_124 rfl gX7_allowsEvent_X8_isWithin_n208 rfl (by decide +kernel) (by decide +kernel) (by decide +kernel) qX8_isWithin ⟨rfl, rfl⟩ ⟨Nat.le_of_ble_eq_true rfl, Nat.le_of_ble_eq_true rfl⟩ rfl (Nat.le_of_ble_eq_true rfl) ⟨Nat.zero_le _, Nat.zero_le _⟩ (fun v1 σ1 τ1 hq => ?_)
      obtain ⟨rfl, rfl, rfl⟩ := hq
      refine y_if_eq (t := 134) C dX7_allowsEvent_127 (by decide) (fun c127 => ?_) (fun c127 => ?_)
      · -- t
        refine y_iconst (v := 0) C dX7_allowsEvent_134 (by decide) ?_
        exact y_zret C rfl dX7_allowsEvent_135 (by first | exact Or.inl rfl | exact Or.inr rfl) (⟨by simp only [mEvtI]; rw [if_neg w1_0, if_neg w1_1, if_neg w1_2, if_pos w1_3]; (try simp only [mWithI_ne, mWithI_eq0, mRoomI_ne, mRoomI_eq0, mPlacI_ne, mPlacI_eq0, mSensI_ne, mSensI_eq0] at *); first | (rw [if_pos (by simp_all)]; done) | (rw [if_neg (fun q => by first | exact absurd q.1 (by assumption) | exact absurd q.2 (by assumption) | exact absurd q.2.1 (by assumption) | exact absurd q.2.2 (by assumption) | exact q.2.2 (by assumption))]; done), rfl, rfl⟩)
      · -- f
        refine y_iconst (v := 1) C dX7_allowsEvent_130 (by decide) ?_
        refine y_goto (t := 135) C dX7_allowsEvent_131 (by decide) ?_
        exact y_zret C rfl dX7_allowsEvent_135 (by first | exact Or.inl rfl | exact Or.inr rfl) (⟨by simp only [mEvtI]; rw [if_neg w1_0, if_neg w1_1, if_neg w1_2, if_pos w1_3]; (try simp only [mWithI_ne, mWithI_eq0, mRoomI_ne, mRoomI_eq0, mPlacI_ne, mPlacI_eq0, mSensI_ne, mSensI_eq0] at *); first | (rw [if_pos (by simp_all)]; done) | (rw [if_neg (fun q => by first | exact absurd q.1 (by assumption) | exact absurd q.2 (by assumption) | exact absurd q.2.1 (by assumption) | exact absurd q.2.2 (by assumption) | exact q.2.2 (by assumption))]; done), rfl, rfl⟩)
  by_cases w1_4 : kd = 4
  ·
    refine y_tableIn (t := 136) C dX7_allowsEvent_1 (by rw [w1_4]; decide) (by rw [w1_4]; decide) (by first | (rw [w1_4]; done) | (rw [w1_4]; rfl)) (by decide) ?_
    refine y_iload_n C dX7_allowsEvent_136 rfl ?_
    refine y_if_ne (t := 148) C dX7_allowsEvent_137 (by decide) (fun c137 => ?_) (fun c137 => ?_)
    · -- t
      refine y_iconst (v := 0) C dX7_allowsEvent_148 (by decide) ?_
      exact y_zret C rfl dX7_allowsEvent_149 (by first | exact Or.inl rfl | exact Or.inr rfl) (⟨by simp only [mEvtI]; rw [if_neg w1_0, if_neg w1_1, if_neg w1_2, if_neg w1_3, if_pos w1_4]; (try simp only [mWithI_ne, mWithI_eq0, mRoomI_ne, mRoomI_eq0, mPlacI_ne, mPlacI_eq0, mSensI_ne, mSensI_eq0] at *); first | (rw [if_pos (by simp_all)]; done) | (rw [if_neg (fun q => by first | exact absurd q.1 (by assumption) | exact absurd q.2 (by assumption) | exact absurd q.2.1 (by assumption) | exact absurd q.2.2 (by assumption) | exact q.2.2 (by assumption))]; done), rfl, rfl⟩)
    · -- f
      refine y_iload_n C dX7_allowsEvent_140 rfl ?_
      refine y_if_ne (t := 148) C dX7_allowsEvent_141 (by decide) (fun c141 => ?_) (fun c141 => ?_)
      · -- t
        refine y_iconst (v := 0) C dX7_allowsEvent_148 (by decide) ?_
        exact y_zret C rfl dX7_allowsEvent_149 (by first | exact Or.inl rfl | exact Or.inr rfl) (⟨by simp only [mEvtI]; rw [if_neg w1_0, if_neg w1_1, if_neg w1_2, if_neg w1_3, if_pos w1_4]; (try simp only [mWithI_ne, mWithI_eq0, mRoomI_ne, mRoomI_eq0, mPlacI_ne, mPlacI_eq0, mSensI_ne, mSensI_eq0] at *); first | (rw [if_pos (by simp_all)]; done) | (rw [if_neg (fun q => by first | exact absurd q.1 (by assumption) | exact absurd q.2 (by assumption) | exact absurd q.2.1 (by assumption) | exact absurd q.2.2 (by assumption) | exact q.2.2 (by assumption))]; done), rfl, rfl⟩)
      · -- f
        refine y_iconst (v := 1) C dX7_allowsEvent_144 (by decide) ?_
        refine y_goto (t := 149) C dX7_allowsEvent_145 (by decide) ?_
        exact y_zret C rfl dX7_allowsEvent_149 (by first | exact Or.inl rfl | exact Or.inr rfl) (⟨by simp only [mEvtI]; rw [if_neg w1_0, if_neg w1_1, if_neg w1_2, if_neg w1_3, if_pos w1_4]; (try simp only [mWithI_ne, mWithI_eq0, mRoomI_ne, mRoomI_eq0, mPlacI_ne, mPlacI_eq0, mSensI_ne, mSensI_eq0] at *); first | (rw [if_pos (by simp_all)]; done) | (rw [if_neg (fun q => by first | exact absurd q.1 (by assumption) | exact absurd q.2 (by assumption) | exact absurd q.2.1 (by assumption) | exact absurd q.2.2 (by assumption) | exact q.2.2 (by assumption))]; done), rfl, rfl⟩)
  refine y_tableOut (t := 150) C dX7_allowsEvent_1 (by have q0 : ¬ (kd).toInt = 0 := lv_neT w1_0 (by decide); have q1 : ¬ (kd).toInt = 1 := lv_neT w1_1 (by decide); have q2 : ¬ (kd).toInt = 2 := lv_neT w1_2 (by decide); have q3 : ¬ (kd).toInt = 3 := lv_neT w1_3 (by decide); have q4 : ¬ (kd).toInt = 4 := lv_neT w1_4 (by decide); omega) (by decide) ?_
  refine y_iconst (v := 0) C dX7_allowsEvent_150 (by decide) ?_
  exact y_zret C rfl dX7_allowsEvent_151 (by first | exact Or.inl rfl | exact Or.inr rfl) (⟨by simp only [mEvtI]; rw [if_neg w1_0, if_neg w1_1, if_neg w1_2, if_neg w1_3, if_neg w1_4], rfl, rfl⟩)
