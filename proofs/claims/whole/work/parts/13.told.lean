set_option maxHeartbeats 4000000 in
set_option maxRecDepth 100000 in
theorem e_X9_number (σ : xS) (τ : xT) {r : Rw} (hM : σ 166 = r) (w : Nat) (hw : w < 15) : Xi mX9_number [.ref 165, .int (nI w)] σ τ (fun o σ1 τ1 => o = (mNum r (nI w)) ∧ σ = σ1 ∧ τ = τ1) := by
  refine Xi_mk (L := [some (.ref 165), some (.int (nI w))]) (by decide) rfl (Nat.le_of_ble_eq_true rfl) rfl (fun x C => ?_)
  refine y_iload_n C dX9_number_0 rfl ?_
  by_cases w1_9 : nI w = 9
  ·
    refine y_tableIn (t := 40) C dX9_number_1 (by rw [w1_9]; decide) (by rw [w1_9]; decide) (by first | (rw [w1_9]; done) | (rw [w1_9]; rfl)) (by decide) ?_
    refine y_aload_n C dX9_number_40 rfl ?_
    refine y_callVi C (e_X9_strength _ _ hM) dX9_number_41 rfl gX9_number_X9_strength rfl (is_X9) ⟨rfl, qX9_strength⟩ ⟨rfl, rfl⟩ ⟨Nat.le_of_ble_eq_true rfl, Nat.le_of_ble_eq_true rfl⟩ rfl (Nat.le_of_ble_eq_true rfl) ⟨Nat.zero_le _, Nat.zero_le _⟩ (fun v1 σ1 τ1 hq => ?_)
    obtain ⟨rfl, rfl, rfl⟩ := hq
    exact y_iret C rfl dX9_number_44 (⟨by rw [w1_9]; rfl, rfl, rfl⟩)
  by_cases w1_10 : nI w = 10
  ·
    refine y_tableIn (t := 45) C dX9_number_1 (by rw [w1_10]; decide) (by rw [w1_10]; decide) (by first | (rw [w1_10]; done) | (rw [w1_10]; rfl)) (by decide) ?_
    refine y_aload_n C dX9_number_45 rfl ?_
    refine g_X9_now C dX9_number_46 (by decide +kernel) (by decide +kernel) ?_
    refine y_bipush (v := 9) C dX9_number_49 (by decide) ?_
    refine mA C hM 9 rfl (by decide) dX9_number_51 ?_
    exact y_iret C rfl dX9_number_52 (⟨by rw [w1_10]; rfl, rfl, rfl⟩)
  by_cases w1_11 : nI w = 11
  ·
    refine y_tableIn (t := 53) C dX9_number_1 (by rw [w1_11]; decide) (by rw [w1_11]; decide) (by first | (rw [w1_11]; done) | (rw [w1_11]; rfl)) (by decide) ?_
    refine y_aload_n C dX9_number_53 rfl ?_
    refine y_callVi C (e_X9_draft _ _ hM) dX9_number_54 rfl gX9_number_X9_draft rfl (is_X9) ⟨rfl, qX9_draft⟩ ⟨rfl, rfl⟩ ⟨Nat.le_of_ble_eq_true rfl, Nat.le_of_ble_eq_true rfl⟩ rfl (Nat.le_of_ble_eq_true rfl) ⟨Nat.zero_le _, Nat.zero_le _⟩ (fun v1 σ1 τ1 hq => ?_)
    obtain ⟨rfl, rfl, rfl⟩ := hq
    exact y_iret C rfl dX9_number_57 (⟨by rw [w1_11]; rfl, rfl, rfl⟩)
  by_cases w1_12 : nI w = 12
  ·
    refine y_tableIn (t := 58) C dX9_number_1 (by rw [w1_12]; decide) (by rw [w1_12]; decide) (by first | (rw [w1_12]; done) | (rw [w1_12]; rfl)) (by decide) ?_
    refine y_aload_n C dX9_number_58 rfl ?_
    refine g_X9_now C dX9_number_59 (by decide +kernel) (by decide +kernel) ?_
    refine y_bipush (v := 10) C dX9_number_62 (by decide) ?_
    refine mA C hM 10 rfl (by decide) dX9_number_64 ?_
    exact y_iret C rfl dX9_number_65 (⟨by rw [w1_12]; rfl, rfl, rfl⟩)
  by_cases w1_13 : nI w = 13
  ·
    refine y_tableIn (t := 66) C dX9_number_1 (by rw [w1_13]; decide) (by rw [w1_13]; decide) (by first | (rw [w1_13]; done) | (rw [w1_13]; rfl)) (by decide) ?_
    refine y_aload_n C dX9_number_66 rfl ?_
    refine g_X9_now C dX9_number_67 (by decide +kernel) (by decide +kernel) ?_
    refine y_bipush (v := 11) C dX9_number_70 (by decide) ?_
    refine mA C hM 11 rfl (by decide) dX9_number_72 ?_
    exact y_iret C rfl dX9_number_73 (⟨by rw [w1_13]; rfl, rfl, rfl⟩)
  by_cases w1_14 : nI w = 14
  ·
    refine y_tableIn (t := 74) C dX9_number_1 (by rw [w1_14]; decide) (by rw [w1_14]; decide) (by first | (rw [w1_14]; done) | (rw [w1_14]; rfl)) (by decide) ?_
    refine y_aload_n C dX9_number_74 rfl ?_
    refine g_X9_now C dX9_number_75 (by decide +kernel) (by decide +kernel) ?_
    refine y_bipush (v := 12) C dX9_number_78 (by decide) ?_
    refine mA C hM 12 rfl (by decide) dX9_number_80 ?_
    exact y_iret C rfl dX9_number_81 (⟨by rw [w1_14]; rfl, rfl, rfl⟩)
  refine y_tableOut (t := 82) C dX9_number_1 (by have q9 : ¬ (nI w).toInt = 9 := lv_neT w1_9 (by decide); have q10 : ¬ (nI w).toInt = 10 := lv_neT w1_10 (by decide); have q11 : ¬ (nI w).toInt = 11 := lv_neT w1_11 (by decide); have q12 : ¬ (nI w).toInt = 12 := lv_neT w1_12 (by decide); have q13 : ¬ (nI w).toInt = 13 := lv_neT w1_13 (by decide); have q14 : ¬ (nI w).toInt = 14 := lv_neT w1_14 (by decide); omega) (by decide) ?_
  refine y_aload_n C dX9_number_82 rfl ?_
  refine g_X9_now C dX9_number_83 (by decide +kernel) (by decide +kernel) ?_
  refine y_iload_n C dX9_number_86 rfl ?_
  refine mA C hM w rfl (by omega) dX9_number_87 ?_
  exact y_iret C rfl dX9_number_88 (⟨by simp only [mNum]; rw [if_neg w1_9, if_neg w1_10, if_neg w1_11, if_neg w1_12, if_neg w1_13, if_neg w1_14, cN_nI (by omega)], rfl, rfl⟩)
set_option maxHeartbeats 4000000 in
set_option maxRecDepth 100000 in
theorem e_X7_aboutAll {B : Nat} (hB : isW B) {r : Rw} (σ : xS) (τ : xT) (hR : Rel σ B r) {R ns nr ne t tl : Nat} (I : Inv r R ns nr ne t tl) (w : Nat) (hw : w < 15) : Xi mX7_aboutAll [.ref B, .int (nI w)] σ τ (fun o σ1 τ1 => o = (mNum r (nI w)) ∧ σ = σ1 ∧ τ = τ1) := by
  refine Xi_mk (L := [some (.ref B), some (.int (nI w))]) (by decide) rfl (Nat.le_of_ble_eq_true rfl) rfl (fun x C => ?_)
  refine y_iload_n C dX7_aboutAll_0 rfl ?_
  by_cases w1_0 : nI w = 0
  ·
    refine y_tableIn (t := 72) C dX7_aboutAll_1 (by rw [w1_0]; decide) (by rw [w1_0]; decide) (by first | (rw [w1_0]; done) | (rw [w1_0]; rfl)) (by decide) ?_
    refine y_aload_n C dX7_aboutAll_72 rfl ?_
    refine g_X7_hearth C hB dX7_aboutAll_73 (by decide +kernel) (by decide +kernel) ?_
    refine gR_X2_wind C hB hR dX7_aboutAll_76 (by decide +kernel) (by decide +kernel) ?_
    exact y_iret C rfl dX7_aboutAll_79 (⟨by rw [w1_0]; rfl, rfl, rfl⟩)
  by_cases w1_1 : nI w = 1
  ·
    refine y_tableIn (t := 80) C dX7_aboutAll_1 (by rw [w1_1]; decide) (by rw [w1_1]; decide) (by first | (rw [w1_1]; done) | (rw [w1_1]; rfl)) (by decide) ?_
    refine y_aload_n C dX7_aboutAll_80 rfl ?_
    refine g_X7_alarms C hB dX7_aboutAll_81 (by decide +kernel) (by decide +kernel) ?_
    refine gR_X0_quorum C hB hR dX7_aboutAll_84 (by decide +kernel) (by decide +kernel) ?_
    exact y_iret C rfl dX7_aboutAll_87 (⟨by rw [w1_1]; rfl, rfl, rfl⟩)
  by_cases w1_2 : nI w = 2
  ·
    refine y_tableIn (t := 88) C dX7_aboutAll_1 (by rw [w1_2]; decide) (by rw [w1_2]; decide) (by first | (rw [w1_2]; done) | (rw [w1_2]; rfl)) (by decide) ?_
    refine y_aload_n C dX7_aboutAll_88 rfl ?_
    refine g_X7_alarms C hB dX7_aboutAll_89 (by decide +kernel) (by decide +kernel) ?_
    refine gR_X0_hold C hB hR dX7_aboutAll_92 (by decide +kernel) (by decide +kernel) ?_
    exact y_iret C rfl dX7_aboutAll_95 (⟨by rw [w1_2]; rfl, rfl, rfl⟩)
  by_cases w1_3 : nI w = 3
  ·
    refine y_tableIn (t := 96) C dX7_aboutAll_1 (by rw [w1_3]; decide) (by rw [w1_3]; decide) (by first | (rw [w1_3]; done) | (rw [w1_3]; rfl)) (by decide) ?_
    refine y_aload_n C dX7_aboutAll_96 rfl ?_
    refine g_X7_hearth C hB dX7_aboutAll_97 (by decide +kernel) (by decide +kernel) ?_
    refine gR_X2_jammed C hB hR dX7_aboutAll_100 (by decide +kernel) (by decide +kernel) ?_
    refine y_if_eq (t := 110) C dX7_aboutAll_103 (by decide) (fun c103 => ?_) (fun c103 => ?_)
    · -- t
      refine y_iconst (v := 0) C dX7_aboutAll_110 (by decide) ?_
      exact y_iret C rfl dX7_aboutAll_111 (⟨by rw [w1_3]; show _ = r 3; rcases I.2.2.2.2.2.1.2.2.1 with q | q <;> simp_all, rfl, rfl⟩)
    · -- f
      refine y_iconst (v := 1) C dX7_aboutAll_106 (by decide) ?_
      refine y_goto (t := 111) C dX7_aboutAll_107 (by decide) ?_
      exact y_iret C rfl dX7_aboutAll_111 (⟨by rw [w1_3]; show _ = r 3; rcases I.2.2.2.2.2.1.2.2.1 with q | q <;> simp_all, rfl, rfl⟩)
  by_cases w1_4 : nI w = 4
  ·
    refine y_tableIn (t := 112) C dX7_aboutAll_1 (by rw [w1_4]; decide) (by rw [w1_4]; decide) (by first | (rw [w1_4]; done) | (rw [w1_4]; rfl)) (by decide) ?_
    refine y_aload_n C dX7_aboutAll_112 rfl ?_
    refine g_X7_hearth C hB dX7_aboutAll_113 (by decide +kernel) (by decide +kernel) ?_
    refine gR_X2_opening C hB hR dX7_aboutAll_116 (by decide +kernel) (by decide +kernel) ?_
    exact y_iret C rfl dX7_aboutAll_119 (⟨by rw [w1_4]; rfl, rfl, rfl⟩)
  by_cases w1_5 : nI w = 5
  ·
    refine y_tableIn (t := 120) C dX7_aboutAll_1 (by rw [w1_5]; decide) (by rw [w1_5]; decide) (by first | (rw [w1_5]; done) | (rw [w1_5]; rfl)) (by decide) ?_
    refine y_aload_n C dX7_aboutAll_120 rfl ?_
    refine g_X7_hearth C hB dX7_aboutAll_121 (by decide +kernel) (by decide +kernel) ?_
    refine gR_X2_warmth C hB hR dX7_aboutAll_124 (by decide +kernel) (by decide +kernel) ?_
    exact y_iret C rfl dX7_aboutAll_127 (⟨by rw [w1_5]; rfl, rfl, rfl⟩)
  by_cases w1_6 : nI w = 6
  ·
    refine y_tableIn (t := 128) C dX7_aboutAll_1 (by rw [w1_6]; decide) (by rw [w1_6]; decide) (by first | (rw [w1_6]; done) | (rw [w1_6]; rfl)) (by decide) ?_
    refine y_aload_n C dX7_aboutAll_128 rfl ?_
    refine g_X7_house C hB dX7_aboutAll_129 (by decide +kernel) (by decide +kernel) ?_
    refine gR_X3_rooms C hB hR dX7_aboutAll_132 (by decide +kernel) (by decide +kernel) ?_
    exact y_iret C rfl dX7_aboutAll_135 (⟨by rw [w1_6]; rfl, rfl, rfl⟩)
  by_cases w1_7 : nI w = 7
  ·
    refine y_tableIn (t := 136) C dX7_aboutAll_1 (by rw [w1_7]; decide) (by rw [w1_7]; decide) (by first | (rw [w1_7]; done) | (rw [w1_7]; rfl)) (by decide) ?_
    refine y_aload_n C dX7_aboutAll_136 rfl ?_
    refine gR_X7_minute C hB hR dX7_aboutAll_137 (by decide +kernel) (by decide +kernel) ?_
    exact y_iret C rfl dX7_aboutAll_140 (⟨by rw [w1_7]; rfl, rfl, rfl⟩)
  by_cases w1_8 : nI w = 8
  ·
    refine y_tableIn (t := 141) C dX7_aboutAll_1 (by rw [w1_8]; decide) (by rw [w1_8]; decide) (by first | (rw [w1_8]; done) | (rw [w1_8]; rfl)) (by decide) ?_
    refine y_aload_n C dX7_aboutAll_141 rfl ?_
    refine g_X7_hearth C hB dX7_aboutAll_142 (by decide +kernel) (by decide +kernel) ?_
    refine gR_X2_fuel C hB hR dX7_aboutAll_145 (by decide +kernel) (by decide +kernel) ?_
    exact y_iret C rfl dX7_aboutAll_148 (⟨by rw [w1_8]; rfl, rfl, rfl⟩)
  by_cases w1_9 : nI w = 9
  ·
    refine y_tableIn (t := 149) C dX7_aboutAll_1 (by rw [w1_9]; decide) (by rw [w1_9]; decide) (by first | (rw [w1_9]; done) | (rw [w1_9]; rfl)) (by decide) ?_
    refine y_aload_n C dX7_aboutAll_149 rfl ?_
    refine g_X7_hearth C hB dX7_aboutAll_150 (by decide +kernel) (by decide +kernel) ?_
    refine y_callVi C (e_X2_strength hB _ _ hR) dX7_aboutAll_153 rfl gX7_aboutAll_X2_strength rfl (is_X2 hB) ⟨rfl, qX2_strength⟩ ⟨rfl, rfl⟩ ⟨Nat.le_of_ble_eq_true rfl, Nat.le_of_ble_eq_true rfl⟩ rfl (Nat.le_of_ble_eq_true rfl) ⟨Nat.zero_le _, Nat.zero_le _⟩ (fun v1 σ1 τ1 hq => ?_)
    obtain ⟨rfl, rfl, rfl⟩ := hq
    exact y_iret C rfl dX7_aboutAll_156 (⟨by rw [w1_9]; rfl, rfl, rfl⟩)
  by_cases w1_10 : nI w = 10
  ·
    refine y_tableIn (t := 157) C dX7_aboutAll_1 (by rw [w1_10]; decide) (by rw [w1_10]; decide) (by first | (rw [w1_10]; done) | (rw [w1_10]; rfl)) (by decide) ?_
    refine y_aload_n C dX7_aboutAll_157 rfl ?_
    refine g_X7_hearth C hB dX7_aboutAll_158 (by decide +kernel) (by decide +kernel) ?_
    refine gR_X2_target C hB hR dX7_aboutAll_161 (by decide +kernel) (by decide +kernel) ?_
    exact y_iret C rfl dX7_aboutAll_164 (⟨by rw [w1_10]; rfl, rfl, rfl⟩)
  by_cases w1_11 : nI w = 11
  ·
    refine y_tableIn (t := 165) C dX7_aboutAll_1 (by rw [w1_11]; decide) (by rw [w1_11]; decide) (by first | (rw [w1_11]; done) | (rw [w1_11]; rfl)) (by decide) ?_
    refine y_aload_n C dX7_aboutAll_165 rfl ?_
    refine g_X7_hearth C hB dX7_aboutAll_166 (by decide +kernel) (by decide +kernel) ?_
    refine y_callVi C (e_X2_draft hB _ _ hR) dX7_aboutAll_169 rfl gX7_aboutAll_X2_draft rfl (is_X2 hB) ⟨rfl, qX2_draft⟩ ⟨rfl, rfl⟩ ⟨Nat.le_of_ble_eq_true rfl, Nat.le_of_ble_eq_true rfl⟩ rfl (Nat.le_of_ble_eq_true rfl) ⟨Nat.zero_le _, Nat.zero_le _⟩ (fun v1 σ1 τ1 hq => ?_)
    obtain ⟨rfl, rfl, rfl⟩ := hq
    exact y_iret C rfl dX7_aboutAll_172 (⟨by rw [w1_11]; rfl, rfl, rfl⟩)
  by_cases w1_12 : nI w = 12
  ·
    refine y_tableIn (t := 173) C dX7_aboutAll_1 (by rw [w1_12]; decide) (by rw [w1_12]; decide) (by first | (rw [w1_12]; done) | (rw [w1_12]; rfl)) (by decide) ?_
    refine y_aload_n C dX7_aboutAll_173 rfl ?_
    refine g_X7_sensors C hB dX7_aboutAll_174 (by decide +kernel) (by decide +kernel) ?_
    refine gR_X6_count C hB hR dX7_aboutAll_177 (by decide +kernel) (by decide +kernel) ?_
    exact y_iret C rfl dX7_aboutAll_180 (⟨by rw [w1_12]; rfl, rfl, rfl⟩)
  by_cases w1_13 : nI w = 13
  ·
    refine y_tableIn (t := 181) C dX7_aboutAll_1 (by rw [w1_13]; decide) (by rw [w1_13]; decide) (by first | (rw [w1_13]; done) | (rw [w1_13]; rfl)) (by decide) ?_
    refine y_aload_n C dX7_aboutAll_181 rfl ?_
    refine g_X7_rules C hB dX7_aboutAll_182 (by decide +kernel) (by decide +kernel) ?_
    refine gR_X5_count C hB hR dX7_aboutAll_185 (by decide +kernel) (by decide +kernel) ?_
    exact y_iret C rfl dX7_aboutAll_188 (⟨by rw [w1_13]; rfl, rfl, rfl⟩)
  refine y_tableOut (t := 189) C dX7_aboutAll_1 (by have q0 : ¬ (nI w).toInt = 0 := lv_neT w1_0 (by decide); have q1 : ¬ (nI w).toInt = 1 := lv_neT w1_1 (by decide); have q2 : ¬ (nI w).toInt = 2 := lv_neT w1_2 (by decide); have q3 : ¬ (nI w).toInt = 3 := lv_neT w1_3 (by decide); have q4 : ¬ (nI w).toInt = 4 := lv_neT w1_4 (by decide); have q5 : ¬ (nI w).toInt = 5 := lv_neT w1_5 (by decide); have q6 : ¬ (nI w).toInt = 6 := lv_neT w1_6 (by decide); have q7 : ¬ (nI w).toInt = 7 := lv_neT w1_7 (by decide); have q8 : ¬ (nI w).toInt = 8 := lv_neT w1_8 (by decide); have q9 : ¬ (nI w).toInt = 9 := lv_neT w1_9 (by decide); have q10 : ¬ (nI w).toInt = 10 := lv_neT w1_10 (by decide); have q11 : ¬ (nI w).toInt = 11 := lv_neT w1_11 (by decide); have q12 : ¬ (nI w).toInt = 12 := lv_neT w1_12 (by decide); have q13 : ¬ (nI w).toInt = 13 := lv_neT w1_13 (by decide); omega) (by decide) ?_
  refine y_aload_n C dX7_aboutAll_189 rfl ?_
  refine g_X7_events C hB dX7_aboutAll_190 (by decide +kernel) (by decide +kernel) ?_
  refine gR_X1_count C hB hR dX7_aboutAll_193 (by decide +kernel) (by decide +kernel) ?_
  exact y_iret C rfl dX7_aboutAll_196 (⟨by rw [num_14 w hw w1_0 w1_1 w1_2 w1_3 w1_4 w1_5 w1_6 w1_7 w1_8 w1_9 w1_10 w1_11 w1_12 w1_13]; rfl, rfl, rfl⟩)
set_option maxHeartbeats 4000000 in
set_option maxRecDepth 100000 in
theorem e_X9_roomTold (σ : xS) (τ : xT) {r : Rw} (hM : σ 166 = r) {R ns nr ne t tl : Nat} (I : Inv r R ns nr ne t tl) (i w : Nat) (hi : i < R) (hw : w < 7) : Xi mX9_roomTold [.ref 165, .int (nI i), .int (nI w)] σ τ (fun o σ1 τ1 => o = (mRooT r i (nI w)) ∧ σ = σ1 ∧ τ = τ1) := by
  have hR4 := I.1.1.2.2
  have hs8 := I.1.2.1.2
  have hr8 := I.1.2.2.1.2
  refine Xi_mk (L := [some (.ref 165), some (.int (nI i)), some (.int (nI w))]) (by decide) rfl (Nat.le_of_ble_eq_true rfl) rfl (fun x C => ?_)
  refine y_iload_n C dX9_roomTold_0 rfl ?_
  by_cases w1_0 : nI w = 0
  ·
    refine y_tableIn (t := 40) C dX9_roomTold_1 (by rw [w1_0]; decide) (by rw [w1_0]; decide) (by first | (rw [w1_0]; done) | (rw [w1_0]; rfl)) (by decide) ?_
    refine y_aload_n C dX9_roomTold_40 rfl ?_
    refine g_X9_now C dX9_roomTold_41 (by decide +kernel) (by decide +kernel) ?_
    refine y_bipush (v := 20) C dX9_roomTold_44 (by decide) ?_
    refine y_iload_n C dX9_roomTold_46 rfl ?_
    refine y_iadd C dX9_roomTold_47 ?_
    refine mA C hM (20 + i) (by simp only [← nI_add, ← pk_mul]; rfl) (by omega) dX9_roomTold_48 ?_
    exact y_iret C rfl dX9_roomTold_49 (⟨by rw [w1_0]; rfl, rfl, rfl⟩)
  by_cases w1_1 : nI w = 1
  ·
    refine y_tableIn (t := 50) C dX9_roomTold_1 (by rw [w1_1]; decide) (by rw [w1_1]; decide) (by first | (rw [w1_1]; done) | (rw [w1_1]; rfl)) (by decide) ?_
    refine y_aload_n C dX9_roomTold_50 rfl ?_
    refine g_X9_now C dX9_roomTold_51 (by decide +kernel) (by decide +kernel) ?_
    refine y_bipush (v := 24) C dX9_roomTold_54 (by decide) ?_
    refine y_iload_n C dX9_roomTold_56 rfl ?_
    refine y_iadd C dX9_roomTold_57 ?_
    refine mA C hM (24 + i) (by simp only [← nI_add, ← pk_mul]; rfl) (by omega) dX9_roomTold_58 ?_
    exact y_iret C rfl dX9_roomTold_59 (⟨by rw [w1_1]; rfl, rfl, rfl⟩)
  by_cases w1_2 : nI w = 2
  ·
    refine y_tableIn (t := 60) C dX9_roomTold_1 (by rw [w1_2]; decide) (by rw [w1_2]; decide) (by first | (rw [w1_2]; done) | (rw [w1_2]; rfl)) (by decide) ?_
    refine y_aload_n C dX9_roomTold_60 rfl ?_
    refine g_X9_now C dX9_roomTold_61 (by decide +kernel) (by decide +kernel) ?_
    refine y_bipush (v := 28) C dX9_roomTold_64 (by decide) ?_
    refine y_iload_n C dX9_roomTold_66 rfl ?_
    refine y_iadd C dX9_roomTold_67 ?_
    refine mA C hM (28 + i) (by simp only [← nI_add, ← pk_mul]; rfl) (by omega) dX9_roomTold_68 ?_
    exact y_iret C rfl dX9_roomTold_69 (⟨by rw [w1_2]; rfl, rfl, rfl⟩)
  by_cases w1_3 : nI w = 3
  ·
    refine y_tableIn (t := 70) C dX9_roomTold_1 (by rw [w1_3]; decide) (by rw [w1_3]; decide) (by first | (rw [w1_3]; done) | (rw [w1_3]; rfl)) (by decide) ?_
    refine y_aload_n C dX9_roomTold_70 rfl ?_
    refine y_iload_n C dX9_roomTold_71 rfl ?_
    refine y_callVi C (e_X9_hasAlarm _ _ hM i (by omega)) dX9_roomTold_72 rfl gX9_roomTold_X9_hasAlarm rfl (is_X9) ⟨rfl, qX9_hasAlarm⟩ ⟨rfl, rfl⟩ ⟨Nat.le_of_ble_eq_true rfl, Nat.le_of_ble_eq_true rfl⟩ rfl (Nat.le_of_ble_eq_true rfl) ⟨Nat.zero_le _, Nat.zero_le _⟩ (fun v1 σ1 τ1 hq => ?_)
    obtain ⟨rfl, rfl, rfl⟩ := hq
    refine y_if_eq (t := 82) C dX9_roomTold_75 (by decide) (fun c75 => ?_) (fun c75 => ?_)
    · -- t
      refine y_iconst (v := 0) C dX9_roomTold_82 (by decide) ?_
      exact y_iret C rfl dX9_roomTold_83 (⟨by rw [w1_3]; show _ = mAlaI r i; rcases mAlaI_01 r i with q | q <;> simp_all, rfl, rfl⟩)
    · -- f
      refine y_iconst (v := 1) C dX9_roomTold_78 (by decide) ?_
      refine y_goto (t := 83) C dX9_roomTold_79 (by decide) ?_
      exact y_iret C rfl dX9_roomTold_83 (⟨by rw [w1_3]; show _ = mAlaI r i; rcases mAlaI_01 r i with q | q <;> simp_all, rfl, rfl⟩)
  by_cases w1_4 : nI w = 4
  ·
    refine y_tableIn (t := 84) C dX9_roomTold_1 (by rw [w1_4]; decide) (by rw [w1_4]; decide) (by first | (rw [w1_4]; done) | (rw [w1_4]; rfl)) (by decide) ?_
    refine y_aload_n C dX9_roomTold_84 rfl ?_
    refine y_iload_n C dX9_roomTold_85 rfl ?_
    refine y_callVi C (e_X9_isAgreed _ _ hM I _) dX9_roomTold_86 rfl gX9_roomTold_X9_isAgreed rfl (is_X9) ⟨rfl, qX9_isAgreed⟩ ⟨rfl, rfl⟩ ⟨Nat.le_of_ble_eq_true rfl, Nat.le_of_ble_eq_true rfl⟩ rfl (Nat.le_of_ble_eq_true rfl) ⟨Nat.zero_le _, Nat.zero_le _⟩ (fun v1 σ1 τ1 hq => ?_)
    obtain ⟨rfl, rfl, rfl⟩ := hq
    refine y_if_eq (t := 96) C dX9_roomTold_89 (by decide) (fun c89 => ?_) (fun c89 => ?_)
    · -- t
      refine y_iconst (v := 0) C dX9_roomTold_96 (by decide) ?_
      exact y_iret C rfl dX9_roomTold_97 (⟨by rw [w1_4]; show _ = mAgrI r (nI i); rcases mAgrI_01 r (nI i) with q | q <;> simp_all, rfl, rfl⟩)
    · -- f
      refine y_iconst (v := 1) C dX9_roomTold_92 (by decide) ?_
      refine y_goto (t := 97) C dX9_roomTold_93 (by decide) ?_
      exact y_iret C rfl dX9_roomTold_97 (⟨by rw [w1_4]; show _ = mAgrI r (nI i); rcases mAgrI_01 r (nI i) with q | q <;> simp_all, rfl, rfl⟩)
  by_cases w1_5 : nI w = 5
  ·
    refine y_tableIn (t := 98) C dX9_roomTold_1 (by rw [w1_5]; decide) (by rw [w1_5]; decide) (by first | (rw [w1_5]; done) | (rw [w1_5]; rfl)) (by decide) ?_
    refine y_aload_n C dX9_roomTold_98 rfl ?_
    refine y_iload_n C dX9_roomTold_99 rfl ?_
    refine y_callVi C (e_X9_votersIn _ _ hM I _) dX9_roomTold_100 rfl gX9_roomTold_X9_votersIn rfl (is_X9) ⟨rfl, qX9_votersIn⟩ ⟨rfl, rfl⟩ ⟨Nat.le_of_ble_eq_true rfl, Nat.le_of_ble_eq_true rfl⟩ rfl (Nat.le_of_ble_eq_true rfl) ⟨Nat.zero_le _, Nat.zero_le _⟩ (fun v1 σ1 τ1 hq => ?_)
    obtain ⟨rfl, rfl, rfl⟩ := hq
    exact y_iret C rfl dX9_roomTold_103 (⟨by rw [w1_5, ← inv_cs I]; rfl, rfl, rfl⟩)
  refine y_tableOut (t := 104) C dX9_roomTold_1 (by have q0 : ¬ (nI w).toInt = 0 := lv_neT w1_0 (by decide); have q1 : ¬ (nI w).toInt = 1 := lv_neT w1_1 (by decide); have q2 : ¬ (nI w).toInt = 2 := lv_neT w1_2 (by decide); have q3 : ¬ (nI w).toInt = 3 := lv_neT w1_3 (by decide); have q4 : ¬ (nI w).toInt = 4 := lv_neT w1_4 (by decide); have q5 : ¬ (nI w).toInt = 5 := lv_neT w1_5 (by decide); omega) (by decide) ?_
  refine y_aload_n C dX9_roomTold_104 rfl ?_
  refine y_aload_n C dX9_roomTold_105 rfl ?_
  refine y_iload_n C dX9_roomTold_106 rfl ?_
  refine y_callVi C (e_X9_votersIn _ _ hM I _) dX9_roomTold_107 rfl gX9_roomTold_X9_votersIn rfl (is_X9) ⟨rfl, qX9_votersIn⟩ ⟨rfl, rfl⟩ ⟨Nat.le_of_ble_eq_true rfl, Nat.le_of_ble_eq_true rfl⟩ rfl (Nat.le_of_ble_eq_true rfl) ⟨Nat.zero_le _, Nat.zero_le _⟩ (fun v1 σ1 τ1 hq => ?_)
  obtain ⟨rfl, rfl, rfl⟩ := hq
  refine y_callVi C (e_X9_weightOf _ _ hM I _) dX9_roomTold_110 rfl gX9_roomTold_X9_weightOf rfl (is_X9) ⟨rfl, qX9_weightOf⟩ ⟨rfl, rfl⟩ ⟨Nat.le_of_ble_eq_true rfl, Nat.le_of_ble_eq_true rfl⟩ rfl (Nat.le_of_ble_eq_true rfl) ⟨Nat.zero_le _, Nat.zero_le _⟩ (fun v1 σ1 τ1 hq => ?_)
  obtain ⟨rfl, rfl, rfl⟩ := hq
  exact y_iret C rfl dX9_roomTold_113 (⟨by rw [num_6 w hw w1_0 w1_1 w1_2 w1_3 w1_4 w1_5, ← inv_cs I]; rfl, rfl, rfl⟩)
set_option maxHeartbeats 4000000 in
set_option maxRecDepth 100000 in
theorem e_X7_aboutRoom {B : Nat} (hB : isW B) {r : Rw} (σ : xS) (τ : xT) (hR : Rel σ B r) {R ns nr ne t tl : Nat} (I : Inv r R ns nr ne t tl) (i w : Nat) (hi : i < R) (hw : w < 7) : Xi mX7_aboutRoom [.ref B, .int (nI i), .int (nI w)] σ τ (fun o σ1 τ1 => o = (mRooT r i (nI w)) ∧ σ = σ1 ∧ τ = τ1) := by
  have hR4 := I.1.1.2.2
  have hs8 := I.1.2.1.2
  have hr8 := I.1.2.2.1.2
  refine Xi_mk (L := [some (.ref B), some (.int (nI i)), some (.int (nI w))]) (by decide) rfl (Nat.le_of_ble_eq_true rfl) rfl (fun x C => ?_)
  refine y_iload_n C dX7_aboutRoom_0 rfl ?_
  by_cases w1_0 : nI w = 0
  ·
    refine y_tableIn (t := 40) C dX7_aboutRoom_1 (by rw [w1_0]; decide) (by rw [w1_0]; decide) (by first | (rw [w1_0]; done) | (rw [w1_0]; rfl)) (by decide) ?_
    refine y_aload_n C dX7_aboutRoom_40 rfl ?_
    refine g_X7_house C hB dX7_aboutRoom_41 (by decide +kernel) (by decide +kernel) ?_
    refine g_X3_smoke C hB dX7_aboutRoom_44 (by decide +kernel) (by decide +kernel) ?_
    refine y_iload_n C dX7_aboutRoom_47 rfl ?_
    refine aR C hB hR (20 + i) 2 i 4 (pl_lo20 _ (by omega)) (lv_l (by omega) (by omega)) (by decide) rfl (by decide) rfl (by omega) dX7_aboutRoom_48 ?_
    exact y_iret C rfl dX7_aboutRoom_49 (⟨by rw [w1_0]; rfl, rfl, rfl⟩)
  by_cases w1_1 : nI w = 1
  ·
    refine y_tableIn (t := 50) C dX7_aboutRoom_1 (by rw [w1_1]; decide) (by rw [w1_1]; decide) (by first | (rw [w1_1]; done) | (rw [w1_1]; rfl)) (by decide) ?_
    refine y_aload_n C dX7_aboutRoom_50 rfl ?_
    refine g_X7_alarms C hB dX7_aboutRoom_51 (by decide +kernel) (by decide +kernel) ?_
    refine g_X0_rest C hB dX7_aboutRoom_54 (by decide +kernel) (by decide +kernel) ?_
    refine y_iload_n C dX7_aboutRoom_57 rfl ?_
    refine aR C hB hR (24 + i) 14 i 4 (pl_lo24 _ (by omega)) (lv_l (by omega) (by omega)) (by decide) rfl (by decide) rfl (by omega) dX7_aboutRoom_58 ?_
    exact y_iret C rfl dX7_aboutRoom_59 (⟨by rw [w1_1]; rfl, rfl, rfl⟩)
  by_cases w1_2 : nI w = 2
  ·
    refine y_tableIn (t := 60) C dX7_aboutRoom_1 (by rw [w1_2]; decide) (by rw [w1_2]; decide) (by first | (rw [w1_2]; done) | (rw [w1_2]; rfl)) (by decide) ?_
    refine y_aload_n C dX7_aboutRoom_60 rfl ?_
    refine g_X7_alarms C hB dX7_aboutRoom_61 (by decide +kernel) (by decide +kernel) ?_
    refine g_X0_muting C hB dX7_aboutRoom_64 (by decide +kernel) (by decide +kernel) ?_
    refine y_iload_n C dX7_aboutRoom_67 rfl ?_
    refine aR C hB hR (28 + i) 15 i 4 (pl_lo28 _ (by omega)) (lv_l (by omega) (by omega)) (by decide) rfl (by decide) rfl (by omega) dX7_aboutRoom_68 ?_
    exact y_iret C rfl dX7_aboutRoom_69 (⟨by rw [w1_2]; rfl, rfl, rfl⟩)
  by_cases w1_3 : nI w = 3
  ·
    refine y_tableIn (t := 70) C dX7_aboutRoom_1 (by rw [w1_3]; decide) (by rw [w1_3]; decide) (by first | (rw [w1_3]; done) | (rw [w1_3]; rfl)) (by decide) ?_
    refine y_aload_n C dX7_aboutRoom_70 rfl ?_
    refine g_X7_alarms C hB dX7_aboutRoom_71 (by decide +kernel) (by decide +kernel) ?_
    refine y_iload_n C dX7_aboutRoom_74 rfl ?_
    refine y_callVi C (e_X0_soundsIn hB _ _ hR i (by omega)) dX7_aboutRoom_75 rfl gX7_aboutRoom_X0_soundsIn rfl (is_X0 hB) ⟨rfl, qX0_soundsIn⟩ ⟨rfl, rfl⟩ ⟨Nat.le_of_ble_eq_true rfl, Nat.le_of_ble_eq_true rfl⟩ rfl (Nat.le_of_ble_eq_true rfl) ⟨Nat.zero_le _, Nat.zero_le _⟩ (fun v1 σ1 τ1 hq => ?_)
    obtain ⟨rfl, rfl, rfl⟩ := hq
    refine y_if_eq (t := 85) C dX7_aboutRoom_78 (by decide) (fun c78 => ?_) (fun c78 => ?_)
    · -- t
      refine y_iconst (v := 0) C dX7_aboutRoom_85 (by decide) ?_
      exact y_iret C rfl dX7_aboutRoom_86 (⟨by rw [w1_3]; show _ = mAlaI r i; rcases mAlaI_01 r i with q | q <;> simp_all, rfl, rfl⟩)
    · -- f
      refine y_iconst (v := 1) C dX7_aboutRoom_81 (by decide) ?_
      refine y_goto (t := 86) C dX7_aboutRoom_82 (by decide) ?_
      exact y_iret C rfl dX7_aboutRoom_86 (⟨by rw [w1_3]; show _ = mAlaI r i; rcases mAlaI_01 r i with q | q <;> simp_all, rfl, rfl⟩)
  by_cases w1_4 : nI w = 4
  ·
    refine y_tableIn (t := 87) C dX7_aboutRoom_1 (by rw [w1_4]; decide) (by rw [w1_4]; decide) (by first | (rw [w1_4]; done) | (rw [w1_4]; rfl)) (by decide) ?_
    refine y_aload_n C dX7_aboutRoom_87 rfl ?_
    refine y_iload_n C dX7_aboutRoom_88 rfl ?_
    refine y_callVi C (e_X7_isAgreedOn hB _ _ hR I _) dX7_aboutRoom_89 rfl gX7_aboutRoom_X7_isAgreedOn rfl (is_X7 hB) ⟨rfl, qX7_isAgreedOn⟩ ⟨rfl, rfl⟩ ⟨Nat.le_of_ble_eq_true rfl, Nat.le_of_ble_eq_true rfl⟩ rfl (Nat.le_of_ble_eq_true rfl) ⟨Nat.zero_le _, Nat.zero_le _⟩ (fun v1 σ1 τ1 hq => ?_)
    obtain ⟨rfl, rfl, rfl⟩ := hq
    refine y_if_eq (t := 99) C dX7_aboutRoom_92 (by decide) (fun c92 => ?_) (fun c92 => ?_)
    · -- t
      refine y_iconst (v := 0) C dX7_aboutRoom_99 (by decide) ?_
      exact y_iret C rfl dX7_aboutRoom_100 (⟨by rw [w1_4]; show _ = mAgrI r (nI i); rcases mAgrI_01 r (nI i) with q | q <;> simp_all, rfl, rfl⟩)
    · -- f
      refine y_iconst (v := 1) C dX7_aboutRoom_95 (by decide) ?_
      refine y_goto (t := 100) C dX7_aboutRoom_96 (by decide) ?_
      exact y_iret C rfl dX7_aboutRoom_100 (⟨by rw [w1_4]; show _ = mAgrI r (nI i); rcases mAgrI_01 r (nI i) with q | q <;> simp_all, rfl, rfl⟩)
  by_cases w1_5 : nI w = 5
  ·
    refine y_tableIn (t := 101) C dX7_aboutRoom_1 (by rw [w1_5]; decide) (by rw [w1_5]; decide) (by first | (rw [w1_5]; done) | (rw [w1_5]; rfl)) (by decide) ?_
    refine y_aload_n C dX7_aboutRoom_101 rfl ?_
    refine g_X7_sensors C hB dX7_aboutRoom_102 (by decide +kernel) (by decide +kernel) ?_
    refine y_iload_n C dX7_aboutRoom_105 rfl ?_
    refine y_callVi C (e_X6_votersIn hB _ _ hR I _) dX7_aboutRoom_106 rfl gX7_aboutRoom_X6_votersIn rfl (is_X6 hB) ⟨rfl, qX6_votersIn⟩ ⟨rfl, rfl⟩ ⟨Nat.le_of_ble_eq_true rfl, Nat.le_of_ble_eq_true rfl⟩ rfl (Nat.le_of_ble_eq_true rfl) ⟨Nat.zero_le _, Nat.zero_le _⟩ (fun v1 σ1 τ1 hq => ?_)
    obtain ⟨rfl, rfl, rfl⟩ := hq
    exact y_iret C rfl dX7_aboutRoom_109 (⟨by rw [w1_5, ← inv_cs I]; rfl, rfl, rfl⟩)
  refine y_tableOut (t := 110) C dX7_aboutRoom_1 (by have q0 : ¬ (nI w).toInt = 0 := lv_neT w1_0 (by decide); have q1 : ¬ (nI w).toInt = 1 := lv_neT w1_1 (by decide); have q2 : ¬ (nI w).toInt = 2 := lv_neT w1_2 (by decide); have q3 : ¬ (nI w).toInt = 3 := lv_neT w1_3 (by decide); have q4 : ¬ (nI w).toInt = 4 := lv_neT w1_4 (by decide); have q5 : ¬ (nI w).toInt = 5 := lv_neT w1_5 (by decide); omega) (by decide) ?_
  refine y_aload_n C dX7_aboutRoom_110 rfl ?_
  refine g_X7_sensors C hB dX7_aboutRoom_111 (by decide +kernel) (by decide +kernel) ?_
  refine y_aload_n C dX7_aboutRoom_114 rfl ?_
  refine g_X7_sensors C hB dX7_aboutRoom_115 (by decide +kernel) (by decide +kernel) ?_
  refine y_iload_n C dX7_aboutRoom_118 rfl ?_
  refine y_callVi C (e_X6_votersIn hB _ _ hR I _) dX7_aboutRoom_119 rfl gX7_aboutRoom_X6_votersIn rfl (is_X6 hB) ⟨rfl, qX6_votersIn⟩ ⟨rfl, rfl⟩ ⟨Nat.le_of_ble_eq_true rfl, Nat.le_of_ble_eq_true rfl⟩ rfl (Nat.le_of_ble_eq_true rfl) ⟨Nat.zero_le _, Nat.zero_le _⟩ (fun v1 σ1 τ1 hq => ?_)
  obtain ⟨rfl, rfl, rfl⟩ := hq
  refine y_callVi C (e_X6_weightOf hB _ _ hR I _ (mVts_256 I _)) dX7_aboutRoom_122 rfl gX7_aboutRoom_X6_weightOf rfl (is_X6 hB) ⟨rfl, qX6_weightOf⟩ ⟨rfl, rfl⟩ ⟨Nat.le_of_ble_eq_true rfl, Nat.le_of_ble_eq_true rfl⟩ rfl (Nat.le_of_ble_eq_true rfl) ⟨Nat.zero_le _, Nat.zero_le _⟩ (fun v1 σ1 τ1 hq => ?_)
  obtain ⟨rfl, rfl, rfl⟩ := hq
  exact y_iret C rfl dX7_aboutRoom_125 (⟨by rw [num_6 w hw w1_0 w1_1 w1_2 w1_3 w1_4 w1_5, ← inv_cs I]; rfl, rfl, rfl⟩)
theorem num_7o : ∀ w, w < 9 → (¬ (7 : Int32) ≤ nI w ∨ nI w = 7 ∨ nI w = 8) := by decide +kernel
theorem num_7 (w : Nat) (h : w < 9) (h1 : (7 : Int32) ≤ nI w) (h2 : ¬ nI w = 7) : nI w = 8 := by
  rcases num_7o w h with e | e | e
  · exact absurd h1 e
  · exact absurd e h2
  · exact e
theorem num_lt7o : ∀ w, w < 9 → ((7 : Int32) ≤ nI w ∨ (w < 7 ∧ ¬ nI w = 7 ∧ ¬ nI w = 8)) := by decide +kernel
theorem num_lt7 (w : Nat) (h : w < 9) (h1 : ¬ (7 : Int32) ≤ nI w) : w < 7 ∧ ¬ nI w = 7 ∧ ¬ nI w = 8 := (num_lt7o w h).resolve_left h1
set_option maxHeartbeats 4000000 in
set_option maxRecDepth 100000 in
theorem e_X9_sensorTold (σ : xS) (τ : xT) {r : Rw} (hM : σ 166 = r) {R ns nr ne t tl : Nat} (I : Inv r R ns nr ne t tl) (i w : Nat) (hi : i < ns) (hw : w < 9) : Xi mX9_sensorTold [.ref 165, .int (nI i), .int (nI w)] σ τ (fun o σ1 τ1 => o = (mSenT r i (nI w)) ∧ σ = σ1 ∧ τ = τ1) := by
  have hR4 := I.1.1.2.2
  have hs8 := I.1.2.1.2
  have hr8 := I.1.2.2.1.2
  refine Xi_mk (L := [some (.ref 165), some (.int (nI i)), some (.int (nI w))]) (by decide) rfl (Nat.le_of_ble_eq_true rfl) rfl (fun x C => ?_)
  refine y_iload_n C dX9_sensorTold_0 rfl ?_
  refine y_bipush (v := 7) C dX9_sensorTold_1 (by decide) ?_
  refine y_icmp_ge (t := 15) C dX9_sensorTold_3 (by decide) (fun c3 => ?_) (fun c3 => ?_)
  · -- t
    refine y_iload_n C dX9_sensorTold_15 rfl ?_
    refine y_bipush (v := 7) C dX9_sensorTold_16 (by decide) ?_
    refine y_icmp_ne (t := 37) C dX9_sensorTold_18 (by decide) (fun c18 => ?_) (fun c18 => ?_)
    · -- t
      refine y_aload_n C dX9_sensorTold_37 rfl ?_
      refine y_iload_n C dX9_sensorTold_38 rfl ?_
      refine y_callVi C (e_X9_votes _ _ hM I i hi) dX9_sensorTold_39 rfl gX9_sensorTold_X9_votes rfl (is_X9) ⟨rfl, qX9_votes⟩ ⟨rfl, rfl⟩ ⟨Nat.le_of_ble_eq_true rfl, Nat.le_of_ble_eq_true rfl⟩ rfl (Nat.le_of_ble_eq_true rfl) ⟨Nat.zero_le _, Nat.zero_le _⟩ (fun v1 σ1 τ1 hq => ?_)
      obtain ⟨rfl, rfl, rfl⟩ := hq
      refine y_if_eq (t := 49) C dX9_sensorTold_42 (by decide) (fun c42 => ?_) (fun c42 => ?_)
      · -- t
        refine y_iconst (v := 0) C dX9_sensorTold_49 (by decide) ?_
        exact y_iret C rfl dX9_sensorTold_50 (⟨by
            simp only [mSenT]
            first
              | (have q := num_lt7 w hw c3; rw [if_neg q.2.1, if_neg q.2.2, cN_nI (by omega)]; done)
              | (rw [if_pos c18]; rcases mExcI_01 r i with q | q <;> simp_all; done)
              | (rw [if_pos (Decidable.not_not.mp c18)]; rcases mExcI_01 r i with q | q <;> simp_all; done)
              | (have q8 := num_7 w hw c3 c18; rw [if_neg c18, if_pos q8]; rcases mVotI_01 r i with q | q <;> simp_all; done), rfl, rfl⟩)
      · -- f
        refine y_iconst (v := 1) C dX9_sensorTold_45 (by decide) ?_
        refine y_goto (t := 50) C dX9_sensorTold_46 (by decide) ?_
        exact y_iret C rfl dX9_sensorTold_50 (⟨by
            simp only [mSenT]
            first
              | (have q := num_lt7 w hw c3; rw [if_neg q.2.1, if_neg q.2.2, cN_nI (by omega)]; done)
              | (rw [if_pos c18]; rcases mExcI_01 r i with q | q <;> simp_all; done)
              | (rw [if_pos (Decidable.not_not.mp c18)]; rcases mExcI_01 r i with q | q <;> simp_all; done)
              | (have q8 := num_7 w hw c3 c18; rw [if_neg c18, if_pos q8]; rcases mVotI_01 r i with q | q <;> simp_all; done), rfl, rfl⟩)
    · -- f
      refine y_aload_n C dX9_sensorTold_21 rfl ?_
      refine y_iload_n C dX9_sensorTold_22 rfl ?_
      refine y_callVi C (e_X9_isExcited _ _ hM I i hi) dX9_sensorTold_23 rfl gX9_sensorTold_X9_isExcited rfl (is_X9) ⟨rfl, qX9_isExcited⟩ ⟨rfl, rfl⟩ ⟨Nat.le_of_ble_eq_true rfl, Nat.le_of_ble_eq_true rfl⟩ rfl (Nat.le_of_ble_eq_true rfl) ⟨Nat.zero_le _, Nat.zero_le _⟩ (fun v1 σ1 τ1 hq => ?_)
      obtain ⟨rfl, rfl, rfl⟩ := hq
      refine y_if_eq (t := 33) C dX9_sensorTold_26 (by decide) (fun c26 => ?_) (fun c26 => ?_)
      · -- t
        refine y_iconst (v := 0) C dX9_sensorTold_33 (by decide) ?_
        refine y_goto (t := 50) C dX9_sensorTold_34 (by decide) ?_
        exact y_iret C rfl dX9_sensorTold_50 (⟨by
            simp only [mSenT]
            first
              | (have q := num_lt7 w hw c3; rw [if_neg q.2.1, if_neg q.2.2, cN_nI (by omega)]; done)
              | (rw [if_pos c18]; rcases mExcI_01 r i with q | q <;> simp_all; done)
              | (rw [if_pos (Decidable.not_not.mp c18)]; rcases mExcI_01 r i with q | q <;> simp_all; done)
              | (have q8 := num_7 w hw c3 c18; rw [if_neg c18, if_pos q8]; rcases mVotI_01 r i with q | q <;> simp_all; done), rfl, rfl⟩)
      · -- f
        refine y_iconst (v := 1) C dX9_sensorTold_29 (by decide) ?_
        refine y_goto (t := 50) C dX9_sensorTold_30 (by decide) ?_
        exact y_iret C rfl dX9_sensorTold_50 (⟨by
            simp only [mSenT]
            first
              | (have q := num_lt7 w hw c3; rw [if_neg q.2.1, if_neg q.2.2, cN_nI (by omega)]; done)
              | (rw [if_pos c18]; rcases mExcI_01 r i with q | q <;> simp_all; done)
              | (rw [if_pos (Decidable.not_not.mp c18)]; rcases mExcI_01 r i with q | q <;> simp_all; done)
              | (have q8 := num_7 w hw c3 c18; rw [if_neg c18, if_pos q8]; rcases mVotI_01 r i with q | q <;> simp_all; done), rfl, rfl⟩)
  · -- f
    refine y_aload_n C dX9_sensorTold_6 rfl ?_
    refine y_iload_n C dX9_sensorTold_7 rfl ?_
    refine y_iload_n C dX9_sensorTold_8 rfl ?_
    refine y_callVi C (e_X9_its _ _ hM i w (by omega) (num_lt7 w hw c3).1) dX9_sensorTold_9 rfl gX9_sensorTold_X9_its rfl (is_X9) ⟨rfl, qX9_its⟩ ⟨rfl, rfl⟩ ⟨Nat.le_of_ble_eq_true rfl, Nat.le_of_ble_eq_true rfl⟩ rfl (Nat.le_of_ble_eq_true rfl) ⟨Nat.zero_le _, Nat.zero_le _⟩ (fun v1 σ1 τ1 hq => ?_)
    obtain ⟨rfl, rfl, rfl⟩ := hq
    refine y_goto (t := 50) C dX9_sensorTold_12 (by decide) ?_
    exact y_iret C rfl dX9_sensorTold_50 (⟨by
        simp only [mSenT]
        first
          | (have q := num_lt7 w hw c3; rw [if_neg q.2.1, if_neg q.2.2, cN_nI (by omega)]; done)
          | (rw [if_pos c18]; rcases mExcI_01 r i with q | q <;> simp_all; done)
          | (rw [if_pos (Decidable.not_not.mp c18)]; rcases mExcI_01 r i with q | q <;> simp_all; done)
          | (have q8 := num_7 w hw c3 c18; rw [if_neg c18, if_pos q8]; rcases mVotI_01 r i with q | q <;> simp_all; done), rfl, rfl⟩)
set_option maxHeartbeats 4000000 in
set_option maxRecDepth 100000 in
theorem e_X7_aboutSensor {B : Nat} (hB : isW B) {r : Rw} (σ : xS) (τ : xT) (hR : Rel σ B r) {R ns nr ne t tl : Nat} (I : Inv r R ns nr ne t tl) (i w : Nat) (hi : i < ns) (hw : w < 9) : Xi mX7_aboutSensor [.ref B, .int (nI i), .int (nI w)] σ τ (fun o σ1 τ1 => o = (mSenT r i (nI w)) ∧ σ = σ1 ∧ τ = τ1) := by
  have hR4 := I.1.1.2.2
  have hs8 := I.1.2.1.2
  have hr8 := I.1.2.2.1.2
  refine Xi_mk (L := [some (.ref B), some (.int (nI i)), some (.int (nI w))]) (by decide) rfl (Nat.le_of_ble_eq_true rfl) rfl (fun x C => ?_)
  refine y_iload_n C dX7_aboutSensor_0 rfl ?_
  by_cases w1_0 : nI w = 0
  ·
    refine y_tableIn (t := 48) C dX7_aboutSensor_1 (by rw [w1_0]; decide) (by rw [w1_0]; decide) (by first | (rw [w1_0]; done) | (rw [w1_0]; rfl)) (by decide) ?_
    refine y_aload_n C dX7_aboutSensor_48 rfl ?_
    refine g_X7_sensors C hB dX7_aboutSensor_49 (by decide +kernel) (by decide +kernel) ?_
    refine g_X6_room C hB dX7_aboutSensor_52 (by decide +kernel) (by decide +kernel) ?_
    refine y_iload_n C dX7_aboutSensor_55 rfl ?_
    refine aR C hB hR (57 + 7 * i + 0) 6 i 8 (pl_s _ (by have := I.1.2.1.2; omega) _ (by decide)) (lv_s (by have := I.1.2.1.2; omega) (by decide) (inv_s I hi)) (by decide) rfl (by decide) rfl (by have := I.1.2.1.2; omega) dX7_aboutSensor_56 ?_
    exact y_iret C rfl dX7_aboutSensor_57 (⟨by rw [w1_0]; rfl, rfl, rfl⟩)
  by_cases w1_1 : nI w = 1
  ·
    refine y_tableIn (t := 58) C dX7_aboutSensor_1 (by rw [w1_1]; decide) (by rw [w1_1]; decide) (by first | (rw [w1_1]; done) | (rw [w1_1]; rfl)) (by decide) ?_
    refine y_aload_n C dX7_aboutSensor_58 rfl ?_
    refine g_X7_sensors C hB dX7_aboutSensor_59 (by decide +kernel) (by decide +kernel) ?_
    refine g_X6_kind C hB dX7_aboutSensor_62 (by decide +kernel) (by decide +kernel) ?_
    refine y_iload_n C dX7_aboutSensor_65 rfl ?_
    refine aR C hB hR (57 + 7 * i + 1) 7 i 8 (pl_s _ (by have := I.1.2.1.2; omega) _ (by decide)) (lv_s (by have := I.1.2.1.2; omega) (by decide) (inv_s I hi)) (by decide) rfl (by decide) rfl (by have := I.1.2.1.2; omega) dX7_aboutSensor_66 ?_
    exact y_iret C rfl dX7_aboutSensor_67 (⟨by rw [w1_1]; rfl, rfl, rfl⟩)
  by_cases w1_2 : nI w = 2
  ·
    refine y_tableIn (t := 68) C dX7_aboutSensor_1 (by rw [w1_2]; decide) (by rw [w1_2]; decide) (by first | (rw [w1_2]; done) | (rw [w1_2]; rfl)) (by decide) ?_
    refine y_aload_n C dX7_aboutSensor_68 rfl ?_
    refine g_X7_sensors C hB dX7_aboutSensor_69 (by decide +kernel) (by decide +kernel) ?_
    refine g_X6_threshold C hB dX7_aboutSensor_72 (by decide +kernel) (by decide +kernel) ?_
    refine y_iload_n C dX7_aboutSensor_75 rfl ?_
    refine aR C hB hR (57 + 7 * i + 2) 8 i 8 (pl_s _ (by have := I.1.2.1.2; omega) _ (by decide)) (lv_s (by have := I.1.2.1.2; omega) (by decide) (inv_s I hi)) (by decide) rfl (by decide) rfl (by have := I.1.2.1.2; omega) dX7_aboutSensor_76 ?_
    exact y_iret C rfl dX7_aboutSensor_77 (⟨by rw [w1_2]; rfl, rfl, rfl⟩)
  by_cases w1_3 : nI w = 3
  ·
    refine y_tableIn (t := 78) C dX7_aboutSensor_1 (by rw [w1_3]; decide) (by rw [w1_3]; decide) (by first | (rw [w1_3]; done) | (rw [w1_3]; rfl)) (by decide) ?_
    refine y_aload_n C dX7_aboutSensor_78 rfl ?_
    refine g_X7_sensors C hB dX7_aboutSensor_79 (by decide +kernel) (by decide +kernel) ?_
    refine g_X6_delay C hB dX7_aboutSensor_82 (by decide +kernel) (by decide +kernel) ?_
    refine y_iload_n C dX7_aboutSensor_85 rfl ?_
    refine aR C hB hR (57 + 7 * i + 3) 9 i 8 (pl_s _ (by have := I.1.2.1.2; omega) _ (by decide)) (lv_s (by have := I.1.2.1.2; omega) (by decide) (inv_s I hi)) (by decide) rfl (by decide) rfl (by have := I.1.2.1.2; omega) dX7_aboutSensor_86 ?_
    exact y_iret C rfl dX7_aboutSensor_87 (⟨by rw [w1_3]; rfl, rfl, rfl⟩)
  by_cases w1_4 : nI w = 4
  ·
    refine y_tableIn (t := 88) C dX7_aboutSensor_1 (by rw [w1_4]; decide) (by rw [w1_4]; decide) (by first | (rw [w1_4]; done) | (rw [w1_4]; rfl)) (by decide) ?_
    refine y_aload_n C dX7_aboutSensor_88 rfl ?_
    refine g_X7_sensors C hB dX7_aboutSensor_89 (by decide +kernel) (by decide +kernel) ?_
    refine g_X6_weight C hB dX7_aboutSensor_92 (by decide +kernel) (by decide +kernel) ?_
    refine y_iload_n C dX7_aboutSensor_95 rfl ?_
    refine aR C hB hR (57 + 7 * i + 4) 10 i 8 (pl_s _ (by have := I.1.2.1.2; omega) _ (by decide)) (lv_s (by have := I.1.2.1.2; omega) (by decide) (inv_s I hi)) (by decide) rfl (by decide) rfl (by have := I.1.2.1.2; omega) dX7_aboutSensor_96 ?_
    exact y_iret C rfl dX7_aboutSensor_97 (⟨by rw [w1_4]; rfl, rfl, rfl⟩)
  by_cases w1_5 : nI w = 5
  ·
    refine y_tableIn (t := 98) C dX7_aboutSensor_1 (by rw [w1_5]; decide) (by rw [w1_5]; decide) (by first | (rw [w1_5]; done) | (rw [w1_5]; rfl)) (by decide) ?_
    refine y_aload_n C dX7_aboutSensor_98 rfl ?_
    refine g_X7_sensors C hB dX7_aboutSensor_99 (by decide +kernel) (by decide +kernel) ?_
    refine g_X6_fault C hB dX7_aboutSensor_102 (by decide +kernel) (by decide +kernel) ?_
    refine y_iload_n C dX7_aboutSensor_105 rfl ?_
    refine aR C hB hR (57 + 7 * i + 5) 11 i 8 (pl_s _ (by have := I.1.2.1.2; omega) _ (by decide)) (lv_s (by have := I.1.2.1.2; omega) (by decide) (inv_s I hi)) (by decide) rfl (by decide) rfl (by have := I.1.2.1.2; omega) dX7_aboutSensor_106 ?_
    exact y_iret C rfl dX7_aboutSensor_107 (⟨by rw [w1_5]; rfl, rfl, rfl⟩)
  by_cases w1_6 : nI w = 6
  ·
    refine y_tableIn (t := 108) C dX7_aboutSensor_1 (by rw [w1_6]; decide) (by rw [w1_6]; decide) (by first | (rw [w1_6]; done) | (rw [w1_6]; rfl)) (by decide) ?_
    refine y_aload_n C dX7_aboutSensor_108 rfl ?_
    refine g_X7_sensors C hB dX7_aboutSensor_109 (by decide +kernel) (by decide +kernel) ?_
    refine g_X6_excitedFor C hB dX7_aboutSensor_112 (by decide +kernel) (by decide +kernel) ?_
    refine y_iload_n C dX7_aboutSensor_115 rfl ?_
    refine aR C hB hR (57 + 7 * i + 6) 12 i 8 (pl_s _ (by have := I.1.2.1.2; omega) _ (by decide)) (lv_s (by have := I.1.2.1.2; omega) (by decide) (inv_s I hi)) (by decide) rfl (by decide) rfl (by have := I.1.2.1.2; omega) dX7_aboutSensor_116 ?_
    exact y_iret C rfl dX7_aboutSensor_117 (⟨by rw [w1_6]; rfl, rfl, rfl⟩)
  by_cases w1_7 : nI w = 7
  ·
    refine y_tableIn (t := 118) C dX7_aboutSensor_1 (by rw [w1_7]; decide) (by rw [w1_7]; decide) (by first | (rw [w1_7]; done) | (rw [w1_7]; rfl)) (by decide) ?_
    refine y_aload_n C dX7_aboutSensor_118 rfl ?_
    refine y_iload_n C dX7_aboutSensor_119 rfl ?_
    refine y_callVi C (e_X7_isExcited hB _ _ hR I i hi) dX7_aboutSensor_120 rfl gX7_aboutSensor_X7_isExcited rfl (is_X7 hB) ⟨rfl, qX7_isExcited⟩ ⟨rfl, rfl⟩ ⟨Nat.le_of_ble_eq_true rfl, Nat.le_of_ble_eq_true rfl⟩ rfl (Nat.le_of_ble_eq_true rfl) ⟨Nat.zero_le _, Nat.zero_le _⟩ (fun v1 σ1 τ1 hq => ?_)
    obtain ⟨rfl, rfl, rfl⟩ := hq
    refine y_if_eq (t := 130) C dX7_aboutSensor_123 (by decide) (fun c123 => ?_) (fun c123 => ?_)
    · -- t
      refine y_iconst (v := 0) C dX7_aboutSensor_130 (by decide) ?_
      exact y_iret C rfl dX7_aboutSensor_131 (⟨by rw [w1_7]; show _ = mExcI r i; rcases mExcI_01 r i with q | q <;> simp_all, rfl, rfl⟩)
    · -- f
      refine y_iconst (v := 1) C dX7_aboutSensor_126 (by decide) ?_
      refine y_goto (t := 131) C dX7_aboutSensor_127 (by decide) ?_
      exact y_iret C rfl dX7_aboutSensor_131 (⟨by rw [w1_7]; show _ = mExcI r i; rcases mExcI_01 r i with q | q <;> simp_all, rfl, rfl⟩)
  refine y_tableOut (t := 132) C dX7_aboutSensor_1 (by have q0 : ¬ (nI w).toInt = 0 := lv_neT w1_0 (by decide); have q1 : ¬ (nI w).toInt = 1 := lv_neT w1_1 (by decide); have q2 : ¬ (nI w).toInt = 2 := lv_neT w1_2 (by decide); have q3 : ¬ (nI w).toInt = 3 := lv_neT w1_3 (by decide); have q4 : ¬ (nI w).toInt = 4 := lv_neT w1_4 (by decide); have q5 : ¬ (nI w).toInt = 5 := lv_neT w1_5 (by decide); have q6 : ¬ (nI w).toInt = 6 := lv_neT w1_6 (by decide); have q7 : ¬ (nI w).toInt = 7 := lv_neT w1_7 (by decide); omega) (by decide) ?_
  refine y_aload_n C dX7_aboutSensor_132 rfl ?_
  refine g_X7_sensors C hB dX7_aboutSensor_133 (by decide +kernel) (by decide +kernel) ?_
  refine y_iload_n C dX7_aboutSensor_136 rfl ?_
  refine y_callVi C (e_X6_votes hB _ _ hR I i hi) dX7_aboutSensor_137 rfl gX7_aboutSensor_X6_votes rfl (is_X6 hB) ⟨rfl, qX6_votes⟩ ⟨rfl, rfl⟩ ⟨Nat.le_of_ble_eq_true rfl, Nat.le_of_ble_eq_true rfl⟩ rfl (Nat.le_of_ble_eq_true rfl) ⟨Nat.zero_le _, Nat.zero_le _⟩ (fun v1 σ1 τ1 hq => ?_)
  obtain ⟨rfl, rfl, rfl⟩ := hq
  refine y_if_eq (t := 147) C dX7_aboutSensor_140 (by decide) (fun c140 => ?_) (fun c140 => ?_)
  · -- t
    refine y_iconst (v := 0) C dX7_aboutSensor_147 (by decide) ?_
    exact y_iret C rfl dX7_aboutSensor_148 (⟨by rw [num_8 w hw w1_0 w1_1 w1_2 w1_3 w1_4 w1_5 w1_6 w1_7]; show _ = mVotI r i; rcases mVotI_01 r i with q | q <;> simp_all, rfl, rfl⟩)
  · -- f
    refine y_iconst (v := 1) C dX7_aboutSensor_143 (by decide) ?_
    refine y_goto (t := 148) C dX7_aboutSensor_144 (by decide) ?_
    exact y_iret C rfl dX7_aboutSensor_148 (⟨by rw [num_8 w hw w1_0 w1_1 w1_2 w1_3 w1_4 w1_5 w1_6 w1_7]; show _ = mVotI r i; rcases mVotI_01 r i with q | q <;> simp_all, rfl, rfl⟩)
theorem nI_inj4 (w : Nat) (h : w < 4) (v : Nat) (hv : v < 4) (e : nI w = nI v) : w = v := (nI_eq (by omega) (by omega)).mp e
set_option maxHeartbeats 4000000 in
set_option maxRecDepth 100000 in
theorem e_X1_about {B : Nat} (hB : isW B) {r : Rw} (σ : xS) (τ : xT) (hR : Rel σ B r) {R ns nr ne t tl : Nat} (I : Inv r R ns nr ne t tl) (i w : Nat) (hi : i < ne) (hw : w < 4) : Xi mX1_about [.ref (B + 21), .int (nI i), .int (nI w)] σ τ (fun o σ1 τ1 => o = (r (145 + 4 * i + w)) ∧ σ = σ1 ∧ τ = τ1) := by
  refine Xi_mk (L := [some (.ref (B + 21)), some (.int (nI i)), some (.int (nI w))]) (by decide) rfl (Nat.le_of_ble_eq_true rfl) rfl (fun x C => ?_)
  refine y_iload_n C dX1_about_0 rfl ?_
  by_cases w1_0 : nI w = 0
  ·
    refine y_tableIn (t := 28) C dX1_about_1 (by rw [w1_0]; decide) (by rw [w1_0]; decide) (by first | (rw [w1_0]; done) | (rw [w1_0]; rfl)) (by decide) ?_
    refine y_aload_n C dX1_about_28 rfl ?_
    refine g_X1_minute C hB dX1_about_29 (by decide +kernel) (by decide +kernel) ?_
    refine y_iload_n C dX1_about_32 rfl ?_
    refine aR C hB hR (145 + 4 * i + 0) 22 i 20 (pl_e _ (by have := I.1.2.2.2.1.2; omega) _ (by decide)) (lv_e (by have := I.1.2.2.2.1.2; omega) (by decide) (inv_e I hi)) (by decide) rfl (by decide) rfl (by have := I.1.2.2.2.1.2; omega) dX1_about_33 ?_
    exact y_iret C rfl dX1_about_34 (⟨by obtain rfl : w = 0 := by { have := w1_0; exact nI_inj4 w hw 0 (by decide) this }; rfl, rfl, rfl⟩)
  by_cases w1_1 : nI w = 1
  ·
    refine y_tableIn (t := 35) C dX1_about_1 (by rw [w1_1]; decide) (by rw [w1_1]; decide) (by first | (rw [w1_1]; done) | (rw [w1_1]; rfl)) (by decide) ?_
    refine y_aload_n C dX1_about_35 rfl ?_
    refine g_X1_kind C hB dX1_about_36 (by decide +kernel) (by decide +kernel) ?_
    refine y_iload_n C dX1_about_39 rfl ?_
    refine aR C hB hR (145 + 4 * i + 1) 23 i 20 (pl_e _ (by have := I.1.2.2.2.1.2; omega) _ (by decide)) (lv_e (by have := I.1.2.2.2.1.2; omega) (by decide) (inv_e I hi)) (by decide) rfl (by decide) rfl (by have := I.1.2.2.2.1.2; omega) dX1_about_40 ?_
    exact y_iret C rfl dX1_about_41 (⟨by obtain rfl : w = 1 := by { have := w1_1; exact nI_inj4 w hw 1 (by decide) this }; rfl, rfl, rfl⟩)
  by_cases w1_2 : nI w = 2
  ·
    refine y_tableIn (t := 42) C dX1_about_1 (by rw [w1_2]; decide) (by rw [w1_2]; decide) (by first | (rw [w1_2]; done) | (rw [w1_2]; rfl)) (by decide) ?_
    refine y_aload_n C dX1_about_42 rfl ?_
    refine g_X1_a C hB dX1_about_43 (by decide +kernel) (by decide +kernel) ?_
    refine y_iload_n C dX1_about_46 rfl ?_
    refine aR C hB hR (145 + 4 * i + 2) 24 i 20 (pl_e _ (by have := I.1.2.2.2.1.2; omega) _ (by decide)) (lv_e (by have := I.1.2.2.2.1.2; omega) (by decide) (inv_e I hi)) (by decide) rfl (by decide) rfl (by have := I.1.2.2.2.1.2; omega) dX1_about_47 ?_
    exact y_iret C rfl dX1_about_48 (⟨by obtain rfl : w = 2 := by { have := w1_2; exact nI_inj4 w hw 2 (by decide) this }; rfl, rfl, rfl⟩)
  refine y_tableOut (t := 49) C dX1_about_1 (by have q0 : ¬ (nI w).toInt = 0 := lv_neT w1_0 (by decide); have q1 : ¬ (nI w).toInt = 1 := lv_neT w1_1 (by decide); have q2 : ¬ (nI w).toInt = 2 := lv_neT w1_2 (by decide); omega) (by decide) ?_
  refine y_aload_n C dX1_about_49 rfl ?_
  refine g_X1_b C hB dX1_about_50 (by decide +kernel) (by decide +kernel) ?_
  refine y_iload_n C dX1_about_53 rfl ?_
  refine aR C hB hR (145 + 4 * i + 3) 25 i 20 (pl_e _ (by have := I.1.2.2.2.1.2; omega) _ (by decide)) (lv_e (by have := I.1.2.2.2.1.2; omega) (by decide) (inv_e I hi)) (by decide) rfl (by decide) rfl (by have := I.1.2.2.2.1.2; omega) dX1_about_54 ?_
  exact y_iret C rfl dX1_about_55 (⟨by obtain rfl : w = 3 := nI_inj4 w hw 3 (by decide) (num_3 w hw w1_0 w1_1 w1_2); rfl, rfl, rfl⟩)
set_option maxHeartbeats 4000000 in
set_option maxRecDepth 100000 in
theorem e_X9_canBe (σ : xS) (τ : xT) (u v : Int32) : Xi mX9_canBe [.int u, .int v] σ τ (fun o σ1 τ1 => o = (mCanI u v) ∧ σ = σ1 ∧ τ = τ1) := by
  refine Xi_mk (L := [some (.int u), some (.int v)]) (by decide) rfl (Nat.le_of_ble_eq_true rfl) rfl (fun x C => ?_)
  refine y_iload_n C dX9_canBe_0 rfl ?_
  by_cases w1_0 : u = 0
  ·
    refine y_tableIn (t := 40) C dX9_canBe_1 (by rw [w1_0]; decide) (by rw [w1_0]; decide) (by first | (rw [w1_0]; done) | (rw [w1_0]; rfl)) (by decide) ?_
    refine y_iload_n C dX9_canBe_40 rfl ?_
    refine y_iconst (v := 0) C dX9_canBe_41 (by decide) ?_
    refine y_bipush (v := 60) C dX9_canBe_42 (by decide) ?_
    refine y_callSi C (e_X9_within _ _ _ _ _) dX9_canBe_44 rfl gX9_canBe_X9_within rfl qX9_within ⟨rfl, rfl⟩ ⟨Nat.le_of_ble_eq_true rfl, Nat.le_of_ble_eq_true rfl⟩ rfl (Nat.le_of_ble_eq_true rfl) ⟨Nat.zero_le _, Nat.zero_le _⟩ (fun v1 σ1 τ1 hq => ?_)
    obtain ⟨rfl, rfl, rfl⟩ := hq
    exact y_zret C rfl dX9_canBe_47 (by first | exact mWithI_01 _ _ _ | exact Or.inl rfl) (⟨by rw [w1_0]; rfl, rfl, rfl⟩)
  by_cases w1_1 : u = 1
  ·
    refine y_tableIn (t := 48) C dX9_canBe_1 (by rw [w1_1]; decide) (by rw [w1_1]; decide) (by first | (rw [w1_1]; done) | (rw [w1_1]; rfl)) (by decide) ?_
    refine y_iload_n C dX9_canBe_48 rfl ?_
    refine y_iconst (v := 2) C dX9_canBe_49 (by decide) ?_
    refine y_bipush (v := 9) C dX9_canBe_50 (by decide) ?_
    refine y_callSi C (e_X9_within _ _ _ _ _) dX9_canBe_52 rfl gX9_canBe_X9_within rfl qX9_within ⟨rfl, rfl⟩ ⟨Nat.le_of_ble_eq_true rfl, Nat.le_of_ble_eq_true rfl⟩ rfl (Nat.le_of_ble_eq_true rfl) ⟨Nat.zero_le _, Nat.zero_le _⟩ (fun v1 σ1 τ1 hq => ?_)
    obtain ⟨rfl, rfl, rfl⟩ := hq
    exact y_zret C rfl dX9_canBe_55 (by first | exact mWithI_01 _ _ _ | exact Or.inl rfl) (⟨by rw [w1_1]; rfl, rfl, rfl⟩)
  by_cases w1_2 : u = 2
  ·
    refine y_tableIn (t := 56) C dX9_canBe_1 (by rw [w1_2]; decide) (by rw [w1_2]; decide) (by first | (rw [w1_2]; done) | (rw [w1_2]; rfl)) (by decide) ?_
    refine y_iload_n C dX9_canBe_56 rfl ?_
    refine y_iconst (v := 0) C dX9_canBe_57 (by decide) ?_
    refine y_bipush (v := 30) C dX9_canBe_58 (by decide) ?_
    refine y_callSi C (e_X9_within _ _ _ _ _) dX9_canBe_60 rfl gX9_canBe_X9_within rfl qX9_within ⟨rfl, rfl⟩ ⟨Nat.le_of_ble_eq_true rfl, Nat.le_of_ble_eq_true rfl⟩ rfl (Nat.le_of_ble_eq_true rfl) ⟨Nat.zero_le _, Nat.zero_le _⟩ (fun v1 σ1 τ1 hq => ?_)
    obtain ⟨rfl, rfl, rfl⟩ := hq
    exact y_zret C rfl dX9_canBe_63 (by first | exact mWithI_01 _ _ _ | exact Or.inl rfl) (⟨by rw [w1_2]; rfl, rfl, rfl⟩)
  by_cases w1_3 : u = 3
  ·
    refine y_tableIn (t := 64) C dX9_canBe_1 (by rw [w1_3]; decide) (by rw [w1_3]; decide) (by first | (rw [w1_3]; done) | (rw [w1_3]; rfl)) (by decide) ?_
    refine y_iload_n C dX9_canBe_64 rfl ?_
    refine y_iconst (v := 0) C dX9_canBe_65 (by decide) ?_
    refine y_iconst (v := 1) C dX9_canBe_66 (by decide) ?_
    refine y_callSi C (e_X9_within _ _ _ _ _) dX9_canBe_67 rfl gX9_canBe_X9_within rfl qX9_within ⟨rfl, rfl⟩ ⟨Nat.le_of_ble_eq_true rfl, Nat.le_of_ble_eq_true rfl⟩ rfl (Nat.le_of_ble_eq_true rfl) ⟨Nat.zero_le _, Nat.zero_le _⟩ (fun v1 σ1 τ1 hq => ?_)
    obtain ⟨rfl, rfl, rfl⟩ := hq
    exact y_zret C rfl dX9_canBe_70 (by first | exact mWithI_01 _ _ _ | exact Or.inl rfl) (⟨by rw [w1_3]; rfl, rfl, rfl⟩)
  by_cases w1_4 : u = 4
  ·
    refine y_tableIn (t := 71) C dX9_canBe_1 (by rw [w1_4]; decide) (by rw [w1_4]; decide) (by first | (rw [w1_4]; done) | (rw [w1_4]; rfl)) (by decide) ?_
    refine y_iload_n C dX9_canBe_71 rfl ?_
    refine y_iconst (v := 0) C dX9_canBe_72 (by decide) ?_
    refine y_bipush (v := 8) C dX9_canBe_73 (by decide) ?_
    refine y_callSi C (e_X9_within _ _ _ _ _) dX9_canBe_75 rfl gX9_canBe_X9_within rfl qX9_within ⟨rfl, rfl⟩ ⟨Nat.le_of_ble_eq_true rfl, Nat.le_of_ble_eq_true rfl⟩ rfl (Nat.le_of_ble_eq_true rfl) ⟨Nat.zero_le _, Nat.zero_le _⟩ (fun v1 σ1 τ1 hq => ?_)
    obtain ⟨rfl, rfl, rfl⟩ := hq
    exact y_zret C rfl dX9_canBe_78 (by first | exact mWithI_01 _ _ _ | exact Or.inl rfl) (⟨by rw [w1_4]; rfl, rfl, rfl⟩)
  by_cases w1_5 : u = 5
  ·
    refine y_tableIn (t := 79) C dX9_canBe_1 (by rw [w1_5]; decide) (by rw [w1_5]; decide) (by first | (rw [w1_5]; done) | (rw [w1_5]; rfl)) (by decide) ?_
    refine y_iload_n C dX9_canBe_79 rfl ?_
    refine y_iconst (v := 0) C dX9_canBe_80 (by decide) ?_
    refine y_sipush (v := 999) C dX9_canBe_81 (by decide) ?_
    refine y_callSi C (e_X9_within _ _ _ _ _) dX9_canBe_84 rfl gX9_canBe_X9_within rfl qX9_within ⟨rfl, rfl⟩ ⟨Nat.le_of_ble_eq_true rfl, Nat.le_of_ble_eq_true rfl⟩ rfl (Nat.le_of_ble_eq_true rfl) ⟨Nat.zero_le _, Nat.zero_le _⟩ (fun v1 σ1 τ1 hq => ?_)
    obtain ⟨rfl, rfl, rfl⟩ := hq
    exact y_zret C rfl dX9_canBe_87 (by first | exact mWithI_01 _ _ _ | exact Or.inl rfl) (⟨by rw [w1_5]; rfl, rfl, rfl⟩)
  refine y_tableOut (t := 88) C dX9_canBe_1 (by have q0 : ¬ (u).toInt = 0 := lv_neT w1_0 (by decide); have q1 : ¬ (u).toInt = 1 := lv_neT w1_1 (by decide); have q2 : ¬ (u).toInt = 2 := lv_neT w1_2 (by decide); have q3 : ¬ (u).toInt = 3 := lv_neT w1_3 (by decide); have q4 : ¬ (u).toInt = 4 := lv_neT w1_4 (by decide); have q5 : ¬ (u).toInt = 5 := lv_neT w1_5 (by decide); omega) (by decide) ?_
  refine y_iconst (v := 0) C dX9_canBe_88 (by decide) ?_
  exact y_zret C rfl dX9_canBe_89 (by first | exact mWithI_01 _ _ _ | exact Or.inl rfl) (⟨by simp only [mCanI]; rw [if_neg w1_0, if_neg w1_1, if_neg w1_2, if_neg w1_3, if_neg w1_4, if_neg w1_5], rfl, rfl⟩)
set_option maxHeartbeats 4000000 in
set_option maxRecDepth 100000 in
theorem e_X9_isSensor (σ : xS) (τ : xT) {r : Rw} (hM : σ 166 = r) {R ns nr ne t tl : Nat} (I : Inv r R ns nr ne t tl) (u : Int32) : Xi mX9_isSensor [.ref 165, .int u] σ τ (fun o σ1 τ1 => o = (mSensI r u) ∧ σ = σ1 ∧ τ = τ1) := by
  refine Xi_mk (L := [some (.ref 165), some (.int u)]) (by decide) rfl (Nat.le_of_ble_eq_true rfl) rfl (fun x C => ?_)
  refine y_iload_n C dX9_isSensor_0 rfl ?_
  refine y_iconst (v := 0) C dX9_isSensor_1 (by decide) ?_
  refine y_aload_n C dX9_isSensor_2 rfl ?_
  refine g_X9_now C dX9_isSensor_3 (by decide +kernel) (by decide +kernel) ?_
  refine y_bipush (v := 10) C dX9_isSensor_6 (by decide) ?_
  refine mA C hM 10 rfl (by decide) dX9_isSensor_8 ?_
  refine y_iconst (v := 1) C dX9_isSensor_9 (by decide) ?_
  refine y_isub C dX9_isSensor_10 ?_
  refine y_callSi C (e_X9_within _ _ _ _ _) dX9_isSensor_11 rfl gX9_isSensor_X9_within rfl qX9_within ⟨rfl, rfl⟩ ⟨Nat.le_of_ble_eq_true rfl, Nat.le_of_ble_eq_true rfl⟩ rfl (Nat.le_of_ble_eq_true rfl) ⟨Nat.zero_le _, Nat.zero_le _⟩ (fun v1 σ1 τ1 hq => ?_)
  obtain ⟨rfl, rfl, rfl⟩ := hq
  exact y_zret C rfl dX9_isSensor_14 (mWithI_01 _ _ _) (⟨by simp only [mSensI]; rw [I.1.2.1.1]; exact with_pred (by have := I.1.2.1.2; omega) u, rfl, rfl⟩)
theorem isRoom_eq {r : Rw} {R ns nr ne t tl : Nat} (I : Inv r R ns nr ne t tl) (u : Int32) : mWithI u 0 (r 6 - 1) = mRoomI r u := by
  simp only [mRoomI]
  rw [I.1.1.1]
  exact with_pred (by have := I.1.1.2.2; omega) u
set_option maxHeartbeats 4000000 in
set_option maxRecDepth 100000 in
theorem e_X9_areDoor (σ : xS) (τ : xT) {r : Rw} (hM : σ 166 = r) (u v : Int32) : Xi mX9_areDoor [.ref 165, .int u, .int v] σ τ (fun o σ1 τ1 => o = (if ¬ mPlacI r u = 0 ∧ ¬ mPlacI r v = 0 then 1 else 0) ∧ σ = σ1 ∧ τ = τ1) := by
  refine Xi_mk (L := [some (.ref 165), some (.int u), some (.int v)]) (by decide) rfl (Nat.le_of_ble_eq_true rfl) rfl (fun x C => ?_)
  refine y_iload_n C dX9_areDoor_0 rfl ?_
  refine y_iconst (v := 0) C dX9_areDoor_1 (by decide) ?_
  refine y_aload_n C dX9_areDoor_2 rfl ?_
  refine g_X9_now C dX9_areDoor_3 (by decide +kernel) (by decide +kernel) ?_
  refine y_bipush (v := 6) C dX9_areDoor_6 (by decide) ?_
  refine mA C hM 6 rfl (by decide) dX9_areDoor_8 ?_
  refine y_callSi C (e_X9_within _ _ _ _ _) dX9_areDoor_9 rfl gX9_areDoor_X9_within rfl qX9_within ⟨rfl, rfl⟩ ⟨Nat.le_of_ble_eq_true rfl, Nat.le_of_ble_eq_true rfl⟩ rfl (Nat.le_of_ble_eq_true rfl) ⟨Nat.zero_le _, Nat.zero_le _⟩ (fun v1 σ1 τ1 hq => ?_)
  obtain ⟨rfl, rfl, rfl⟩ := hq
  refine y_topE (mPlacI r u) rfl ?_
  refine y_if_eq (t := 34) C dX9_areDoor_12 (by decide) (fun c12 => ?_) (fun c12 => ?_)
  · -- t
    refine y_iconst (v := 0) C dX9_areDoor_34 (by decide) ?_
    exact y_zret C rfl dX9_areDoor_35 (by first | exact Or.inl rfl | exact Or.inr rfl) (⟨by simp_all, rfl, rfl⟩)
  · -- f
    refine y_iload_n C dX9_areDoor_15 rfl ?_
    refine y_iconst (v := 0) C dX9_areDoor_16 (by decide) ?_
    refine y_aload_n C dX9_areDoor_17 rfl ?_
    refine g_X9_now C dX9_areDoor_18 (by decide +kernel) (by decide +kernel) ?_
    refine y_bipush (v := 6) C dX9_areDoor_21 (by decide) ?_
    refine mA C hM 6 rfl (by decide) dX9_areDoor_23 ?_
    refine y_callSi C (e_X9_within _ _ _ _ _) dX9_areDoor_24 rfl gX9_areDoor_X9_within rfl qX9_within ⟨rfl, rfl⟩ ⟨Nat.le_of_ble_eq_true rfl, Nat.le_of_ble_eq_true rfl⟩ rfl (Nat.le_of_ble_eq_true rfl) ⟨Nat.zero_le _, Nat.zero_le _⟩ (fun v1 σ1 τ1 hq => ?_)
    obtain ⟨rfl, rfl, rfl⟩ := hq
    refine y_topE (mPlacI r v) rfl ?_
    refine y_if_eq (t := 34) C dX9_areDoor_27 (by decide) (fun c27 => ?_) (fun c27 => ?_)
    · -- t
      refine y_iconst (v := 0) C dX9_areDoor_34 (by decide) ?_
      exact y_zret C rfl dX9_areDoor_35 (by first | exact Or.inl rfl | exact Or.inr rfl) (⟨by simp_all, rfl, rfl⟩)
    · -- f
      refine y_iconst (v := 1) C dX9_areDoor_30 (by decide) ?_
      refine y_goto (t := 35) C dX9_areDoor_31 (by decide) ?_
      exact y_zret C rfl dX9_areDoor_35 (by first | exact Or.inl rfl | exact Or.inr rfl) (⟨by simp_all, rfl, rfl⟩)
set_option maxHeartbeats 4000000 in
set_option maxRecDepth 100000 in
theorem e_X8_isWithin (σ : xS) (τ : xT) (u v w : Int32) : Xi mX8_isWithin [.int u, .int v, .int w] σ τ (fun o σ1 τ1 => o = (mWithI u v w) ∧ σ = σ1 ∧ τ = τ1) := by
  refine Xi_mk (L := [some (.int u), some (.int v), some (.int w)]) (by decide) rfl (Nat.le_of_ble_eq_true rfl) rfl (fun x C => ?_)
  refine y_iload_n C dX8_isWithin_0 rfl ?_
  refine y_iload_n C dX8_isWithin_1 rfl ?_
  refine y_icmp_lt (t := 14) C dX8_isWithin_2 (by decide) (fun c2 => ?_) (fun c2 => ?_)
  · -- t
    refine y_iconst (v := 0) C dX8_isWithin_14 (by decide) ?_
    exact y_zret C rfl dX8_isWithin_15 (by first | exact Or.inl rfl | exact Or.inr rfl) (⟨by simp only [mWithI, Int32.lt_iff_toInt_lt, Int32.le_iff_toInt_le] at *; (repeat' split) <;> simp_all <;> omega, rfl, rfl⟩)
  · -- f
    refine y_iload_n C dX8_isWithin_5 rfl ?_
    refine y_iload_n C dX8_isWithin_6 rfl ?_
    refine y_icmp_gt (t := 14) C dX8_isWithin_7 (by decide) (fun c7 => ?_) (fun c7 => ?_)
    · -- t
      refine y_iconst (v := 0) C dX8_isWithin_14 (by decide) ?_
      exact y_zret C rfl dX8_isWithin_15 (by first | exact Or.inl rfl | exact Or.inr rfl) (⟨by simp only [mWithI, Int32.lt_iff_toInt_lt, Int32.le_iff_toInt_le] at *; (repeat' split) <;> simp_all <;> omega, rfl, rfl⟩)
    · -- f
      refine y_iconst (v := 1) C dX8_isWithin_10 (by decide) ?_
      refine y_goto (t := 15) C dX8_isWithin_11 (by decide) ?_
      exact y_zret C rfl dX8_isWithin_15 (by first | exact Or.inl rfl | exact Or.inr rfl) (⟨by simp only [mWithI, Int32.lt_iff_toInt_lt, Int32.le_iff_toInt_le] at *; (repeat' split) <;> simp_all <;> omega, rfl, rfl⟩)
set_option maxHeartbeats 4000000 in
set_option maxRecDepth 100000 in
theorem e_X7_allowsEvent {B : Nat} (hB : isW B) {r : Rw} (σ : xS) (τ : xT) (hR : Rel σ B r) (kd a b : Int32) : Xi mX7_allowsEvent [.ref B, .int kd, .int a, .int b] σ τ (fun o σ1 τ1 => o = (mEvtI r kd a b) ∧ σ = σ1 ∧ τ = τ1) := by
  refine Xi_mk (L := [some (.ref B), some (.int kd), some (.int a), some (.int b)]) (by decide) rfl (Nat.le_of_ble_eq_true rfl) rfl (fun x C => ?_)
  refine y_iload_n C dX7_allowsEvent_0 rfl ?_
  by_cases w1_0 : kd = 0
  ·
    refine y_tableIn (t := 36) C dX7_allowsEvent_1 (by rw [w1_0]; decide) (by rw [w1_0]; decide) (by first | (rw [w1_0]; done) | (rw [w1_0]; rfl)) (by decide) ?_
    refine y_aload_n C dX7_allowsEvent_36 rfl ?_
    refine g_X7_house C hB dX7_allowsEvent_37 (by decide +kernel) (by decide +kernel) ?_
    refine y_iload_n C dX7_allowsEvent_40 rfl ?_
    refine y_callVi C (e_X3_isRoom hB _ _ hR _) dX7_allowsEvent_41 rfl gX7_allowsEvent_X3_isRoom rfl (is_X3 hB) ⟨rfl, qX3_isRoom⟩ ⟨rfl, rfl⟩ ⟨Nat.le_of_ble_eq_true rfl, Nat.le_of_ble_eq_true rfl⟩ rfl (Nat.le_of_ble_eq_true rfl) ⟨Nat.zero_le _, Nat.zero_le _⟩ (fun v1 σ1 τ1 hq => ?_)
    obtain ⟨rfl, rfl, rfl⟩ := hq
    refine y_if_eq (t := 67) C dX7_allowsEvent_44 (by decide) (fun c44 => ?_) (fun c44 => ?_)
    · -- t
      refine y_iconst (v := 0) C dX7_allowsEvent_67 (by decide) ?_
      exact y_zret C rfl dX7_allowsEvent_68 (by first | exact Or.inl rfl | exact Or.inr rfl) (⟨by simp only [mEvtI]; rw [if_pos w1_0]; (try simp only [mWithI_ne, mWithI_eq0, mRoomI_ne, mRoomI_eq0, mPlacI_ne, mPlacI_eq0, mSensI_ne, mSensI_eq0] at *); first | (rw [if_pos (by simp_all)]; done) | (rw [if_neg (fun q => by first | exact absurd q.1 (by assumption) | exact absurd q.2 (by assumption) | exact absurd q.2.1 (by assumption) | exact absurd q.2.2 (by assumption) | exact q.2.2 (by assumption))]; done), rfl, rfl⟩)
    · -- f
      refine y_aload_n C dX7_allowsEvent_47 rfl ?_
      refine g_X7_house C hB dX7_allowsEvent_48 (by decide +kernel) (by decide +kernel) ?_
      refine y_iload_n C dX7_allowsEvent_51 rfl ?_
      refine y_callVi C (e_X3_isPlace hB _ _ hR _) dX7_allowsEvent_52 rfl gX7_allowsEvent_X3_isPlace rfl (is_X3 hB) ⟨rfl, qX3_isPlace⟩ ⟨rfl, rfl⟩ ⟨Nat.le_of_ble_eq_true rfl, Nat.le_of_ble_eq_true rfl⟩ rfl (Nat.le_of_ble_eq_true rfl) ⟨Nat.zero_le _, Nat.zero_le _⟩ (fun v1 σ1 τ1 hq => ?_)
      obtain ⟨rfl, rfl, rfl⟩ := hq
      refine y_if_eq (t := 67) C dX7_allowsEvent_55 (by decide) (fun c55 => ?_) (fun c55 => ?_)
      · -- t
        refine y_iconst (v := 0) C dX7_allowsEvent_67 (by decide) ?_
        exact y_zret C rfl dX7_allowsEvent_68 (by first | exact Or.inl rfl | exact Or.inr rfl) (⟨by simp only [mEvtI]; rw [if_pos w1_0]; (try simp only [mWithI_ne, mWithI_eq0, mRoomI_ne, mRoomI_eq0, mPlacI_ne, mPlacI_eq0, mSensI_ne, mSensI_eq0] at *); first | (rw [if_pos (by simp_all)]; done) | (rw [if_neg (fun q => by first | exact absurd q.1 (by assumption) | exact absurd q.2 (by assumption) | exact absurd q.2.1 (by assumption) | exact absurd q.2.2 (by assumption) | exact q.2.2 (by assumption))]; done), rfl, rfl⟩)
      · -- f
        refine y_iload_n C dX7_allowsEvent_58 rfl ?_
        refine y_iload_n C dX7_allowsEvent_59 rfl ?_
        refine y_icmp_eq (t := 67) C dX7_allowsEvent_60 (by decide) (fun c60 => ?_) (fun c60 => ?_)
        · -- t
          refine y_iconst (v := 0) C dX7_allowsEvent_67 (by decide) ?_
          exact y_zret C rfl dX7_allowsEvent_68 (by first | exact Or.inl rfl | exact Or.inr rfl) (⟨by simp only [mEvtI]; rw [if_pos w1_0]; (try simp only [mWithI_ne, mWithI_eq0, mRoomI_ne, mRoomI_eq0, mPlacI_ne, mPlacI_eq0, mSensI_ne, mSensI_eq0] at *); first | (rw [if_pos (by simp_all)]; done) | (rw [if_neg (fun q => by first | exact absurd q.1 (by assumption) | exact absurd q.2 (by assumption) | exact absurd q.2.1 (by assumption) | exact absurd q.2.2 (by assumption) | exact q.2.2 (by assumption))]; done), rfl, rfl⟩)
        · -- f
          refine y_iconst (v := 1) C dX7_allowsEvent_63 (by decide) ?_
          refine y_goto (t := 68) C dX7_allowsEvent_64 (by decide) ?_
          exact y_zret C rfl dX7_allowsEvent_68 (by first | exact Or.inl rfl | exact Or.inr rfl) (⟨by simp only [mEvtI]; rw [if_pos w1_0]; (try simp only [mWithI_ne, mWithI_eq0, mRoomI_ne, mRoomI_eq0, mPlacI_ne, mPlacI_eq0, mSensI_ne, mSensI_eq0] at *); first | (rw [if_pos (by simp_all)]; done) | (rw [if_neg (fun q => by first | exact absurd q.1 (by assumption) | exact absurd q.2 (by assumption) | exact absurd q.2.1 (by assumption) | exact absurd q.2.2 (by assumption) | exact q.2.2 (by assumption))]; done), rfl, rfl⟩)
  by_cases w1_1 : kd = 1
  ·
    refine y_tableIn (t := 69) C dX7_allowsEvent_1 (by rw [w1_1]; decide) (by rw [w1_1]; decide) (by first | (rw [w1_1]; done) | (rw [w1_1]; rfl)) (by decide) ?_
    refine y_iload_n C dX7_allowsEvent_69 rfl ?_
    refine y_iconst (v := 1) C dX7_allowsEvent_70 (by decide) ?_
    refine y_sipush (v := 200) C dX7_allowsEvent_71 (by decide) ?_
    refine y_callNi C (e_X8_isWithin _ _ _ _ _) dX7_allowsEvent_74 rfl gX7_allowsEvent_X8_isWithin_n208 rfl (by decide +kernel) (by decide +kernel) (by decide +kernel) qX8_isWithin ⟨rfl, rfl⟩ ⟨Nat.le_of_ble_eq_true rfl, Nat.le_of_ble_eq_true rfl⟩ rfl (Nat.le_of_ble_eq_true rfl) ⟨Nat.zero_le _, Nat.zero_le _⟩ (fun v1 σ1 τ1 hq => ?_)
    obtain ⟨rfl, rfl, rfl⟩ := hq
    refine y_if_eq (t := 88) C dX7_allowsEvent_77 (by decide) (fun c77 => ?_) (fun c77 => ?_)
    · -- t
      refine y_iconst (v := 0) C dX7_allowsEvent_88 (by decide) ?_
      exact y_zret C rfl dX7_allowsEvent_89 (by first | exact Or.inl rfl | exact Or.inr rfl) (⟨by simp only [mEvtI]; rw [if_neg w1_0, if_pos w1_1]; (try simp only [mWithI_ne, mWithI_eq0, mRoomI_ne, mRoomI_eq0, mPlacI_ne, mPlacI_eq0, mSensI_ne, mSensI_eq0] at *); first | (rw [if_pos (by simp_all)]; done) | (rw [if_neg (fun q => by first | exact absurd q.1 (by assumption) | exact absurd q.2 (by assumption) | exact absurd q.2.1 (by assumption) | exact absurd q.2.2 (by assumption) | exact q.2.2 (by assumption))]; done), rfl, rfl⟩)
    · -- f
      refine y_iload_n C dX7_allowsEvent_80 rfl ?_
      refine y_if_ne (t := 88) C dX7_allowsEvent_81 (by decide) (fun c81 => ?_) (fun c81 => ?_)
      · -- t
        refine y_iconst (v := 0) C dX7_allowsEvent_88 (by decide) ?_
        exact y_zret C rfl dX7_allowsEvent_89 (by first | exact Or.inl rfl | exact Or.inr rfl) (⟨by simp only [mEvtI]; rw [if_neg w1_0, if_pos w1_1]; (try simp only [mWithI_ne, mWithI_eq0, mRoomI_ne, mRoomI_eq0, mPlacI_ne, mPlacI_eq0, mSensI_ne, mSensI_eq0] at *); first | (rw [if_pos (by simp_all)]; done) | (rw [if_neg (fun q => by first | exact absurd q.1 (by assumption) | exact absurd q.2 (by assumption) | exact absurd q.2.1 (by assumption) | exact absurd q.2.2 (by assumption) | exact q.2.2 (by assumption))]; done), rfl, rfl⟩)
      · -- f
        refine y_iconst (v := 1) C dX7_allowsEvent_84 (by decide) ?_
        refine y_goto (t := 89) C dX7_allowsEvent_85 (by decide) ?_
        exact y_zret C rfl dX7_allowsEvent_89 (by first | exact Or.inl rfl | exact Or.inr rfl) (⟨by simp only [mEvtI]; rw [if_neg w1_0, if_pos w1_1]; (try simp only [mWithI_ne, mWithI_eq0, mRoomI_ne, mRoomI_eq0, mPlacI_ne, mPlacI_eq0, mSensI_ne, mSensI_eq0] at *); first | (rw [if_pos (by simp_all)]; done) | (rw [if_neg (fun q => by first | exact absurd q.1 (by assumption) | exact absurd q.2 (by assumption) | exact absurd q.2.1 (by assumption) | exact absurd q.2.2 (by assumption) | exact q.2.2 (by assumption))]; done), rfl, rfl⟩)
  by_cases w1_2 : kd = 2
  ·
    refine y_tableIn (t := 90) C dX7_allowsEvent_1 (by rw [w1_2]; decide) (by rw [w1_2]; decide) (by first | (rw [w1_2]; done) | (rw [w1_2]; rfl)) (by decide) ?_
    refine y_iload_n C dX7_allowsEvent_90 rfl ?_
    refine y_iconst (v := 0) C dX7_allowsEvent_91 (by decide) ?_
    refine y_bipush (v := 60) C dX7_allowsEvent_92 (by decide) ?_
    refine y_callNi C (e_X8_isWithin _ _ _ _ _) dX7_allowsEvent_94 rfl gX7_allowsEvent_X8_isWithin_n208 rfl (by decide +kernel) (by decide +kernel) (by decide +kernel) qX8_isWithin ⟨rfl, rfl⟩ ⟨Nat.le_of_ble_eq_true rfl, Nat.le_of_ble_eq_true rfl⟩ rfl (Nat.le_of_ble_eq_true rfl) ⟨Nat.zero_le _, Nat.zero_le _⟩ (fun v1 σ1 τ1 hq => ?_)
    obtain ⟨rfl, rfl, rfl⟩ := hq
    refine y_if_eq (t := 108) C dX7_allowsEvent_97 (by decide) (fun c97 => ?_) (fun c97 => ?_)
    · -- t
      refine y_iconst (v := 0) C dX7_allowsEvent_108 (by decide) ?_
      exact y_zret C rfl dX7_allowsEvent_109 (by first | exact Or.inl rfl | exact Or.inr rfl) (⟨by simp only [mEvtI]; rw [if_neg w1_0, if_neg w1_1, if_pos w1_2]; (try simp only [mWithI_ne, mWithI_eq0, mRoomI_ne, mRoomI_eq0, mPlacI_ne, mPlacI_eq0, mSensI_ne, mSensI_eq0] at *); first | (rw [if_pos (by simp_all)]; done) | (rw [if_neg (fun q => by first | exact absurd q.1 (by assumption) | exact absurd q.2 (by assumption) | exact absurd q.2.1 (by assumption) | exact absurd q.2.2 (by assumption) | exact q.2.2 (by assumption))]; done), rfl, rfl⟩)
    · -- f
      refine y_iload_n C dX7_allowsEvent_100 rfl ?_
      refine y_if_ne (t := 108) C dX7_allowsEvent_101 (by decide) (fun c101 => ?_) (fun c101 => ?_)
      · -- t
        refine y_iconst (v := 0) C dX7_allowsEvent_108 (by decide) ?_
        exact y_zret C rfl dX7_allowsEvent_109 (by first | exact Or.inl rfl | exact Or.inr rfl) (⟨by simp only [mEvtI]; rw [if_neg w1_0, if_neg w1_1, if_pos w1_2]; (try simp only [mWithI_ne, mWithI_eq0, mRoomI_ne, mRoomI_eq0, mPlacI_ne, mPlacI_eq0, mSensI_ne, mSensI_eq0] at *); first | (rw [if_pos (by simp_all)]; done) | (rw [if_neg (fun q => by first | exact absurd q.1 (by assumption) | exact absurd q.2 (by assumption) | exact absurd q.2.1 (by assumption) | exact absurd q.2.2 (by assumption) | exact q.2.2 (by assumption))]; done), rfl, rfl⟩)
      · -- f
        refine y_iconst (v := 1) C dX7_allowsEvent_104 (by decide) ?_
        refine y_goto (t := 109) C dX7_allowsEvent_105 (by decide) ?_
        exact y_zret C rfl dX7_allowsEvent_109 (by first | exact Or.inl rfl | exact Or.inr rfl) (⟨by simp only [mEvtI]; rw [if_neg w1_0, if_neg w1_1, if_pos w1_2]; (try simp only [mWithI_ne, mWithI_eq0, mRoomI_ne, mRoomI_eq0, mPlacI_ne, mPlacI_eq0, mSensI_ne, mSensI_eq0] at *); first | (rw [if_pos (by simp_all)]; done) | (rw [if_neg (fun q => by first | exact absurd q.1 (by assumption) | exact absurd q.2 (by assumption) | exact absurd q.2.1 (by assumption) | exact absurd q.2.2 (by assumption) | exact q.2.2 (by assumption))]; done), rfl, rfl⟩)
  by_cases w1_3 : kd = 3
  ·
    refine y_tableIn (t := 110) C dX7_allowsEvent_1 (by rw [w1_3]; decide) (by rw [w1_3]; decide) (by first | (rw [w1_3]; done) | (rw [w1_3]; rfl)) (by decide) ?_
    refine y_aload_n C dX7_allowsEvent_110 rfl ?_
    refine g_X7_sensors C hB dX7_allowsEvent_111 (by decide +kernel) (by decide +kernel) ?_
    refine y_iload_n C dX7_allowsEvent_114 rfl ?_
    refine y_callVi C (e_X6_has hB _ _ hR _) dX7_allowsEvent_115 rfl gX7_allowsEvent_X6_has rfl (is_X6 hB) ⟨rfl, qX6_has⟩ ⟨rfl, rfl⟩ ⟨Nat.le_of_ble_eq_true rfl, Nat.le_of_ble_eq_true rfl⟩ rfl (Nat.le_of_ble_eq_true rfl) ⟨Nat.zero_le _, Nat.zero_le _⟩ (fun v1 σ1 τ1 hq => ?_)
    obtain ⟨rfl, rfl, rfl⟩ := hq
    refine y_if_eq (t := 134) C dX7_allowsEvent_118 (by decide) (fun c118 => ?_) (fun c118 => ?_)
    · -- t
      refine y_iconst (v := 0) C dX7_allowsEvent_134 (by decide) ?_
      exact y_zret C rfl dX7_allowsEvent_135 (by first | exact Or.inl rfl | exact Or.inr rfl) (⟨by simp only [mEvtI]; rw [if_neg w1_0, if_neg w1_1, if_neg w1_2, if_pos w1_3]; (try simp only [mWithI_ne, mWithI_eq0, mRoomI_ne, mRoomI_eq0, mPlacI_ne, mPlacI_eq0, mSensI_ne, mSensI_eq0] at *); first | (rw [if_pos (by simp_all)]; done) | (rw [if_neg (fun q => by first | exact absurd q.1 (by assumption) | exact absurd q.2 (by assumption) | exact absurd q.2.1 (by assumption) | exact absurd q.2.2 (by assumption) | exact q.2.2 (by assumption))]; done), rfl, rfl⟩)
    · -- f
      refine y_iload_n C dX7_allowsEvent_121 rfl ?_
      refine y_iconst (v := 0) C dX7_allowsEvent_122 (by decide) ?_
      refine y_iconst (v := 2) C dX7_allowsEvent_123 (by decide) ?_
      refine y_callNi C (e_X8_isWithin _ _ _ _ _) dX7_allowsEvent_124 rfl gX7_allowsEvent_X8_isWithin_n208 rfl (by decide +kernel) (by decide +kernel) (by decide +kernel) qX8_isWithin ⟨rfl, rfl⟩ ⟨Nat.le_of_ble_eq_true rfl, Nat.le_of_ble_eq_true rfl⟩ rfl (Nat.le_of_ble_eq_true rfl) ⟨Nat.zero_le _, Nat.zero_le _⟩ (fun v1 σ1 τ1 hq => ?_)
      obtain ⟨rfl, rfl, rfl⟩ := hq
      refine y_if_eq (t := 134) C dX7_allowsEvent_127 (by decide) (fun c127 => ?_) (fun c127 => ?_)
      · -- t
        refine y_iconst (v := 0) C dX7_allowsEvent_134 (by decide) ?_
        exact y_zret C rfl dX7_allowsEvent_135 (by first | exact Or.inl rfl | exact Or.inr rfl) (⟨by simp only [mEvtI]; rw [if_neg w1_0, if_neg w1_1, if_neg w1_2, if_pos w1_3]; (try simp only [mWithI_ne, mWithI_eq0, mRoomI_ne, mRoomI_eq0, mPlacI_ne, mPlacI_eq0, mSensI_ne, mSensI_eq0] at *); first | (rw [if_pos (by simp_all)]; done) | (rw [if_neg (fun q => by first | exact absurd q.1 (by assumption) | exact absurd q.2 (by assumption) | exact absurd q.2.1 (by assumption) | exact absurd q.2.2 (by assumption) | exact q.2.2 (by assumption))]; done), rfl, rfl⟩)
      · -- f
        refine y_iconst (v := 1) C dX7_allowsEvent_130 (by decide) ?_
        refine y_goto (t := 135) C dX7_allowsEvent_131 (by decide) ?_
        exact y_zret C rfl dX7_allowsEvent_135 (by first | exact Or.inl rfl | exact Or.inr rfl) (⟨by simp only [mEvtI]; rw [if_neg w1_0, if_neg w1_1, if_neg w1_2, if_pos w1_3]; (try simp only [mWithI_ne, mWithI_eq0, mRoomI_ne, mRoomI_eq0, mPlacI_ne, mPlacI_eq0, mSensI_ne, mSensI_eq0] at *); first | (rw [if_pos (by simp_all)]; done) | (rw [if_neg (fun q => by first | exact absurd q.1 (by assumption) | exact absurd q.2 (by assumption) | exact absurd q.2.1 (by assumption) | exact absurd q.2.2 (by assumption) | exact q.2.2 (by assumption))]; done), rfl, rfl⟩)
  by_cases w1_4 : kd = 4
  ·
    refine y_tableIn (t := 136) C dX7_allowsEvent_1 (by rw [w1_4]; decide) (by rw [w1_4]; decide) (by first | (rw [w1_4]; done) | (rw [w1_4]; rfl)) (by decide) ?_
    refine y_iload_n C dX7_allowsEvent_136 rfl ?_
    refine y_if_ne (t := 148) C dX7_allowsEvent_137 (by decide) (fun c137 => ?_) (fun c137 => ?_)
    · -- t
      refine y_iconst (v := 0) C dX7_allowsEvent_148 (by decide) ?_
      exact y_zret C rfl dX7_allowsEvent_149 (by first | exact Or.inl rfl | exact Or.inr rfl) (⟨by simp only [mEvtI]; rw [if_neg w1_0, if_neg w1_1, if_neg w1_2, if_neg w1_3, if_pos w1_4]; (try simp only [mWithI_ne, mWithI_eq0, mRoomI_ne, mRoomI_eq0, mPlacI_ne, mPlacI_eq0, mSensI_ne, mSensI_eq0] at *); first | (rw [if_pos (by simp_all)]; done) | (rw [if_neg (fun q => by first | exact absurd q.1 (by assumption) | exact absurd q.2 (by assumption) | exact absurd q.2.1 (by assumption) | exact absurd q.2.2 (by assumption) | exact q.2.2 (by assumption))]; done), rfl, rfl⟩)
    · -- f
      refine y_iload_n C dX7_allowsEvent_140 rfl ?_
      refine y_if_ne (t := 148) C dX7_allowsEvent_141 (by decide) (fun c141 => ?_) (fun c141 => ?_)
      · -- t
        refine y_iconst (v := 0) C dX7_allowsEvent_148 (by decide) ?_
        exact y_zret C rfl dX7_allowsEvent_149 (by first | exact Or.inl rfl | exact Or.inr rfl) (⟨by simp only [mEvtI]; rw [if_neg w1_0, if_neg w1_1, if_neg w1_2, if_neg w1_3, if_pos w1_4]; (try simp only [mWithI_ne, mWithI_eq0, mRoomI_ne, mRoomI_eq0, mPlacI_ne, mPlacI_eq0, mSensI_ne, mSensI_eq0] at *); first | (rw [if_pos (by simp_all)]; done) | (rw [if_neg (fun q => by first | exact absurd q.1 (by assumption) | exact absurd q.2 (by assumption) | exact absurd q.2.1 (by assumption) | exact absurd q.2.2 (by assumption) | exact q.2.2 (by assumption))]; done), rfl, rfl⟩)
      · -- f
        refine y_iconst (v := 1) C dX7_allowsEvent_144 (by decide) ?_
        refine y_goto (t := 149) C dX7_allowsEvent_145 (by decide) ?_
        exact y_zret C rfl dX7_allowsEvent_149 (by first | exact Or.inl rfl | exact Or.inr rfl) (⟨by simp only [mEvtI]; rw [if_neg w1_0, if_neg w1_1, if_neg w1_2, if_neg w1_3, if_pos w1_4]; (try simp only [mWithI_ne, mWithI_eq0, mRoomI_ne, mRoomI_eq0, mPlacI_ne, mPlacI_eq0, mSensI_ne, mSensI_eq0] at *); first | (rw [if_pos (by simp_all)]; done) | (rw [if_neg (fun q => by first | exact absurd q.1 (by assumption) | exact absurd q.2 (by assumption) | exact absurd q.2.1 (by assumption) | exact absurd q.2.2 (by assumption) | exact q.2.2 (by assumption))]; done), rfl, rfl⟩)
  refine y_tableOut (t := 150) C dX7_allowsEvent_1 (by have q0 : ¬ (kd).toInt = 0 := lv_neT w1_0 (by decide); have q1 : ¬ (kd).toInt = 1 := lv_neT w1_1 (by decide); have q2 : ¬ (kd).toInt = 2 := lv_neT w1_2 (by decide); have q3 : ¬ (kd).toInt = 3 := lv_neT w1_3 (by decide); have q4 : ¬ (kd).toInt = 4 := lv_neT w1_4 (by decide); omega) (by decide) ?_
  refine y_iconst (v := 0) C dX7_allowsEvent_150 (by decide) ?_
  exact y_zret C rfl dX7_allowsEvent_151 (by first | exact Or.inl rfl | exact Or.inr rfl) (⟨by simp only [mEvtI]; rw [if_neg w1_0, if_neg w1_1, if_neg w1_2, if_neg w1_3, if_neg w1_4], rfl, rfl⟩)
