set_option maxHeartbeats 4000000 in
set_option maxRecDepth 100000 in
theorem l_thought {x : xC} {b0 : Nat} (T : Ct x mL_isThought) {r : Rw} {R ns nr ne t Tm : Nat} (G : Gd r R ns nr ne t) (ht : t ≤ Tm) (hT : Tm + 200 ≤ 1000000) (i N : Nat) (hi : i < R) (hN : 1 ≤ N ∧ N ≤ 12) (P : Int64) {Z : State → Prop} (kx : ∀ (kp : Nat) (qs : Nat → Rw), Gs Tm kp qs → Hs x b0 273 [some (.ref 0), some (.int (nI i)), some (.int (nI N)), some (.long P), none, some (.int (mAIn r i N)), some (.int (mMinN r N (20 + i))), some (.int (mBFo r N)), some (.int (r 14)), some (.int 1), some (.int (fA r i N)), some (.int (fB r N)), some (.int (nI (N + 1)))] [] r kp qs (16 + 6 * N) Z) : ∀ n k : Nat, k + n = N → ∀ (kp : Nat) (qs : Nat → Rw), Gs Tm kp qs → Hs x b0 142 [some (.ref 0), some (.int (nI i)), some (.int (nI N)), some (.long P), none, some (.int (mAIn r i N)), some (.int (mMinN r N (20 + i))), some (.int (mBFo r N)), some (.int (r 14)), some (.int 1), some (.int (fA r i k)), some (.int (fB r k)), some (.int (nI (k + 1)))] [] r kp qs (16 + 6 * k) Z := by
  have C := T.1
  intro n
  induction n with
  | zero =>
    intro k hk
    intro kp qs hs
    have hR4 := G.1.1.1.2.2
    refine h_iload C dL_isThought_142 rfl ?_
    refine h_iload_n C dL_isThought_144 rfl ?_
    refine h_icmp_gt (t := 273) C dL_isThought_145 (by decide) (fun kc145 => ?_) (fun kc145 => absurd (by rw [show k = N by omega]; exact nI_lt (by omega) (by omega)) kc145)
    obtain rfl : k = N := by omega
    exact kx kp qs hs
  | succ n ih =>
    intro k hk
    intro kp qs hs
    have hR4 := G.1.1.1.2.2
    obtain ⟨ne1, G1⟩ := Gd.minN (k + 1) G (by omega)
    have hs1 := hs.keep (G.k ht)
    refine h_iload C dL_isThought_142 rfl ?_
    refine h_iload_n C dL_isThought_144 rfl ?_
    refine h_icmp_gt (t := 273) C dL_isThought_145 (by decide) (fun kc145 => absurd kc145 (nI_nlt (by omega) (by omega))) (fun kc145 => ?_)
    refine h_iload C dL_isThought_148 rfl ?_
    refine h_if_eq (t := 273) C dL_isThought_150 (by decide) (fun kc150 => absurd kc150 (by decide)) (fun kc150 => ?_)
    refine h_aload_n C dL_isThought_153 rfl ?_
    refine h_iload C dL_isThought_154 rfl ?_
    refine h_callXs T (rd_pass G hs.1 (by omega) (k + 1) (by omega)) dL_isThought_156 rfl gL_isThought_L_pass rfl qL_pass ⟨rfl, rfl⟩ ⟨Nat.le_of_ble_eq_true rfl, Nat.le_of_ble_eq_true rfl⟩ rfl (Nat.le_of_ble_eq_true rfl) (Nat.le_of_ble_eq_true rfl) (by show _ ≤ 140; omega) ?_
    refine h_if_lt (t := 166) C dL_isThought_159 (by decide) (fun kc159 => absurd kc159 (pass_nn' G (k + 1) (by omega))) (fun kc159 => ?_)
    refine h_iconst (v := 1) C dL_isThought_162 (by decide) ?_
    refine h_goto (t := 167) C dL_isThought_163 (by decide) ?_
    refine h_istore C dL_isThought_167 (L' := [_, _, _, _, _, _, _, _, _, _, _, _, _]) (by decide) (Nat.lt_of_lt_of_le (by decide : (9 : Nat) < 13) (Nat.le_refl _)) rfl ?_
    refine h_join (t := 192) (v := .int (fA r i (k + 1))) (k' := 16 + 6 * k + 2) ?_ (fun K169 => ?_)
    ·
      refine h_istore C dL_isThought_192 (L' := [_, _, _, _, _, _, _, _, _, _, _, _, _]) (by decide) (Nat.lt_of_lt_of_le (by decide : (10 : Nat) < 13) (Nat.le_refl _)) rfl ?_
      refine h_join (t := 216) (v := .int (fB r (k + 1))) (k' := 16 + 6 * k + 3) ?_ (fun K194 => ?_)
      ·
        refine h_istore C dL_isThought_216 (L' := [_, _, _, _, _, _, _, _, _, _, _, _, _]) (by decide) (Nat.lt_of_lt_of_le (by decide : (11 : Nat) < 13) (Nat.le_refl _)) rfl ?_
        refine h_iload C dL_isThought_218 rfl ?_
        refine h_if_eq (t := 264) C dL_isThought_220 (by decide) (fun kc220 => absurd kc220 (by decide)) (fun kc220 => ?_)
        refine h_iload C dL_isThought_223 rfl ?_
        refine h_iload_n C dL_isThought_225 rfl ?_
        refine h_icmp_lt (t := 240) C dL_isThought_226 (by decide) (fun kc226 => ?_) (fun kc226 => ?_)
        · -- t
          refine h_aload_n C dL_isThought_240 rfl ?_
          refine h_iconst (v := 1) C dL_isThought_241 (by decide) ?_
          refine h_callXs T (rd_told1 G1 hs1.1) dL_isThought_242 rfl gL_isThought_L_told rfl qL_told ⟨rfl, rfl⟩ ⟨Nat.le_of_ble_eq_true rfl, Nat.le_of_ble_eq_true rfl⟩ rfl (Nat.le_of_ble_eq_true rfl) (Nat.le_of_ble_eq_true rfl) (by show _ ≤ 140; omega) ?_
          refine h_iload C dL_isThought_245 rfl ?_
          refine h_isub C dL_isThought_247 ?_
          refine h_iload C dL_isThought_248 rfl ?_
          refine h_icmp_gt (t := 264) C dL_isThought_250 (by decide) (fun kc250 => absurd kc250 (mv_le G (k + 1) (by omega))) (fun kc250 => ?_)
          refine h_aload_n C dL_isThought_253 rfl ?_
          refine h_callXs T (rd_undo G1 hs (G.k ht)) dL_isThought_254 rfl gL_isThought_L_undo rfl qL_undo ⟨rfl, rfl⟩ ⟨Nat.le_of_ble_eq_true rfl, Nat.le_of_ble_eq_true rfl⟩ rfl (Nat.le_of_ble_eq_true rfl) (Nat.le_of_ble_eq_true rfl) (by show _ ≤ 140; omega) ?_
          refine h_if_lt (t := 264) C dL_isThought_257 (by decide) (fun kc257 => absurd kc257 (nI_pos (by have := kK_le hs.1; omega))) (fun kc257 => ?_)
          refine h_iconst (v := 1) C dL_isThought_260 (by decide) ?_
          refine h_goto (t := 265) C dL_isThought_261 (by decide) ?_
          refine h_istore C dL_isThought_265 (L' := [_, _, _, _, _, _, _, _, _, _, _, _, _]) (by decide) (Nat.lt_of_lt_of_le (by decide : (9 : Nat) < 13) (Nat.le_refl _)) rfl ?_
          refine h_iinc C dL_isThought_267 (L' := [_, _, _, _, _, _, _, _, _, _, _, _, _]) (by decide) rfl (nI_1 (k + 1)) rfl ?_
          refine h_goto (t := 142) C dL_isThought_270 (by decide) ?_
          exact h_widen (by omega) (ih (k + 1) (by omega) _ _ (hs.keep (G.k ht)).back)
        · -- f
          refine h_aload_n C dL_isThought_229 rfl ?_
          refine h_iload_n C dL_isThought_230 rfl ?_
          refine h_iconst (v := 0) C dL_isThought_231 (by decide) ?_
          refine h_callXs T (rd_room0 G1 hs1.1 hi) dL_isThought_232 rfl gL_isThought_L_room rfl qL_room ⟨rfl, rfl⟩ ⟨Nat.le_of_ble_eq_true rfl, Nat.le_of_ble_eq_true rfl⟩ rfl (Nat.le_of_ble_eq_true rfl) (Nat.le_of_ble_eq_true rfl) (by show _ ≤ 140; omega) ?_
          refine h_iload C dL_isThought_235 rfl ?_
          refine h_icmp_ne (t := 264) C dL_isThought_237 (by decide) (fun kc237 => absurd (by rw [eq_top kc226 (by omega) (by omega)]) kc237) (fun kc237 => ?_)
          refine h_aload_n C dL_isThought_240 rfl ?_
          refine h_iconst (v := 1) C dL_isThought_241 (by decide) ?_
          refine h_callXs T (rd_told1 G1 hs1.1) dL_isThought_242 rfl gL_isThought_L_told rfl qL_told ⟨rfl, rfl⟩ ⟨Nat.le_of_ble_eq_true rfl, Nat.le_of_ble_eq_true rfl⟩ rfl (Nat.le_of_ble_eq_true rfl) (Nat.le_of_ble_eq_true rfl) (by show _ ≤ 140; omega) ?_
          refine h_iload C dL_isThought_245 rfl ?_
          refine h_isub C dL_isThought_247 ?_
          refine h_iload C dL_isThought_248 rfl ?_
          refine h_icmp_gt (t := 264) C dL_isThought_250 (by decide) (fun kc250 => absurd kc250 (mv_le G (k + 1) (by omega))) (fun kc250 => ?_)
          refine h_aload_n C dL_isThought_253 rfl ?_
          refine h_callXs T (rd_undo G1 hs (G.k ht)) dL_isThought_254 rfl gL_isThought_L_undo rfl qL_undo ⟨rfl, rfl⟩ ⟨Nat.le_of_ble_eq_true rfl, Nat.le_of_ble_eq_true rfl⟩ rfl (Nat.le_of_ble_eq_true rfl) (Nat.le_of_ble_eq_true rfl) (by show _ ≤ 140; omega) ?_
          refine h_if_lt (t := 264) C dL_isThought_257 (by decide) (fun kc257 => absurd kc257 (nI_pos (by have := kK_le hs.1; omega))) (fun kc257 => ?_)
          refine h_iconst (v := 1) C dL_isThought_260 (by decide) ?_
          refine h_goto (t := 265) C dL_isThought_261 (by decide) ?_
          refine h_istore C dL_isThought_265 (L' := [_, _, _, _, _, _, _, _, _, _, _, _, _]) (by decide) (Nat.lt_of_lt_of_le (by decide : (9 : Nat) < 13) (Nat.le_refl _)) rfl ?_
          refine h_iinc C dL_isThought_267 (L' := [_, _, _, _, _, _, _, _, _, _, _, _, _]) (by decide) rfl (nI_1 (k + 1)) rfl ?_
          refine h_goto (t := 142) C dL_isThought_270 (by decide) ?_
          exact h_widen (by omega) (ih (k + 1) (by omega) _ _ (hs.keep (G.k ht)).back)
      ·
        refine h_iload C dL_isThought_194 rfl ?_
        refine h_iconst (v := -1) C dL_isThought_196 (by decide) ?_
        refine h_icmp_ne (t := 214) C dL_isThought_197 (by decide) (fun kc197 => ?_) (fun kc197 => ?_)
        · -- t
          refine h_iload C dL_isThought_214 rfl ?_
          exact h_kE K194 (by omega) (by first | exact (fB_1 kc197).symm | exact (fB_2 kc206).symm | exact (fB_3 kc197 kc206).symm)
        · -- f
          refine h_aload_n C dL_isThought_200 rfl ?_
          refine h_bipush (v := 8) C dL_isThought_201 (by decide) ?_
          refine h_callXs T (rd_info8 G1 hs1.1) dL_isThought_203 rfl gL_isThought_L_info rfl qL_info ⟨rfl, rfl⟩ ⟨Nat.le_of_ble_eq_true rfl, Nat.le_of_ble_eq_true rfl⟩ rfl (Nat.le_of_ble_eq_true rfl) (Nat.le_of_ble_eq_true rfl) (by show _ ≤ 140; omega) ?_
          refine h_if_ne (t := 214) C dL_isThought_206 (by decide) (fun kc206 => ?_) (fun kc206 => ?_)
          · -- t
            refine h_iload C dL_isThought_214 rfl ?_
            exact h_kE K194 (by omega) (by first | exact (fB_1 kc197).symm | exact (fB_2 kc206).symm | exact (fB_3 kc197 kc206).symm)
          · -- f
            refine h_iload C dL_isThought_209 rfl ?_
            refine h_goto (t := 216) C dL_isThought_211 (by decide) ?_
            exact h_kE K194 (by omega) (by first | exact (fB_1 kc197).symm | exact (fB_2 kc206).symm | exact (fB_3 kc197 kc206).symm)
    ·
      refine h_iload C dL_isThought_169 rfl ?_
      refine h_iconst (v := -1) C dL_isThought_171 (by decide) ?_
      refine h_icmp_ne (t := 190) C dL_isThought_172 (by decide) (fun kc172 => ?_) (fun kc172 => ?_)
      · -- t
        refine h_iload C dL_isThought_190 rfl ?_
        exact h_kE K169 (by omega) (by first | exact (fA_1 kc172).symm | exact (fA_2 kc182).symm | exact (fA_3 kc172 kc182).symm)
      · -- f
        refine h_aload_n C dL_isThought_175 rfl ?_
        refine h_iload_n C dL_isThought_176 rfl ?_
        refine h_iconst (v := 3) C dL_isThought_177 (by decide) ?_
        refine h_callXs T (rd_room3 G1 hs1.1 hi) dL_isThought_178 rfl gL_isThought_L_room rfl qL_room ⟨rfl, rfl⟩ ⟨Nat.le_of_ble_eq_true rfl, Nat.le_of_ble_eq_true rfl⟩ rfl (Nat.le_of_ble_eq_true rfl) (Nat.le_of_ble_eq_true rfl) (by show _ ≤ 140; omega) ?_
        refine h_iconst (v := 1) C dL_isThought_181 (by decide) ?_
        refine h_icmp_ne (t := 190) C dL_isThought_182 (by decide) (fun kc182 => ?_) (fun kc182 => ?_)
        · -- t
          refine h_iload C dL_isThought_190 rfl ?_
          exact h_kE K169 (by omega) (by first | exact (fA_1 kc172).symm | exact (fA_2 kc182).symm | exact (fA_3 kc172 kc182).symm)
        · -- f
          refine h_iload C dL_isThought_185 rfl ?_
          refine h_goto (t := 192) C dL_isThought_187 (by decide) ?_
          exact h_kE K169 (by omega) (by first | exact (fA_1 kc172).symm | exact (fA_2 kc182).symm | exact (fA_3 kc172 kc182).symm)
set_option maxHeartbeats 4000000 in
set_option maxRecDepth 100000 in
theorem e_L_isThought {r : Rw} {R ns nr ne t kp Tm : Nat} {qs : Nat → Rw} (G : Gd r R ns nr ne t) (hs : Gs Tm kp qs) (ht : t ≤ Tm) (hT : Tm + 200 ≤ 1000000) (i N : Nat) (hi : i < R) (hN : 1 ≤ N ∧ N ≤ 12) : Xh 140 mL_isThought [.ref 0, .int (nI i), .int (nI N)] r kp qs (1) r (Gs Tm) := by
  refine Xh_mk (L := [some (.ref 0), some (.int (nI i)), some (.int (nI N)), none, none, none, none, none, none, none, none, none, none]) (by decide) rfl (Nat.le_of_ble_eq_true rfl) rfl (fun x b0 T => ?_)
  have C := T.1
  refine h_aload_n C dL_isThought_0 rfl ?_
  refine h_callXhl T (e_L_print G hs ht) dL_isThought_1 rfl gL_isThought_L_print rfl qL_print ⟨rfl, rfl⟩ ⟨Nat.le_of_ble_eq_true rfl, Nat.le_of_ble_eq_true rfl⟩ rfl (Nat.le_of_ble_eq_true rfl) (Nat.le_of_ble_eq_true rfl) (Nat.le_of_ble_eq_true rfl) (fun kp1 qs1 hs1 => ?_)
  refine h_lstore_n C dL_isThought_4 (L' := [_, _, _, _, _, _, _, _, _, _, _, _, _]) (by decide) (Nat.lt_of_lt_of_le (by decide : (3 : Nat) + 1 < 13) (Nat.le_refl _)) rfl ?_
  refine h_aload_n C dL_isThought_5 rfl ?_
  refine h_iload_n C dL_isThought_6 rfl ?_
  refine h_iload_n C dL_isThought_7 rfl ?_
  refine h_callXs T (rd_alarmIn G hs1.1 (by omega) hi (by omega)) dL_isThought_8 rfl gL_isThought_L_alarmIn rfl qL_alarmIn ⟨rfl, rfl⟩ ⟨Nat.le_of_ble_eq_true rfl, Nat.le_of_ble_eq_true rfl⟩ rfl (Nat.le_of_ble_eq_true rfl) (Nat.le_of_ble_eq_true rfl) (Nat.le_of_ble_eq_true rfl) ?_
  refine h_istore C dL_isThought_11 (L' := [_, _, _, _, _, _, _, _, _, _, _, _, _]) (by decide) (Nat.lt_of_lt_of_le (by decide : (5 : Nat) < 13) (Nat.le_refl _)) rfl ?_
  refine h_aload_n C dL_isThought_13 rfl ?_
  refine h_iload_n C dL_isThought_14 rfl ?_
  refine h_iload_n C dL_isThought_15 rfl ?_
  refine h_callXs T (rd_smokeAfter G hs1.1 (by omega) hi (by omega)) dL_isThought_16 rfl gL_isThought_L_smokeAfter rfl qL_smokeAfter ⟨rfl, rfl⟩ ⟨Nat.le_of_ble_eq_true rfl, Nat.le_of_ble_eq_true rfl⟩ rfl (Nat.le_of_ble_eq_true rfl) (Nat.le_of_ble_eq_true rfl) (Nat.le_of_ble_eq_true rfl) ?_
  refine h_istore C dL_isThought_19 (L' := [_, _, _, _, _, _, _, _, _, _, _, _, _]) (by decide) (Nat.lt_of_lt_of_le (by decide : (6 : Nat) < 13) (Nat.le_refl _)) rfl ?_
  refine h_aload_n C dL_isThought_21 rfl ?_
  refine h_iload_n C dL_isThought_22 rfl ?_
  refine h_callXs T (rd_burnsFor G hs1.1 (by omega) (by omega)) dL_isThought_23 rfl gL_isThought_L_burnsFor rfl qL_burnsFor ⟨rfl, rfl⟩ ⟨Nat.le_of_ble_eq_true rfl, Nat.le_of_ble_eq_true rfl⟩ rfl (Nat.le_of_ble_eq_true rfl) (Nat.le_of_ble_eq_true rfl) (Nat.le_of_ble_eq_true rfl) ?_
  refine h_istore C dL_isThought_26 (L' := [_, _, _, _, _, _, _, _, _, _, _, _, _]) (by decide) (Nat.lt_of_lt_of_le (by decide : (7 : Nat) < 13) (Nat.le_refl _)) rfl ?_
  refine h_aload_n C dL_isThought_28 rfl ?_
  refine h_iconst (v := 1) C dL_isThought_29 (by decide) ?_
  refine h_callXs T (rd_told1 G hs1.1) dL_isThought_30 rfl gL_isThought_L_told rfl qL_told ⟨rfl, rfl⟩ ⟨Nat.le_of_ble_eq_true rfl, Nat.le_of_ble_eq_true rfl⟩ rfl (Nat.le_of_ble_eq_true rfl) (Nat.le_of_ble_eq_true rfl) (Nat.le_of_ble_eq_true rfl) ?_
  refine h_istore C dL_isThought_33 (L' := [_, _, _, _, _, _, _, _, _, _, _, _, _]) (by decide) (Nat.lt_of_lt_of_le (by decide : (8 : Nat) < 13) (Nat.le_refl _)) rfl ?_
  refine h_aload_n C dL_isThought_35 rfl ?_
  refine h_callXhl T (e_L_print G hs1 ht) dL_isThought_36 rfl gL_isThought_L_print rfl qL_print ⟨rfl, rfl⟩ ⟨Nat.le_of_ble_eq_true rfl, Nat.le_of_ble_eq_true rfl⟩ rfl (Nat.le_of_ble_eq_true rfl) (Nat.le_of_ble_eq_true rfl) (Nat.le_of_ble_eq_true rfl) (fun kp2 qs2 hs2 => ?_)
  refine h_lload_n C dL_isThought_39 rfl ?_
  refine h_lcmp C dL_isThought_40 ?_
  refine h_if_ne (t := 103) C dL_isThought_41 (by decide) (fun kc41 => absurd ((lg_cmp_eq _ _).mpr rfl) kc41) (fun kc41 => ?_)
  refine h_join (t := 54) (v := .int (mAlaI r i)) (k' := 12) ?_ (fun K44 => ?_)
  ·
    refine h_join (t := 69) (v := .int (mAlaI r i)) (k' := 13) ?_ (fun K54 => ?_)
    ·
      refine h_icmp_ne (t := 103) C dL_isThought_69 (by decide) (fun kc69 => absurd (rfl) kc69) (fun kc69 => ?_)
      refine h_join (t := 82) (v := .int (if r 8 = 0 then (1 : Int32) else 0)) (k' := 13) ?_ (fun K72 => ?_)
      ·
        refine h_join (t := 96) (v := .int (if r 8 = 0 then (1 : Int32) else 0)) (k' := 14) ?_ (fun K82 => ?_)
        ·
          refine h_icmp_ne (t := 103) C dL_isThought_96 (by decide) (fun kc96 => absurd (rfl) kc96) (fun kc96 => ?_)
          refine h_iconst (v := 1) C dL_isThought_99 (by decide) ?_
          refine h_goto (t := 104) C dL_isThought_100 (by decide) ?_
          refine h_istore C dL_isThought_104 (L' := [_, _, _, _, _, _, _, _, _, _, _, _, _]) (by decide) (Nat.lt_of_lt_of_le (by decide : (9 : Nat) < 13) (Nat.le_refl _)) rfl ?_
          refine h_join (t := 121) (v := .int (fA r i 0)) (k' := 15) ?_ (fun K106 => ?_)
          ·
            refine h_istore C dL_isThought_121 (L' := [_, _, _, _, _, _, _, _, _, _, _, _, _]) (by decide) (Nat.lt_of_lt_of_le (by decide : (10 : Nat) < 13) (Nat.le_refl _)) rfl ?_
            refine h_join (t := 137) (v := .int (fB r 0)) (k' := 16) ?_ (fun K123 => ?_)
            ·
              refine h_istore C dL_isThought_137 (L' := [_, _, _, _, _, _, _, _, _, _, _, _, _]) (by decide) (Nat.lt_of_lt_of_le (by decide : (11 : Nat) < 13) (Nat.le_refl _)) rfl ?_
              refine h_iconst (v := 1) C dL_isThought_139 (by decide) ?_
              refine h_istore C dL_isThought_140 (L' := [_, _, _, _, _, _, _, _, _, _, _, _, _]) (by decide) (Nat.lt_of_lt_of_le (by decide : (12 : Nat) < 13) (Nat.le_refl _)) rfl ?_
              refine h_widen (k' := 16 + 6 * 0) (Nat.le_of_ble_eq_true rfl) ?_
              refine l_thought T G ht hT i N hi hN _ (fun kp3 qs3 hs3 => ?_) N 0 (Nat.zero_add _) kp2 qs2 hs2
              refine h_widen (k' := 100) (by omega) ?_
              refine h_iload C dL_isThought_273 rfl ?_
              refine h_if_eq (t := 305) C dL_isThought_275 (by decide) (fun kc275 => absurd kc275 (by decide)) (fun kc275 => ?_)
              refine h_iload C dL_isThought_278 rfl ?_
              refine h_iload C dL_isThought_280 rfl ?_
              refine h_icmp_ne (t := 305) C dL_isThought_282 (by decide) (fun kc282 => absurd (fA_N (by omega)) kc282) (fun kc282 => ?_)
              refine h_iload C dL_isThought_285 rfl ?_
              refine h_iload C dL_isThought_287 rfl ?_
              refine h_icmp_ne (t := 305) C dL_isThought_289 (by decide) (fun kc289 => absurd (fB_N (by omega)) kc289) (fun kc289 => ?_)
              refine h_aload_n C dL_isThought_292 rfl ?_
              refine h_callXhl T (e_L_print G hs3 ht) dL_isThought_293 rfl gL_isThought_L_print rfl qL_print ⟨rfl, rfl⟩ ⟨Nat.le_of_ble_eq_true rfl, Nat.le_of_ble_eq_true rfl⟩ rfl (Nat.le_of_ble_eq_true rfl) (Nat.le_of_ble_eq_true rfl) (Nat.le_of_ble_eq_true rfl) (fun kp4 qs4 hs4 => ?_)
              refine h_lload_n C dL_isThought_296 rfl ?_
              refine h_lcmp C dL_isThought_297 ?_
              refine h_if_ne (t := 305) C dL_isThought_298 (by decide) (fun kc298 => absurd ((lg_cmp_eq _ _).mpr rfl) kc298) (fun kc298 => ?_)
              refine h_iconst (v := 1) C dL_isThought_301 (by decide) ?_
              refine h_goto (t := 306) C dL_isThought_302 (by decide) ?_
              exact h_zret C rfl dL_isThought_306 (by decide) (Nat.le_of_ble_eq_true rfl) (hs4)
            ·
              refine h_aload_n C dL_isThought_123 rfl ?_
              refine h_bipush (v := 8) C dL_isThought_124 (by decide) ?_
              refine h_callXs T (rd_info8 G hs2.1) dL_isThought_126 rfl gL_isThought_L_info rfl qL_info ⟨rfl, rfl⟩ ⟨Nat.le_of_ble_eq_true rfl, Nat.le_of_ble_eq_true rfl⟩ rfl (Nat.le_of_ble_eq_true rfl) (Nat.le_of_ble_eq_true rfl) (Nat.le_of_ble_eq_true rfl) ?_
              refine h_if_ne (t := 136) C dL_isThought_129 (by decide) (fun kc129 => ?_) (fun kc129 => ?_)
              · -- t
                refine h_iconst (v := -1) C dL_isThought_136 (by decide) ?_
                exact h_kE K123 (by omega) (by first | exact fB_z1 kc129 | exact fB_z0 kc129)
              · -- f
                refine h_iconst (v := 0) C dL_isThought_132 (by decide) ?_
                refine h_goto (t := 137) C dL_isThought_133 (by decide) ?_
                exact h_kE K123 (by omega) (by first | exact fB_z1 kc129 | exact fB_z0 kc129)
          ·
            refine h_aload_n C dL_isThought_106 rfl ?_
            refine h_iload_n C dL_isThought_107 rfl ?_
            refine h_iconst (v := 3) C dL_isThought_108 (by decide) ?_
            refine h_callXs T (rd_room3 G hs2.1 hi) dL_isThought_109 rfl gL_isThought_L_room rfl qL_room ⟨rfl, rfl⟩ ⟨Nat.le_of_ble_eq_true rfl, Nat.le_of_ble_eq_true rfl⟩ rfl (Nat.le_of_ble_eq_true rfl) (Nat.le_of_ble_eq_true rfl) (Nat.le_of_ble_eq_true rfl) ?_
            refine h_iconst (v := 1) C dL_isThought_112 (by decide) ?_
            refine h_icmp_ne (t := 120) C dL_isThought_113 (by decide) (fun kc113 => ?_) (fun kc113 => ?_)
            · -- t
              refine h_iconst (v := -1) C dL_isThought_120 (by decide) ?_
              exact h_kE K106 (by omega) (by first | exact fA_z1 kc113 | exact fA_z0 kc113)
            · -- f
              refine h_iconst (v := 0) C dL_isThought_116 (by decide) ?_
              refine h_goto (t := 121) C dL_isThought_117 (by decide) ?_
              exact h_kE K106 (by omega) (by first | exact fA_z1 kc113 | exact fA_z0 kc113)
        ·
          refine h_aload_n C dL_isThought_82 rfl ?_
          refine h_bipush (v := 8) C dL_isThought_83 (by decide) ?_
          refine h_callXs T (rd_info8 G hs2.1) dL_isThought_85 rfl gL_isThought_L_info rfl qL_info ⟨rfl, rfl⟩ ⟨Nat.le_of_ble_eq_true rfl, Nat.le_of_ble_eq_true rfl⟩ rfl (Nat.le_of_ble_eq_true rfl) (Nat.le_of_ble_eq_true rfl) (Nat.le_of_ble_eq_true rfl) ?_
          refine h_if_ne (t := 95) C dL_isThought_88 (by decide) (fun kc88 => ?_) (fun kc88 => ?_)
          · -- t
            refine h_iconst (v := 0) C dL_isThought_95 (by decide) ?_
            exact h_kE K82 (by omega) (by first | exact (if_pos kc88).symm | exact (if_neg kc88).symm)
          · -- f
            refine h_iconst (v := 1) C dL_isThought_91 (by decide) ?_
            refine h_goto (t := 96) C dL_isThought_92 (by decide) ?_
            exact h_kE K82 (by omega) (by first | exact (if_pos kc88).symm | exact (if_neg kc88).symm)
      ·
        refine h_iload C dL_isThought_72 rfl ?_
        refine h_if_ne (t := 81) C dL_isThought_74 (by decide) (fun kc74 => ?_) (fun kc74 => ?_)
        · -- t
          refine h_iconst (v := 0) C dL_isThought_81 (by decide) ?_
          exact h_kE K72 (by omega) (by first | exact bn_1 kc74 | exact bn_0 (by omega) kc74)
        · -- f
          refine h_iconst (v := 1) C dL_isThought_77 (by decide) ?_
          refine h_goto (t := 82) C dL_isThought_78 (by decide) ?_
          exact h_kE K72 (by omega) (by first | exact bn_1 kc74 | exact bn_0 (by omega) kc74)
    ·
      refine h_aload_n C dL_isThought_54 rfl ?_
      refine h_iload_n C dL_isThought_55 rfl ?_
      refine h_iconst (v := 3) C dL_isThought_56 (by decide) ?_
      refine h_callXs T (rd_room3 G hs2.1 hi) dL_isThought_57 rfl gL_isThought_L_room rfl qL_room ⟨rfl, rfl⟩ ⟨Nat.le_of_ble_eq_true rfl, Nat.le_of_ble_eq_true rfl⟩ rfl (Nat.le_of_ble_eq_true rfl) (Nat.le_of_ble_eq_true rfl) (Nat.le_of_ble_eq_true rfl) ?_
      refine h_iconst (v := 1) C dL_isThought_60 (by decide) ?_
      refine h_icmp_ne (t := 68) C dL_isThought_61 (by decide) (fun kc61 => ?_) (fun kc61 => ?_)
      · -- t
        refine h_iconst (v := 0) C dL_isThought_68 (by decide) ?_
        exact h_kE K54 (by omega) (by first | exact kc61.symm | exact ((mAlaI_01 r i).resolve_right kc61).symm)
      · -- f
        refine h_iconst (v := 1) C dL_isThought_64 (by decide) ?_
        refine h_goto (t := 69) C dL_isThought_65 (by decide) ?_
        exact h_kE K54 (by omega) (by first | exact kc61.symm | exact ((mAlaI_01 r i).resolve_right kc61).symm)
  ·
    refine h_iload C dL_isThought_44 rfl ?_
    refine h_if_ne (t := 53) C dL_isThought_46 (by decide) (fun kc46 => ?_) (fun kc46 => ?_)
    · -- t
      refine h_iconst (v := 0) C dL_isThought_53 (by decide) ?_
      exact h_kE K44 (by omega) (by first | exact an_1 kc46 | exact an_0 (by omega) kc46)
    · -- f
      refine h_iconst (v := 1) C dL_isThought_49 (by decide) ?_
      refine h_goto (t := 54) C dL_isThought_50 (by decide) ?_
      exact h_kE K44 (by omega) (by first | exact an_1 kc46 | exact an_0 (by omega) kc46)
