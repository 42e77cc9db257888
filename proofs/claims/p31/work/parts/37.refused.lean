/-! refused(o): what the calls refuse -/
section RF
variable {r : Rw} {R ns nr ne t : Nat}
theorem out_room (G : Gd r R ns nr ne t) : mRoomI r (nI R) = 0 := mRoomI_eq0.mpr (fun h => absurd h.2 (by rw [G.1.1.1.1]; exact nI_nlt (Nat.le_refl _) (by have := G.1.1.1.2.2; omega)))
theorem in_room0 (G : Gd r R ns nr ne t) : ¬ mRoomI r 0 = 0 := mRoomI_ne.mpr ⟨by decide, by rw [G.1.1.1.1]; exact nI_lt (a := 0) (by have := G.1.1.1.2.1; omega) (by have := G.1.1.1.2.2; omega)⟩
theorem out_plac (G : Gd r R ns nr ne t) : mPlacI r (nI (R + 1)) = 0 := mPlacI_eq0.mpr (fun h => absurd h.2 (by rw [G.1.1.1.1]; exact nI_ge (by omega) (by have := G.1.1.1.2.2; omega)))
theorem in_placR (G : Gd r R ns nr ne t) : ¬ mPlacI r (nI R) = 0 := mPlacI_ne.mpr ⟨nI_pos' (by have := G.1.1.1.2.2; omega), by rw [G.1.1.1.1]; exact Int32.le_refl _⟩
theorem out_sens (G : Gd r R ns nr ne t) : mSensI r (nI ns) = 0 := mSensI_eq0.mpr (fun h => absurd h.2 (by rw [G.1.1.2.1.1]; exact nI_nlt (Nat.le_refl _) (by have := G.1.1.2.1.2; omega)))
theorem out_sens1 : mSensI r (-1) = 0 := mSensI_eq0.mpr (fun h => absurd h.1 (by decide))
theorem q_door1 (G : Gd r R ns nr ne t) (v : Int32) : kDoor r (nI (R + 1)) v = 1 := by unfold kDoor; rw [if_pos (Or.inl (out_plac G))]
theorem q_door2 (G : Gd r R ns nr ne t) : kDoor r (nI R) (nI R) = 2 := by unfold kDoor; rw [if_neg (fun z => z.elim (in_placR G) (in_placR G)), if_pos rfl]
theorem q_open1 (G : Gd r R ns nr ne t) (v : Int32) : kOpen r v (nI (R + 1)) = 1 := by unfold kOpen; rw [if_pos (Or.inr (out_plac G))]
theorem q_rw1 (G : Gd r R ns nr ne t) (v a b : Int32) : kRW r (nI R) v a b = 1 := by unfold kRW; rw [if_pos (out_room G)]
theorem q_rw2 (G : Gd r R ns nr ne t) {v a b : Int32} (h : mWithI v a b = 0) : kRW r 0 v a b = 2 := by unfold kRW; rw [if_neg (in_room0 G), if_pos h]
theorem q_sw1 (G : Gd r R ns nr ne t) (v a b : Int32) : kSW r (nI ns) v a b = 1 := by unfold kSW; rw [if_pos (out_sens G)]
theorem q_swm (v a b : Int32) : kSW r (-1) v a b = 1 := by unfold kSW; rw [if_pos out_sens1]
theorem q_pk1 (G : Gd r R ns nr ne t) (v a : Int32) : kPeak r (nI R) v a = 1 := by unfold kPeak; rw [if_pos (out_room G)]
theorem q_pk2 (G : Gd r R ns nr ne t) {v a : Int32} (h : mWithI v 0 8 = 0) : kPeak r 0 v a = 2 := by unfold kPeak; rw [if_neg (in_room0 G), if_pos (Or.inl h)]
theorem q_as1 (G : Gd r R ns nr ne t) (b c d e : Int32) : kASe r (nI R) b c d e = 1 := by unfold kASe; rw [if_pos (out_room G)]
theorem q_as2 (G : Gd r R ns nr ne t) {b c d e : Int32} (h : mWithI b 0 2 = 0 ∨ mWithI c 1 9999 = 0 ∨ mWithI d 0 9 = 0 ∨ mWithI e 1 3 = 0) : kASe r 0 b c d e = 2 := by unfold kASe; rw [if_neg (in_room0 G), if_pos h]
theorem q_as3 (G : Gd r R ns nr ne t) (h8 : ns = 8) {b c d e : Int32} (h : ¬ (mWithI b 0 2 = 0 ∨ mWithI c 1 9999 = 0 ∨ mWithI d 0 9 = 0 ∨ mWithI e 1 3 = 0)) : kASe r 0 b c d e = 3 := by unfold kASe; rw [if_neg (in_room0 G), if_neg h, if_pos (by rw [G.1.1.2.1.1, h8]; rfl)]
theorem q_ar1 (G : Gd r R ns nr ne t) (k b c : Int32) : kARu r k (nI R) b c = 1 := by unfold kARu; rw [if_pos (out_room G)]
theorem q_ar2 (G : Gd r R ns nr ne t) {k b c : Int32} (h : mWithI k 0 3 = 0 ∨ mWithI b 0 9999 = 0 ∨ mWithI c 0 8 = 0) : kARu r k 0 b c = 2 := by unfold kARu; rw [if_neg (in_room0 G), if_pos h]
theorem q_ar3 (G : Gd r R ns nr ne t) (h8 : nr = 8) {k b c : Int32} (h : ¬ (mWithI k 0 3 = 0 ∨ mWithI b 0 9999 = 0 ∨ mWithI c 0 8 = 0)) : kARu r k 0 b c = 3 := by unfold kARu; rw [if_neg (in_room0 G), if_neg h, if_pos (by rw [G.1.1.2.2.1.1, h8]; rfl)]
theorem q_rem (G : Gd r R ns nr ne t) : kRem r (nI nr) = 1 := by unfold kRem; rw [if_neg (fun h => absurd h.2 (by rw [G.1.1.2.2.1.1]; exact nI_nlt (Nat.le_refl _) (by have := G.1.1.2.2.1.2; omega)))]
theorem q_ev0 (G : Gd r R ns nr ne t) (k a b : Int32) : kAEv r (nI t) k a b = 1 := by
  unfold kAEv
  rw [if_pos (Or.inl ?_)]
  rw [G.1.1.2.2.2.2.1]
  exact (evt_win G.1.1.2.2.2.2.2 _).mpr (Or.inl (Int32.le_refl _))
theorem q_ev9 (G : Gd r R ns nr ne t) (k a b : Int32) : kAEv r (nI (t + 1000)) k a b = 1 := by
  have ht := G.1.1.2.2.2.2.2
  unfold kAEv
  rw [if_pos (Or.inl ?_)]
  rw [G.1.1.2.2.2.2.1]
  refine (evt_win ht _).mpr (Or.inr ?_)
  rw [show nI t + 999 = nI (t + 999) from nI_add t 999]
  exact nI_ge (by omega) (by omega)
theorem q_ev1 {m k a b : Int32} (h : mEvtI r k a b = 0) : kAEv r m k a b = 1 := by unfold kAEv; rw [if_pos (Or.inr h)]
theorem q_win (G : Gd r R ns nr ne t) : ¬ mWithI (nI (t + 1)) (r 7 + 1) (r 7 + 999) = 0 := by
  have ht := G.1.1.2.2.2.2.2
  rw [G.1.1.2.2.2.2.1]
  intro z
  rcases (evt_win ht _).mp z with q | q
  · exact nI_ge (Nat.lt_succ_self t) (by omega) q
  · exact q (by rw [show nI t + 999 = nI (t + 999) from nI_add t 999]; exact nI_le (by omega) (by omega))
theorem q_ev2 (G : Gd r R ns nr ne t) (h20 : ne = 20) {k a b : Int32} (h : ¬ mEvtI r k a b = 0) : kAEv r (nI (t + 1)) k a b = 2 := by unfold kAEv; rw [if_neg (fun z => z.elim (q_win G) h), if_pos (by rw [G.1.1.2.2.2.1.1, h20]; rfl)]
theorem q_k0 (a b : Int32) (h : a = b ∨ mRoomI r a = 0) : mEvtI r 0 a b = 0 := by
  unfold mEvtI
  rw [if_pos rfl, if_neg ?_]
  intro z
  rcases h with h | h
  · exact z.2.2 h
  · exact mRoomI_eq0.mp h z.1
theorem q_k3 (G : Gd r R ns nr ne t) (b : Int32) : mEvtI r 3 (nI ns) b = 0 := by
  unfold mEvtI
  rw [if_neg (by decide), if_neg (by decide), if_neg (by decide), if_pos rfl, if_neg (fun z => mSensI_eq0.mp (out_sens G) z.1)]
theorem q_kc (k a b : Int32) (h : ∀ q : Rw, mEvtI q k a b = 0) : mEvtI r k a b = 0 := h r
theorem q_evN (G : Gd r R ns nr ne t) {x : Int32} : (if 0 ≤ nI ne ∧ nI ne < r 12 then x else -1) = -1 := if_neg (fun h => absurd h.2 (by rw [G.1.1.2.2.2.1.1]; exact nI_nlt (Nat.le_refl _) (by have := G.1.1.2.2.2.1.2; omega)))
end RF
set_option maxHeartbeats 4000000 in
set_option maxRecDepth 100000 in
theorem e_L_refused {r : Rw} {R ns nr ne t kp Tm : Nat} {qs : Nat → Rw} (G : Gd r R ns nr ne t) (hs : Gs Tm kp qs) (ht : t ≤ Tm) (hT : Tm + 200 ≤ 1000000) : Xh 120 mL_refused [.ref 0] r kp qs (1) r (Gs Tm) := by
  refine Xh_mk (L := [some (.ref 0), none, none, none, none, none]) (by decide) rfl (Nat.le_of_ble_eq_true rfl) rfl (fun x b0 T => ?_)
  have C := T.1
  refine h_aload_n C dL_refused_0 rfl ?_
  refine h_callXhl T (e_L_print G hs ht) dL_refused_1 rfl gL_refused_L_print rfl qL_print ⟨rfl, rfl⟩ ⟨Nat.le_of_ble_eq_true rfl, Nat.le_of_ble_eq_true rfl⟩ rfl (Nat.le_of_ble_eq_true rfl) (Nat.le_of_ble_eq_true rfl) (Nat.le_of_ble_eq_true rfl) (fun kp1 qs1 hs1 => ?_)
  refine h_lstore_n C dL_refused_4 (L' := [_, _, _, _, _, _]) (by decide) (Nat.lt_of_lt_of_le (by decide : (1 : Nat) + 1 < 6) (Nat.le_refl _)) rfl ?_
  refine h_aload_n C dL_refused_5 rfl ?_
  refine h_bipush (v := 6) C dL_refused_6 (by decide) ?_
  refine h_callXs T (rd_info6 G hs1.1) dL_refused_8 rfl gL_refused_L_info rfl qL_info ⟨rfl, rfl⟩ ⟨Nat.le_of_ble_eq_true rfl, Nat.le_of_ble_eq_true rfl⟩ rfl (Nat.le_of_ble_eq_true rfl) (Nat.le_of_ble_eq_true rfl) (Nat.le_of_ble_eq_true rfl) ?_
  refine h_istore_n C dL_refused_11 (L' := [_, _, _, _, _, _]) (by decide) (Nat.lt_of_lt_of_le (by decide : (3 : Nat) < 6) (Nat.le_refl _)) rfl ?_
  refine h_aload_n C dL_refused_12 rfl ?_
  refine h_bipush (v := 7) C dL_refused_13 (by decide) ?_
  refine h_callXs T (rd_info7 G hs1.1) dL_refused_15 rfl gL_refused_L_info rfl qL_info ⟨rfl, rfl⟩ ⟨Nat.le_of_ble_eq_true rfl, Nat.le_of_ble_eq_true rfl⟩ rfl (Nat.le_of_ble_eq_true rfl) (Nat.le_of_ble_eq_true rfl) (Nat.le_of_ble_eq_true rfl) ?_
  refine h_istore C dL_refused_18 (L' := [_, _, _, _, _, _]) (by decide) (Nat.lt_of_lt_of_le (by decide : (4 : Nat) < 6) (Nat.le_refl _)) rfl ?_
  refine h_aload_n C dL_refused_20 rfl ?_
  refine h_iconst (v := 0) C dL_refused_21 (by decide) ?_
  have q22 : kW (0) 1 4 = 1 := by decide
  refine h_callXs T (Xs_v (n_begin G.1 hs1.1 (0) (by rw [q22]; decide)) (v' := -2051) (by rw [q22]; rfl)) dL_refused_22 rfl gL_refused_L_begin rfl qL_begin ⟨rfl, rfl⟩ ⟨Nat.le_of_ble_eq_true rfl, Nat.le_of_ble_eq_true rfl⟩ rfl (Nat.le_of_ble_eq_true rfl) (Nat.le_of_ble_eq_true rfl) (Nat.le_of_ble_eq_true rfl) ?_
  refine h_sipush (v := -2051) C dL_refused_25 (by decide) ?_
  refine h_icmp_ne (t := 303) C dL_refused_28 (by decide) (fun kc28 => absurd (rfl) kc28) (fun kc28 => ?_)
  refine h_aload_n C dL_refused_31 rfl ?_
  refine h_iconst (v := 5) C dL_refused_32 (by decide) ?_
  have q33 : kW (5) 1 4 = 1 := by decide
  refine h_callXs T (Xs_v (n_begin G.1 hs1.1 (5) (by rw [q33]; decide)) (v' := -2051) (by rw [q33]; rfl)) dL_refused_33 rfl gL_refused_L_begin rfl qL_begin ⟨rfl, rfl⟩ ⟨Nat.le_of_ble_eq_true rfl, Nat.le_of_ble_eq_true rfl⟩ rfl (Nat.le_of_ble_eq_true rfl) (Nat.le_of_ble_eq_true rfl) (Nat.le_of_ble_eq_true rfl) ?_
  refine h_sipush (v := -2051) C dL_refused_36 (by decide) ?_
  refine h_icmp_ne (t := 303) C dL_refused_39 (by decide) (fun kc39 => absurd (rfl) kc39) (fun kc39 => ?_)
  refine h_aload_n C dL_refused_42 rfl ?_
  refine h_iload_n C dL_refused_43 rfl ?_
  refine h_iconst (v := 1) C dL_refused_44 (by decide) ?_
  refine h_iadd C dL_refused_45 ?_
  refine h_topE (nI (R + 1)) (nI_1 R) ?_
  refine h_iconst (v := 0) C dL_refused_46 (by decide) ?_
  refine h_iconst (v := 1) C dL_refused_47 (by decide) ?_
  have q48 : kDoor r (nI (R + 1)) (0) = 1 := q_door1 G _
  refine h_callXs T (Xs_v (n_setDoor G.1 hs1.1 (nI (R + 1)) (0) (1) (Or.inr rfl) (by rw [q48]; decide)) (v' := -2053) (by rw [q48]; rfl)) dL_refused_48 rfl gL_refused_L_setDoor rfl qL_setDoor ⟨rfl, rfl⟩ ⟨Nat.le_of_ble_eq_true rfl, Nat.le_of_ble_eq_true rfl⟩ rfl (Nat.le_of_ble_eq_true rfl) (Nat.le_of_ble_eq_true rfl) (Nat.le_of_ble_eq_true rfl) ?_
  refine h_sipush (v := -2053) C dL_refused_51 (by decide) ?_
  refine h_icmp_ne (t := 303) C dL_refused_54 (by decide) (fun kc54 => absurd (rfl) kc54) (fun kc54 => ?_)
  refine h_aload_n C dL_refused_57 rfl ?_
  refine h_iload_n C dL_refused_58 rfl ?_
  refine h_iconst (v := 1) C dL_refused_59 (by decide) ?_
  refine h_iadd C dL_refused_60 ?_
  refine h_topE (nI (R + 1)) (nI_1 R) ?_
  refine h_iload_n C dL_refused_61 rfl ?_
  refine h_iconst (v := 1) C dL_refused_62 (by decide) ?_
  refine h_iadd C dL_refused_63 ?_
  refine h_topE (nI (R + 1)) (nI_1 R) ?_
  refine h_iconst (v := 1) C dL_refused_64 (by decide) ?_
  have q65 : kDoor r (nI (R + 1)) (nI (R + 1)) = 1 := q_door1 G _
  refine h_callXs T (Xs_v (n_setDoor G.1 hs1.1 (nI (R + 1)) (nI (R + 1)) (1) (Or.inr rfl) (by rw [q65]; decide)) (v' := -2053) (by rw [q65]; rfl)) dL_refused_65 rfl gL_refused_L_setDoor rfl qL_setDoor ⟨rfl, rfl⟩ ⟨Nat.le_of_ble_eq_true rfl, Nat.le_of_ble_eq_true rfl⟩ rfl (Nat.le_of_ble_eq_true rfl) (Nat.le_of_ble_eq_true rfl) (Nat.le_of_ble_eq_true rfl) ?_
  refine h_sipush (v := -2053) C dL_refused_68 (by decide) ?_
  refine h_icmp_ne (t := 303) C dL_refused_71 (by decide) (fun kc71 => absurd (rfl) kc71) (fun kc71 => ?_)
  refine h_aload_n C dL_refused_74 rfl ?_
  refine h_iload_n C dL_refused_75 rfl ?_
  refine h_iload_n C dL_refused_76 rfl ?_
  refine h_iconst (v := 1) C dL_refused_77 (by decide) ?_
  have q78 : kDoor r (nI R) (nI R) = 2 := q_door2 G
  refine h_callXs T (Xs_v (n_setDoor G.1 hs1.1 (nI R) (nI R) (1) (Or.inr rfl) (by rw [q78]; decide)) (v' := -2051) (by rw [q78]; rfl)) dL_refused_78 rfl gL_refused_L_setDoor rfl qL_setDoor ⟨rfl, rfl⟩ ⟨Nat.le_of_ble_eq_true rfl, Nat.le_of_ble_eq_true rfl⟩ rfl (Nat.le_of_ble_eq_true rfl) (Nat.le_of_ble_eq_true rfl) (Nat.le_of_ble_eq_true rfl) ?_
  refine h_sipush (v := -2051) C dL_refused_81 (by decide) ?_
  refine h_icmp_ne (t := 303) C dL_refused_84 (by decide) (fun kc84 => absurd (rfl) kc84) (fun kc84 => ?_)
  refine h_aload_n C dL_refused_87 rfl ?_
  refine h_iconst (v := 0) C dL_refused_88 (by decide) ?_
  refine h_iload_n C dL_refused_89 rfl ?_
  refine h_iconst (v := 1) C dL_refused_90 (by decide) ?_
  refine h_iadd C dL_refused_91 ?_
  refine h_topE (nI (R + 1)) (nI_1 R) ?_
  have q92 : kOpen r (0) (nI (R + 1)) = 1 := q_open1 G _
  refine h_callXs T (Xs_v (n_isOpen G.1 hs1.1 (0) (nI (R + 1)) (by rw [q92]; decide)) (v' := -2053) (by rw [q92]; rfl)) dL_refused_92 rfl gL_refused_L_isOpen rfl qL_isOpen ⟨rfl, rfl⟩ ⟨Nat.le_of_ble_eq_true rfl, Nat.le_of_ble_eq_true rfl⟩ rfl (Nat.le_of_ble_eq_true rfl) (Nat.le_of_ble_eq_true rfl) (Nat.le_of_ble_eq_true rfl) ?_
  refine h_sipush (v := -2053) C dL_refused_95 (by decide) ?_
  refine h_icmp_ne (t := 303) C dL_refused_98 (by decide) (fun kc98 => absurd (rfl) kc98) (fun kc98 => ?_)
  refine h_aload_n C dL_refused_101 rfl ?_
  refine h_iload_n C dL_refused_102 rfl ?_
  refine h_iload_n C dL_refused_103 rfl ?_
  refine h_callXs T (rd_isOpen G hs1.1 (Nat.le_refl _) (Nat.le_refl _)) dL_refused_104 rfl gL_refused_L_isOpen rfl qL_isOpen ⟨rfl, rfl⟩ ⟨Nat.le_of_ble_eq_true rfl, Nat.le_of_ble_eq_true rfl⟩ rfl (Nat.le_of_ble_eq_true rfl) (Nat.le_of_ble_eq_true rfl) (Nat.le_of_ble_eq_true rfl) ?_
  refine h_if_ne (t := 303) C dL_refused_107 (by decide) (fun kc107 => absurd (if_pos rfl) kc107) (fun kc107 => ?_)
  refine h_aload_n C dL_refused_110 rfl ?_
  refine h_iconst (v := 0) C dL_refused_111 (by decide) ?_
  have q112 : kW (0) 1 200 = 1 := by decide
  refine h_callXs T (Xs_v (n_addFuel G.1 hs1.1 (0) (by rw [q112]; decide)) (v' := -2051) (by rw [q112]; rfl)) dL_refused_112 rfl gL_refused_L_addFuel rfl qL_addFuel ⟨rfl, rfl⟩ ⟨Nat.le_of_ble_eq_true rfl, Nat.le_of_ble_eq_true rfl⟩ rfl (Nat.le_of_ble_eq_true rfl) (Nat.le_of_ble_eq_true rfl) (Nat.le_of_ble_eq_true rfl) ?_
  refine h_sipush (v := -2051) C dL_refused_115 (by decide) ?_
  refine h_icmp_ne (t := 303) C dL_refused_118 (by decide) (fun kc118 => absurd (rfl) kc118) (fun kc118 => ?_)
  refine h_aload_n C dL_refused_121 rfl ?_
  refine h_sipush (v := 201) C dL_refused_122 (by decide) ?_
  have q125 : kW (201) 1 200 = 1 := by decide
  refine h_callXs T (Xs_v (n_addFuel G.1 hs1.1 (201) (by rw [q125]; decide)) (v' := -2051) (by rw [q125]; rfl)) dL_refused_125 rfl gL_refused_L_addFuel rfl qL_addFuel ⟨rfl, rfl⟩ ⟨Nat.le_of_ble_eq_true rfl, Nat.le_of_ble_eq_true rfl⟩ rfl (Nat.le_of_ble_eq_true rfl) (Nat.le_of_ble_eq_true rfl) (Nat.le_of_ble_eq_true rfl) ?_
  refine h_sipush (v := -2051) C dL_refused_128 (by decide) ?_
  refine h_icmp_ne (t := 303) C dL_refused_131 (by decide) (fun kc131 => absurd (rfl) kc131) (fun kc131 => ?_)
  refine h_aload_n C dL_refused_134 rfl ?_
  refine h_bipush (v := 9) C dL_refused_135 (by decide) ?_
  have q137 : kW (9) 0 8 = 1 := by decide
  refine h_callXs T (Xs_v (n_setTarget G.1 hs1.1 (9) (by rw [q137]; decide)) (v' := -2051) (by rw [q137]; rfl)) dL_refused_137 rfl gL_refused_L_setTarget rfl qL_setTarget ⟨rfl, rfl⟩ ⟨Nat.le_of_ble_eq_true rfl, Nat.le_of_ble_eq_true rfl⟩ rfl (Nat.le_of_ble_eq_true rfl) (Nat.le_of_ble_eq_true rfl) (Nat.le_of_ble_eq_true rfl) ?_
  refine h_sipush (v := -2051) C dL_refused_140 (by decide) ?_
  refine h_icmp_ne (t := 303) C dL_refused_143 (by decide) (fun kc143 => absurd (rfl) kc143) (fun kc143 => ?_)
  refine h_aload_n C dL_refused_146 rfl ?_
  refine h_bipush (v := 6) C dL_refused_147 (by decide) ?_
  refine h_iconst (v := 0) C dL_refused_149 (by decide) ?_
  have q150 : kSet (6) (0) = 1 := by decide
  refine h_callXs T (Xs_v (n_set G.1 hs1.1 (6) (0) (by rw [q150]; decide)) (v' := -2051) (by rw [q150]; rfl)) dL_refused_150 rfl gL_refused_L_set rfl qL_set ⟨rfl, rfl⟩ ⟨Nat.le_of_ble_eq_true rfl, Nat.le_of_ble_eq_true rfl⟩ rfl (Nat.le_of_ble_eq_true rfl) (Nat.le_of_ble_eq_true rfl) (Nat.le_of_ble_eq_true rfl) ?_
  refine h_sipush (v := -2051) C dL_refused_153 (by decide) ?_
  refine h_icmp_ne (t := 303) C dL_refused_156 (by decide) (fun kc156 => absurd (rfl) kc156) (fun kc156 => ?_)
  refine h_aload_n C dL_refused_159 rfl ?_
  refine h_iconst (v := 0) C dL_refused_160 (by decide) ?_
  refine h_bipush (v := 61) C dL_refused_161 (by decide) ?_
  have q163 : kSet (0) (61) = 1 := by decide
  refine h_callXs T (Xs_v (n_set G.1 hs1.1 (0) (61) (by rw [q163]; decide)) (v' := -2051) (by rw [q163]; rfl)) dL_refused_163 rfl gL_refused_L_set rfl qL_set ⟨rfl, rfl⟩ ⟨Nat.le_of_ble_eq_true rfl, Nat.le_of_ble_eq_true rfl⟩ rfl (Nat.le_of_ble_eq_true rfl) (Nat.le_of_ble_eq_true rfl) (Nat.le_of_ble_eq_true rfl) ?_
  refine h_sipush (v := -2051) C dL_refused_166 (by decide) ?_
  refine h_icmp_ne (t := 303) C dL_refused_169 (by decide) (fun kc169 => absurd (rfl) kc169) (fun kc169 => ?_)
  refine h_aload_n C dL_refused_172 rfl ?_
  refine h_iconst (v := 1) C dL_refused_173 (by decide) ?_
  refine h_iconst (v := 1) C dL_refused_174 (by decide) ?_
  have q175 : kSet (1) (1) = 1 := by decide
  refine h_callXs T (Xs_v (n_set G.1 hs1.1 (1) (1) (by rw [q175]; decide)) (v' := -2051) (by rw [q175]; rfl)) dL_refused_175 rfl gL_refused_L_set rfl qL_set ⟨rfl, rfl⟩ ⟨Nat.le_of_ble_eq_true rfl, Nat.le_of_ble_eq_true rfl⟩ rfl (Nat.le_of_ble_eq_true rfl) (Nat.le_of_ble_eq_true rfl) (Nat.le_of_ble_eq_true rfl) ?_
  refine h_sipush (v := -2051) C dL_refused_178 (by decide) ?_
  refine h_icmp_ne (t := 303) C dL_refused_181 (by decide) (fun kc181 => absurd (rfl) kc181) (fun kc181 => ?_)
  refine h_aload_n C dL_refused_184 rfl ?_
  refine h_iconst (v := 2) C dL_refused_185 (by decide) ?_
  refine h_bipush (v := 31) C dL_refused_186 (by decide) ?_
  have q188 : kSet (2) (31) = 1 := by decide
  refine h_callXs T (Xs_v (n_set G.1 hs1.1 (2) (31) (by rw [q188]; decide)) (v' := -2051) (by rw [q188]; rfl)) dL_refused_188 rfl gL_refused_L_set rfl qL_set ⟨rfl, rfl⟩ ⟨Nat.le_of_ble_eq_true rfl, Nat.le_of_ble_eq_true rfl⟩ rfl (Nat.le_of_ble_eq_true rfl) (Nat.le_of_ble_eq_true rfl) (Nat.le_of_ble_eq_true rfl) ?_
  refine h_sipush (v := -2051) C dL_refused_191 (by decide) ?_
  refine h_icmp_ne (t := 303) C dL_refused_194 (by decide) (fun kc194 => absurd (rfl) kc194) (fun kc194 => ?_)
  refine h_aload_n C dL_refused_197 rfl ?_
  refine h_iconst (v := 3) C dL_refused_198 (by decide) ?_
  refine h_iconst (v := 2) C dL_refused_199 (by decide) ?_
  have q200 : kSet (3) (2) = 1 := by decide
  refine h_callXs T (Xs_v (n_set G.1 hs1.1 (3) (2) (by rw [q200]; decide)) (v' := -2051) (by rw [q200]; rfl)) dL_refused_200 rfl gL_refused_L_set rfl qL_set ⟨rfl, rfl⟩ ⟨Nat.le_of_ble_eq_true rfl, Nat.le_of_ble_eq_true rfl⟩ rfl (Nat.le_of_ble_eq_true rfl) (Nat.le_of_ble_eq_true rfl) (Nat.le_of_ble_eq_true rfl) ?_
  refine h_sipush (v := -2051) C dL_refused_203 (by decide) ?_
  refine h_icmp_ne (t := 303) C dL_refused_206 (by decide) (fun kc206 => absurd (rfl) kc206) (fun kc206 => ?_)
  refine h_aload_n C dL_refused_209 rfl ?_
  refine h_iconst (v := 4) C dL_refused_210 (by decide) ?_
  refine h_bipush (v := 9) C dL_refused_211 (by decide) ?_
  have q213 : kSet (4) (9) = 1 := by decide
  refine h_callXs T (Xs_v (n_set G.1 hs1.1 (4) (9) (by rw [q213]; decide)) (v' := -2051) (by rw [q213]; rfl)) dL_refused_213 rfl gL_refused_L_set rfl qL_set ⟨rfl, rfl⟩ ⟨Nat.le_of_ble_eq_true rfl, Nat.le_of_ble_eq_true rfl⟩ rfl (Nat.le_of_ble_eq_true rfl) (Nat.le_of_ble_eq_true rfl) (Nat.le_of_ble_eq_true rfl) ?_
  refine h_sipush (v := -2051) C dL_refused_216 (by decide) ?_
  refine h_icmp_ne (t := 303) C dL_refused_219 (by decide) (fun kc219 => absurd (rfl) kc219) (fun kc219 => ?_)
  refine h_aload_n C dL_refused_222 rfl ?_
  refine h_iconst (v := 5) C dL_refused_223 (by decide) ?_
  refine h_sipush (v := 1000) C dL_refused_224 (by decide) ?_
  have q227 : kSet (5) (1000) = 1 := by decide
  refine h_callXs T (Xs_v (n_set G.1 hs1.1 (5) (1000) (by rw [q227]; decide)) (v' := -2051) (by rw [q227]; rfl)) dL_refused_227 rfl gL_refused_L_set rfl qL_set ⟨rfl, rfl⟩ ⟨Nat.le_of_ble_eq_true rfl, Nat.le_of_ble_eq_true rfl⟩ rfl (Nat.le_of_ble_eq_true rfl) (Nat.le_of_ble_eq_true rfl) (Nat.le_of_ble_eq_true rfl) ?_
  refine h_sipush (v := -2051) C dL_refused_230 (by decide) ?_
  refine h_icmp_ne (t := 303) C dL_refused_233 (by decide) (fun kc233 => absurd (rfl) kc233) (fun kc233 => ?_)
  refine h_aload_n C dL_refused_236 rfl ?_
  refine h_iload_n C dL_refused_237 rfl ?_
  refine h_iconst (v := -1) C dL_refused_238 (by decide) ?_
  have q239 : kRW r (nI R) (-1) 0 99999 = 1 := q_rw1 G _ _ _
  refine h_callXs T (Xs_v (n_setSmoke G.1 hs1.1 (nI R) (-1) (by rw [q239]; decide)) (v' := -2053) (by rw [q239]; rfl)) dL_refused_239 rfl gL_refused_L_setSmoke rfl qL_setSmoke ⟨rfl, rfl⟩ ⟨Nat.le_of_ble_eq_true rfl, Nat.le_of_ble_eq_true rfl⟩ rfl (Nat.le_of_ble_eq_true rfl) (Nat.le_of_ble_eq_true rfl) (Nat.le_of_ble_eq_true rfl) ?_
  refine h_sipush (v := -2053) C dL_refused_242 (by decide) ?_
  refine h_icmp_ne (t := 303) C dL_refused_245 (by decide) (fun kc245 => absurd (rfl) kc245) (fun kc245 => ?_)
  refine h_aload_n C dL_refused_248 rfl ?_
  refine h_iconst (v := 0) C dL_refused_249 (by decide) ?_
  refine h_ldc (v := 100000) C dL_refused_250 (by decide +kernel) ?_
  have q252 : kRW r (0) (100000) 0 99999 = 2 := q_rw2 G (by decide)
  refine h_callXs T (Xs_v (n_setSmoke G.1 hs1.1 (0) (100000) (by rw [q252]; decide)) (v' := -2051) (by rw [q252]; rfl)) dL_refused_252 rfl gL_refused_L_setSmoke rfl qL_setSmoke ⟨rfl, rfl⟩ ⟨Nat.le_of_ble_eq_true rfl, Nat.le_of_ble_eq_true rfl⟩ rfl (Nat.le_of_ble_eq_true rfl) (Nat.le_of_ble_eq_true rfl) (Nat.le_of_ble_eq_true rfl) ?_
  refine h_sipush (v := -2051) C dL_refused_255 (by decide) ?_
  refine h_icmp_ne (t := 303) C dL_refused_258 (by decide) (fun kc258 => absurd (rfl) kc258) (fun kc258 => ?_)
  refine h_aload_n C dL_refused_261 rfl ?_
  refine h_bipush (v := 15) C dL_refused_262 (by decide) ?_
  have q264 : kW (15) 0 14 = 1 := by decide
  refine h_callXs T (Xs_v (n_info G.1 hs1.1 (15) (by rw [q264]; decide)) (v' := -2051) (by rw [q264]; rfl)) dL_refused_264 rfl gL_refused_L_info rfl qL_info ⟨rfl, rfl⟩ ⟨Nat.le_of_ble_eq_true rfl, Nat.le_of_ble_eq_true rfl⟩ rfl (Nat.le_of_ble_eq_true rfl) (Nat.le_of_ble_eq_true rfl) (Nat.le_of_ble_eq_true rfl) ?_
  refine h_sipush (v := -2051) C dL_refused_267 (by decide) ?_
  refine h_icmp_ne (t := 303) C dL_refused_270 (by decide) (fun kc270 => absurd (rfl) kc270) (fun kc270 => ?_)
  refine h_aload_n C dL_refused_273 rfl ?_
  refine h_iload_n C dL_refused_274 rfl ?_
  refine h_bipush (v := 7) C dL_refused_275 (by decide) ?_
  have q277 : kRW r (nI R) (7) 0 6 = 1 := q_rw1 G _ _ _
  refine h_callXs T (Xs_v (n_room G.1 hs1.1 (nI R) (7) (by rw [q277]; decide)) (v' := -2053) (by rw [q277]; rfl)) dL_refused_277 rfl gL_refused_L_room rfl qL_room ⟨rfl, rfl⟩ ⟨Nat.le_of_ble_eq_true rfl, Nat.le_of_ble_eq_true rfl⟩ rfl (Nat.le_of_ble_eq_true rfl) (Nat.le_of_ble_eq_true rfl) (Nat.le_of_ble_eq_true rfl) ?_
  refine h_sipush (v := -2053) C dL_refused_280 (by decide) ?_
  refine h_icmp_ne (t := 303) C dL_refused_283 (by decide) (fun kc283 => absurd (rfl) kc283) (fun kc283 => ?_)
  refine h_aload_n C dL_refused_286 rfl ?_
  refine h_iconst (v := 0) C dL_refused_287 (by decide) ?_
  refine h_bipush (v := 7) C dL_refused_288 (by decide) ?_
  have q290 : kRW r (0) (7) 0 6 = 2 := q_rw2 G (by decide)
  refine h_callXs T (Xs_v (n_room G.1 hs1.1 (0) (7) (by rw [q290]; decide)) (v' := -2051) (by rw [q290]; rfl)) dL_refused_290 rfl gL_refused_L_room rfl qL_room ⟨rfl, rfl⟩ ⟨Nat.le_of_ble_eq_true rfl, Nat.le_of_ble_eq_true rfl⟩ rfl (Nat.le_of_ble_eq_true rfl) (Nat.le_of_ble_eq_true rfl) (Nat.le_of_ble_eq_true rfl) ?_
  refine h_sipush (v := -2051) C dL_refused_293 (by decide) ?_
  refine h_icmp_ne (t := 303) C dL_refused_296 (by decide) (fun kc296 => absurd (rfl) kc296) (fun kc296 => ?_)
  refine h_iconst (v := 1) C dL_refused_299 (by decide) ?_
  refine h_goto (t := 304) C dL_refused_300 (by decide) ?_
  refine h_istore C dL_refused_304 (L' := [_, _, _, _, _, _]) (by decide) (Nat.lt_of_lt_of_le (by decide : (5 : Nat) < 6) (Nat.le_refl _)) rfl ?_
  refine h_iload C dL_refused_306 rfl ?_
  refine h_if_eq (t := 654) C dL_refused_308 (by decide) (fun kc308 => absurd kc308 (by decide)) (fun kc308 => ?_)
  refine h_aload_n C dL_refused_311 rfl ?_
  refine h_iload_n C dL_refused_312 rfl ?_
  refine h_iconst (v := 3) C dL_refused_313 (by decide) ?_
  refine h_iconst (v := 0) C dL_refused_314 (by decide) ?_
  refine h_iconst (v := 0) C dL_refused_315 (by decide) ?_
  refine h_iconst (v := 0) C dL_refused_316 (by decide) ?_
  have q317 : kASe r (nI R) (3) (0) (0) (0) = 1 := q_as1 G _ _ _ _
  refine h_callXs T (Xs_v (n_addSensor G.1 hs1.1 (nI R) (3) (0) (0) (0) (by rw [q317]; decide)) (v' := -2053) (by rw [q317]; rfl)) dL_refused_317 rfl gL_refused_L_addSensor rfl qL_addSensor ⟨rfl, rfl⟩ ⟨Nat.le_of_ble_eq_true rfl, Nat.le_of_ble_eq_true rfl⟩ rfl (Nat.le_of_ble_eq_true rfl) (Nat.le_of_ble_eq_true rfl) (Nat.le_of_ble_eq_true rfl) ?_
  refine h_sipush (v := -2053) C dL_refused_320 (by decide) ?_
  refine h_icmp_ne (t := 654) C dL_refused_323 (by decide) (fun kc323 => absurd (rfl) kc323) (fun kc323 => ?_)
  refine h_aload_n C dL_refused_326 rfl ?_
  refine h_iconst (v := 0) C dL_refused_327 (by decide) ?_
  refine h_iconst (v := 3) C dL_refused_328 (by decide) ?_
  refine h_iconst (v := 1) C dL_refused_329 (by decide) ?_
  refine h_iconst (v := 0) C dL_refused_330 (by decide) ?_
  refine h_iconst (v := 1) C dL_refused_331 (by decide) ?_
  have q332 : kASe r (0) (3) (1) (0) (1) = 2 := q_as2 G (by decide)
  refine h_callXs T (Xs_v (n_addSensor G.1 hs1.1 (0) (3) (1) (0) (1) (by rw [q332]; decide)) (v' := -2051) (by rw [q332]; rfl)) dL_refused_332 rfl gL_refused_L_addSensor rfl qL_addSensor ⟨rfl, rfl⟩ ⟨Nat.le_of_ble_eq_true rfl, Nat.le_of_ble_eq_true rfl⟩ rfl (Nat.le_of_ble_eq_true rfl) (Nat.le_of_ble_eq_true rfl) (Nat.le_of_ble_eq_true rfl) ?_
  refine h_sipush (v := -2051) C dL_refused_335 (by decide) ?_
  refine h_icmp_ne (t := 654) C dL_refused_338 (by decide) (fun kc338 => absurd (rfl) kc338) (fun kc338 => ?_)
  refine h_aload_n C dL_refused_341 rfl ?_
  refine h_iconst (v := 0) C dL_refused_342 (by decide) ?_
  refine h_iconst (v := 0) C dL_refused_343 (by decide) ?_
  refine h_iconst (v := 0) C dL_refused_344 (by decide) ?_
  refine h_iconst (v := 0) C dL_refused_345 (by decide) ?_
  refine h_iconst (v := 1) C dL_refused_346 (by decide) ?_
  have q347 : kASe r (0) (0) (0) (0) (1) = 2 := q_as2 G (by decide)
  refine h_callXs T (Xs_v (n_addSensor G.1 hs1.1 (0) (0) (0) (0) (1) (by rw [q347]; decide)) (v' := -2051) (by rw [q347]; rfl)) dL_refused_347 rfl gL_refused_L_addSensor rfl qL_addSensor ⟨rfl, rfl⟩ ⟨Nat.le_of_ble_eq_true rfl, Nat.le_of_ble_eq_true rfl⟩ rfl (Nat.le_of_ble_eq_true rfl) (Nat.le_of_ble_eq_true rfl) (Nat.le_of_ble_eq_true rfl) ?_
  refine h_sipush (v := -2051) C dL_refused_350 (by decide) ?_
  refine h_icmp_ne (t := 654) C dL_refused_353 (by decide) (fun kc353 => absurd (rfl) kc353) (fun kc353 => ?_)
  refine h_aload_n C dL_refused_356 rfl ?_
  refine h_iconst (v := 0) C dL_refused_357 (by decide) ?_
  refine h_iconst (v := 0) C dL_refused_358 (by decide) ?_
  refine h_iconst (v := 1) C dL_refused_359 (by decide) ?_
  refine h_bipush (v := 10) C dL_refused_360 (by decide) ?_
  refine h_iconst (v := 1) C dL_refused_362 (by decide) ?_
  have q363 : kASe r (0) (0) (1) (10) (1) = 2 := q_as2 G (by decide)
  refine h_callXs T (Xs_v (n_addSensor G.1 hs1.1 (0) (0) (1) (10) (1) (by rw [q363]; decide)) (v' := -2051) (by rw [q363]; rfl)) dL_refused_363 rfl gL_refused_L_addSensor rfl qL_addSensor ⟨rfl, rfl⟩ ⟨Nat.le_of_ble_eq_true rfl, Nat.le_of_ble_eq_true rfl⟩ rfl (Nat.le_of_ble_eq_true rfl) (Nat.le_of_ble_eq_true rfl) (Nat.le_of_ble_eq_true rfl) ?_
  refine h_sipush (v := -2051) C dL_refused_366 (by decide) ?_
  refine h_icmp_ne (t := 654) C dL_refused_369 (by decide) (fun kc369 => absurd (rfl) kc369) (fun kc369 => ?_)
  refine h_aload_n C dL_refused_372 rfl ?_
  refine h_iconst (v := 0) C dL_refused_373 (by decide) ?_
  refine h_iconst (v := 0) C dL_refused_374 (by decide) ?_
  refine h_iconst (v := 1) C dL_refused_375 (by decide) ?_
  refine h_iconst (v := 0) C dL_refused_376 (by decide) ?_
  refine h_iconst (v := 4) C dL_refused_377 (by decide) ?_
  have q378 : kASe r (0) (0) (1) (0) (4) = 2 := q_as2 G (by decide)
  refine h_callXs T (Xs_v (n_addSensor G.1 hs1.1 (0) (0) (1) (0) (4) (by rw [q378]; decide)) (v' := -2051) (by rw [q378]; rfl)) dL_refused_378 rfl gL_refused_L_addSensor rfl qL_addSensor ⟨rfl, rfl⟩ ⟨Nat.le_of_ble_eq_true rfl, Nat.le_of_ble_eq_true rfl⟩ rfl (Nat.le_of_ble_eq_true rfl) (Nat.le_of_ble_eq_true rfl) (Nat.le_of_ble_eq_true rfl) ?_
  refine h_sipush (v := -2051) C dL_refused_381 (by decide) ?_
  refine h_icmp_ne (t := 654) C dL_refused_384 (by decide) (fun kc384 => absurd (rfl) kc384) (fun kc384 => ?_)
  refine h_aload_n C dL_refused_387 rfl ?_
  refine h_aload_n C dL_refused_388 rfl ?_
  refine h_bipush (v := 12) C dL_refused_389 (by decide) ?_
  refine h_callXs T (rd_info12 G hs1.1) dL_refused_391 rfl gL_refused_L_info rfl qL_info ⟨rfl, rfl⟩ ⟨Nat.le_of_ble_eq_true rfl, Nat.le_of_ble_eq_true rfl⟩ rfl (Nat.le_of_ble_eq_true rfl) (Nat.le_of_ble_eq_true rfl) (Nat.le_of_ble_eq_true rfl) ?_
  refine h_iconst (v := 3) C dL_refused_394 (by decide) ?_
  have q395 : kSW r (nI ns) (3) 0 2 = 1 := q_sw1 G _ _ _
  refine h_callXs T (Xs_v (n_setFault G.1 hs1.1 (nI ns) (3) (by rw [q395]; decide)) (v' := -2053) (by rw [q395]; rfl)) dL_refused_395 rfl gL_refused_L_setFault rfl qL_setFault ⟨rfl, rfl⟩ ⟨Nat.le_of_ble_eq_true rfl, Nat.le_of_ble_eq_true rfl⟩ rfl (Nat.le_of_ble_eq_true rfl) (Nat.le_of_ble_eq_true rfl) (Nat.le_of_ble_eq_true rfl) ?_
  refine h_sipush (v := -2053) C dL_refused_398 (by decide) ?_
  refine h_icmp_ne (t := 654) C dL_refused_401 (by decide) (fun kc401 => absurd (rfl) kc401) (fun kc401 => ?_)
  refine h_aload_n C dL_refused_404 rfl ?_
  refine h_iconst (v := -1) C dL_refused_405 (by decide) ?_
  refine h_bipush (v := 9) C dL_refused_406 (by decide) ?_
  have q408 : kSW r (-1) (9) 0 8 = 1 := q_swm _ _ _
  refine h_callXs T (Xs_v (n_sensor G.1 hs1.1 (-1) (9) (by rw [q408]; decide)) (v' := -2053) (by rw [q408]; rfl)) dL_refused_408 rfl gL_refused_L_sensor rfl qL_sensor ⟨rfl, rfl⟩ ⟨Nat.le_of_ble_eq_true rfl, Nat.le_of_ble_eq_true rfl⟩ rfl (Nat.le_of_ble_eq_true rfl) (Nat.le_of_ble_eq_true rfl) (Nat.le_of_ble_eq_true rfl) ?_
  refine h_sipush (v := -2053) C dL_refused_411 (by decide) ?_
  refine h_icmp_ne (t := 654) C dL_refused_414 (by decide) (fun kc414 => absurd (rfl) kc414) (fun kc414 => ?_)
  refine h_aload_n C dL_refused_417 rfl ?_
  refine h_iconst (v := 4) C dL_refused_418 (by decide) ?_
  refine h_iload_n C dL_refused_419 rfl ?_
  refine h_iconst (v := 0) C dL_refused_420 (by decide) ?_
  refine h_iconst (v := 0) C dL_refused_421 (by decide) ?_
  have q422 : kARu r (4) (nI R) (0) (0) = 1 := q_ar1 G _ _ _
  refine h_callXs T (Xs_v (n_addRule G.1 hs1.1 (4) (nI R) (0) (0) (by rw [q422]; decide)) (v' := -2053) (by rw [q422]; rfl)) dL_refused_422 rfl gL_refused_L_addRule rfl qL_addRule ⟨rfl, rfl⟩ ⟨Nat.le_of_ble_eq_true rfl, Nat.le_of_ble_eq_true rfl⟩ rfl (Nat.le_of_ble_eq_true rfl) (Nat.le_of_ble_eq_true rfl) (Nat.le_of_ble_eq_true rfl) ?_
  refine h_sipush (v := -2053) C dL_refused_425 (by decide) ?_
  refine h_icmp_ne (t := 654) C dL_refused_428 (by decide) (fun kc428 => absurd (rfl) kc428) (fun kc428 => ?_)
  refine h_aload_n C dL_refused_431 rfl ?_
  refine h_iconst (v := 4) C dL_refused_432 (by decide) ?_
  refine h_iconst (v := 0) C dL_refused_433 (by decide) ?_
  refine h_iconst (v := 0) C dL_refused_434 (by decide) ?_
  refine h_iconst (v := 0) C dL_refused_435 (by decide) ?_
  have q436 : kARu r (4) (0) (0) (0) = 2 := q_ar2 G (by decide)
  refine h_callXs T (Xs_v (n_addRule G.1 hs1.1 (4) (0) (0) (0) (by rw [q436]; decide)) (v' := -2051) (by rw [q436]; rfl)) dL_refused_436 rfl gL_refused_L_addRule rfl qL_addRule ⟨rfl, rfl⟩ ⟨Nat.le_of_ble_eq_true rfl, Nat.le_of_ble_eq_true rfl⟩ rfl (Nat.le_of_ble_eq_true rfl) (Nat.le_of_ble_eq_true rfl) (Nat.le_of_ble_eq_true rfl) ?_
  refine h_sipush (v := -2051) C dL_refused_439 (by decide) ?_
  refine h_icmp_ne (t := 654) C dL_refused_442 (by decide) (fun kc442 => absurd (rfl) kc442) (fun kc442 => ?_)
  refine h_aload_n C dL_refused_445 rfl ?_
  refine h_iconst (v := 0) C dL_refused_446 (by decide) ?_
  refine h_iconst (v := 0) C dL_refused_447 (by decide) ?_
  refine h_sipush (v := 10000) C dL_refused_448 (by decide) ?_
  refine h_iconst (v := 0) C dL_refused_451 (by decide) ?_
  have q452 : kARu r (0) (0) (10000) (0) = 2 := q_ar2 G (by decide)
  refine h_callXs T (Xs_v (n_addRule G.1 hs1.1 (0) (0) (10000) (0) (by rw [q452]; decide)) (v' := -2051) (by rw [q452]; rfl)) dL_refused_452 rfl gL_refused_L_addRule rfl qL_addRule ⟨rfl, rfl⟩ ⟨Nat.le_of_ble_eq_true rfl, Nat.le_of_ble_eq_true rfl⟩ rfl (Nat.le_of_ble_eq_true rfl) (Nat.le_of_ble_eq_true rfl) (Nat.le_of_ble_eq_true rfl) ?_
  refine h_sipush (v := -2051) C dL_refused_455 (by decide) ?_
  refine h_icmp_ne (t := 654) C dL_refused_458 (by decide) (fun kc458 => absurd (rfl) kc458) (fun kc458 => ?_)
  refine h_aload_n C dL_refused_461 rfl ?_
  refine h_iconst (v := 0) C dL_refused_462 (by decide) ?_
  refine h_iconst (v := 0) C dL_refused_463 (by decide) ?_
  refine h_iconst (v := 0) C dL_refused_464 (by decide) ?_
  refine h_bipush (v := 9) C dL_refused_465 (by decide) ?_
  have q467 : kARu r (0) (0) (0) (9) = 2 := q_ar2 G (by decide)
  refine h_callXs T (Xs_v (n_addRule G.1 hs1.1 (0) (0) (0) (9) (by rw [q467]; decide)) (v' := -2051) (by rw [q467]; rfl)) dL_refused_467 rfl gL_refused_L_addRule rfl qL_addRule ⟨rfl, rfl⟩ ⟨Nat.le_of_ble_eq_true rfl, Nat.le_of_ble_eq_true rfl⟩ rfl (Nat.le_of_ble_eq_true rfl) (Nat.le_of_ble_eq_true rfl) (Nat.le_of_ble_eq_true rfl) ?_
  refine h_sipush (v := -2051) C dL_refused_470 (by decide) ?_
  refine h_icmp_ne (t := 654) C dL_refused_473 (by decide) (fun kc473 => absurd (rfl) kc473) (fun kc473 => ?_)
  refine h_aload_n C dL_refused_476 rfl ?_
  refine h_aload_n C dL_refused_477 rfl ?_
  refine h_bipush (v := 13) C dL_refused_478 (by decide) ?_
  refine h_callXs T (rd_info13 G hs1.1) dL_refused_480 rfl gL_refused_L_info rfl qL_info ⟨rfl, rfl⟩ ⟨Nat.le_of_ble_eq_true rfl, Nat.le_of_ble_eq_true rfl⟩ rfl (Nat.le_of_ble_eq_true rfl) (Nat.le_of_ble_eq_true rfl) (Nat.le_of_ble_eq_true rfl) ?_
  have q483 : kRem r (nI nr) = 1 := q_rem G
  refine h_callXs T (Xs_v (n_removeRule G.1 hs1.1 (nI nr) (by rw [q483]; decide)) (v' := -2053) (by rw [q483]; rfl)) dL_refused_483 rfl gL_refused_L_removeRule rfl qL_removeRule ⟨rfl, rfl⟩ ⟨Nat.le_of_ble_eq_true rfl, Nat.le_of_ble_eq_true rfl⟩ rfl (Nat.le_of_ble_eq_true rfl) (Nat.le_of_ble_eq_true rfl) (Nat.le_of_ble_eq_true rfl) ?_
  refine h_sipush (v := -2053) C dL_refused_486 (by decide) ?_
  refine h_icmp_ne (t := 654) C dL_refused_489 (by decide) (fun kc489 => absurd (rfl) kc489) (fun kc489 => ?_)
  refine h_aload_n C dL_refused_492 rfl ?_
  refine h_iload C dL_refused_493 rfl ?_
  refine h_iconst (v := 2) C dL_refused_495 (by decide) ?_
  refine h_iconst (v := 0) C dL_refused_496 (by decide) ?_
  refine h_iconst (v := 0) C dL_refused_497 (by decide) ?_
  have q498 : kAEv r (nI t) (2) (0) (0) = 1 := q_ev0 G _ _ _
  refine h_callXs T (Xs_v (n_addEvent G.1 hs1.1 (nI t) (2) (0) (0) (by rw [q498]; decide)) (v' := -2051) (by rw [q498]; rfl)) dL_refused_498 rfl gL_refused_L_addEvent rfl qL_addEvent ⟨rfl, rfl⟩ ⟨Nat.le_of_ble_eq_true rfl, Nat.le_of_ble_eq_true rfl⟩ rfl (Nat.le_of_ble_eq_true rfl) (Nat.le_of_ble_eq_true rfl) (Nat.le_of_ble_eq_true rfl) ?_
  refine h_sipush (v := -2051) C dL_refused_501 (by decide) ?_
  refine h_icmp_ne (t := 654) C dL_refused_504 (by decide) (fun kc504 => absurd (rfl) kc504) (fun kc504 => ?_)
  refine h_aload_n C dL_refused_507 rfl ?_
  refine h_iload C dL_refused_508 rfl ?_
  refine h_sipush (v := 1000) C dL_refused_510 (by decide) ?_
  refine h_iadd C dL_refused_513 ?_
  refine h_topE (nI (t + 1000)) (nI_add t 1000) ?_
  refine h_iconst (v := 2) C dL_refused_514 (by decide) ?_
  refine h_iconst (v := 0) C dL_refused_515 (by decide) ?_
  refine h_iconst (v := 0) C dL_refused_516 (by decide) ?_
  have q517 : kAEv r (nI (t + 1000)) (2) (0) (0) = 1 := q_ev9 G _ _ _
  refine h_callXs T (Xs_v (n_addEvent G.1 hs1.1 (nI (t + 1000)) (2) (0) (0) (by rw [q517]; decide)) (v' := -2051) (by rw [q517]; rfl)) dL_refused_517 rfl gL_refused_L_addEvent rfl qL_addEvent ⟨rfl, rfl⟩ ⟨Nat.le_of_ble_eq_true rfl, Nat.le_of_ble_eq_true rfl⟩ rfl (Nat.le_of_ble_eq_true rfl) (Nat.le_of_ble_eq_true rfl) (Nat.le_of_ble_eq_true rfl) ?_
  refine h_sipush (v := -2051) C dL_refused_520 (by decide) ?_
  refine h_icmp_ne (t := 654) C dL_refused_523 (by decide) (fun kc523 => absurd (rfl) kc523) (fun kc523 => ?_)
  refine h_aload_n C dL_refused_526 rfl ?_
  refine h_iload C dL_refused_527 rfl ?_
  refine h_iconst (v := 1) C dL_refused_529 (by decide) ?_
  refine h_iadd C dL_refused_530 ?_
  refine h_topE (nI (t + 1)) (nI_1 t) ?_
  refine h_iconst (v := 5) C dL_refused_531 (by decide) ?_
  refine h_iconst (v := 0) C dL_refused_532 (by decide) ?_
  refine h_iconst (v := 0) C dL_refused_533 (by decide) ?_
  have q534 : kAEv r (nI (t + 1)) (5) (0) (0) = 1 := q_ev1 (by unfold mEvtI; rw [if_neg (by decide), if_neg (by decide), if_neg (by decide), if_neg (by decide), if_neg (by decide)])
  refine h_callXs T (Xs_v (n_addEvent G.1 hs1.1 (nI (t + 1)) (5) (0) (0) (by rw [q534]; decide)) (v' := -2051) (by rw [q534]; rfl)) dL_refused_534 rfl gL_refused_L_addEvent rfl qL_addEvent ⟨rfl, rfl⟩ ⟨Nat.le_of_ble_eq_true rfl, Nat.le_of_ble_eq_true rfl⟩ rfl (Nat.le_of_ble_eq_true rfl) (Nat.le_of_ble_eq_true rfl) (Nat.le_of_ble_eq_true rfl) ?_
  refine h_sipush (v := -2051) C dL_refused_537 (by decide) ?_
  refine h_icmp_ne (t := 654) C dL_refused_540 (by decide) (fun kc540 => absurd (rfl) kc540) (fun kc540 => ?_)
  refine h_aload_n C dL_refused_543 rfl ?_
  refine h_iload C dL_refused_544 rfl ?_
  refine h_iconst (v := 1) C dL_refused_546 (by decide) ?_
  refine h_iadd C dL_refused_547 ?_
  refine h_topE (nI (t + 1)) (nI_1 t) ?_
  refine h_iconst (v := 0) C dL_refused_548 (by decide) ?_
  refine h_iconst (v := 0) C dL_refused_549 (by decide) ?_
  refine h_iconst (v := 0) C dL_refused_550 (by decide) ?_
  have q551 : kAEv r (nI (t + 1)) (0) (0) (0) = 1 := q_ev1 (q_k0 _ _ (Or.inl rfl))
  refine h_callXs T (Xs_v (n_addEvent G.1 hs1.1 (nI (t + 1)) (0) (0) (0) (by rw [q551]; decide)) (v' := -2051) (by rw [q551]; rfl)) dL_refused_551 rfl gL_refused_L_addEvent rfl qL_addEvent ⟨rfl, rfl⟩ ⟨Nat.le_of_ble_eq_true rfl, Nat.le_of_ble_eq_true rfl⟩ rfl (Nat.le_of_ble_eq_true rfl) (Nat.le_of_ble_eq_true rfl) (Nat.le_of_ble_eq_true rfl) ?_
  refine h_sipush (v := -2051) C dL_refused_554 (by decide) ?_
  refine h_icmp_ne (t := 654) C dL_refused_557 (by decide) (fun kc557 => absurd (rfl) kc557) (fun kc557 => ?_)
  refine h_aload_n C dL_refused_560 rfl ?_
  refine h_iload C dL_refused_561 rfl ?_
  refine h_iconst (v := 1) C dL_refused_563 (by decide) ?_
  refine h_iadd C dL_refused_564 ?_
  refine h_topE (nI (t + 1)) (nI_1 t) ?_
  refine h_iconst (v := 0) C dL_refused_565 (by decide) ?_
  refine h_iload_n C dL_refused_566 rfl ?_
  refine h_iconst (v := 0) C dL_refused_567 (by decide) ?_
  have q568 : kAEv r (nI (t + 1)) (0) (nI R) (0) = 1 := q_ev1 (q_k0 _ _ (Or.inr (out_room G)))
  refine h_callXs T (Xs_v (n_addEvent G.1 hs1.1 (nI (t + 1)) (0) (nI R) (0) (by rw [q568]; decide)) (v' := -2051) (by rw [q568]; rfl)) dL_refused_568 rfl gL_refused_L_addEvent rfl qL_addEvent ⟨rfl, rfl⟩ ⟨Nat.le_of_ble_eq_true rfl, Nat.le_of_ble_eq_true rfl⟩ rfl (Nat.le_of_ble_eq_true rfl) (Nat.le_of_ble_eq_true rfl) (Nat.le_of_ble_eq_true rfl) ?_
  refine h_sipush (v := -2051) C dL_refused_571 (by decide) ?_
  refine h_icmp_ne (t := 654) C dL_refused_574 (by decide) (fun kc574 => absurd (rfl) kc574) (fun kc574 => ?_)
  refine h_aload_n C dL_refused_577 rfl ?_
  refine h_iload C dL_refused_578 rfl ?_
  refine h_iconst (v := 1) C dL_refused_580 (by decide) ?_
  refine h_iadd C dL_refused_581 ?_
  refine h_topE (nI (t + 1)) (nI_1 t) ?_
  refine h_iconst (v := 1) C dL_refused_582 (by decide) ?_
  refine h_iconst (v := 0) C dL_refused_583 (by decide) ?_
  refine h_iconst (v := 0) C dL_refused_584 (by decide) ?_
  have q585 : kAEv r (nI (t + 1)) (1) (0) (0) = 1 := q_ev1 (by unfold mEvtI; rw [if_neg (by decide), if_pos rfl, if_neg (by decide)])
  refine h_callXs T (Xs_v (n_addEvent G.1 hs1.1 (nI (t + 1)) (1) (0) (0) (by rw [q585]; decide)) (v' := -2051) (by rw [q585]; rfl)) dL_refused_585 rfl gL_refused_L_addEvent rfl qL_addEvent ⟨rfl, rfl⟩ ⟨Nat.le_of_ble_eq_true rfl, Nat.le_of_ble_eq_true rfl⟩ rfl (Nat.le_of_ble_eq_true rfl) (Nat.le_of_ble_eq_true rfl) (Nat.le_of_ble_eq_true rfl) ?_
  refine h_sipush (v := -2051) C dL_refused_588 (by decide) ?_
  refine h_icmp_ne (t := 654) C dL_refused_591 (by decide) (fun kc591 => absurd (rfl) kc591) (fun kc591 => ?_)
  refine h_aload_n C dL_refused_594 rfl ?_
  refine h_iload C dL_refused_595 rfl ?_
  refine h_iconst (v := 1) C dL_refused_597 (by decide) ?_
  refine h_iadd C dL_refused_598 ?_
  refine h_topE (nI (t + 1)) (nI_1 t) ?_
  refine h_iconst (v := 2) C dL_refused_599 (by decide) ?_
  refine h_iconst (v := 0) C dL_refused_600 (by decide) ?_
  refine h_iconst (v := 1) C dL_refused_601 (by decide) ?_
  have q602 : kAEv r (nI (t + 1)) (2) (0) (1) = 1 := q_ev1 (by unfold mEvtI; rw [if_neg (by decide), if_neg (by decide), if_pos rfl, if_neg (by decide)])
  refine h_callXs T (Xs_v (n_addEvent G.1 hs1.1 (nI (t + 1)) (2) (0) (1) (by rw [q602]; decide)) (v' := -2051) (by rw [q602]; rfl)) dL_refused_602 rfl gL_refused_L_addEvent rfl qL_addEvent ⟨rfl, rfl⟩ ⟨Nat.le_of_ble_eq_true rfl, Nat.le_of_ble_eq_true rfl⟩ rfl (Nat.le_of_ble_eq_true rfl) (Nat.le_of_ble_eq_true rfl) (Nat.le_of_ble_eq_true rfl) ?_
  refine h_sipush (v := -2051) C dL_refused_605 (by decide) ?_
  refine h_icmp_ne (t := 654) C dL_refused_608 (by decide) (fun kc608 => absurd (rfl) kc608) (fun kc608 => ?_)
  refine h_aload_n C dL_refused_611 rfl ?_
  refine h_iload C dL_refused_612 rfl ?_
  refine h_iconst (v := 1) C dL_refused_614 (by decide) ?_
  refine h_iadd C dL_refused_615 ?_
  refine h_topE (nI (t + 1)) (nI_1 t) ?_
  refine h_iconst (v := 3) C dL_refused_616 (by decide) ?_
  refine h_aload_n C dL_refused_617 rfl ?_
  refine h_bipush (v := 12) C dL_refused_618 (by decide) ?_
  refine h_callXs T (rd_info12 G hs1.1) dL_refused_620 rfl gL_refused_L_info rfl qL_info ⟨rfl, rfl⟩ ⟨Nat.le_of_ble_eq_true rfl, Nat.le_of_ble_eq_true rfl⟩ rfl (Nat.le_of_ble_eq_true rfl) (Nat.le_of_ble_eq_true rfl) (Nat.le_of_ble_eq_true rfl) ?_
  refine h_iconst (v := 0) C dL_refused_623 (by decide) ?_
  have q624 : kAEv r (nI (t + 1)) (3) (nI ns) (0) = 1 := q_ev1 (q_k3 G _)
  refine h_callXs T (Xs_v (n_addEvent G.1 hs1.1 (nI (t + 1)) (3) (nI ns) (0) (by rw [q624]; decide)) (v' := -2051) (by rw [q624]; rfl)) dL_refused_624 rfl gL_refused_L_addEvent rfl qL_addEvent ⟨rfl, rfl⟩ ⟨Nat.le_of_ble_eq_true rfl, Nat.le_of_ble_eq_true rfl⟩ rfl (Nat.le_of_ble_eq_true rfl) (Nat.le_of_ble_eq_true rfl) (Nat.le_of_ble_eq_true rfl) ?_
  refine h_sipush (v := -2051) C dL_refused_627 (by decide) ?_
  refine h_icmp_ne (t := 654) C dL_refused_630 (by decide) (fun kc630 => absurd (rfl) kc630) (fun kc630 => ?_)
  refine h_aload_n C dL_refused_633 rfl ?_
  refine h_iload C dL_refused_634 rfl ?_
  refine h_iconst (v := 1) C dL_refused_636 (by decide) ?_
  refine h_iadd C dL_refused_637 ?_
  refine h_topE (nI (t + 1)) (nI_1 t) ?_
  refine h_iconst (v := 4) C dL_refused_638 (by decide) ?_
  refine h_iconst (v := 1) C dL_refused_639 (by decide) ?_
  refine h_iconst (v := 0) C dL_refused_640 (by decide) ?_
  have q641 : kAEv r (nI (t + 1)) (4) (1) (0) = 1 := q_ev1 (by unfold mEvtI; rw [if_neg (by decide), if_neg (by decide), if_neg (by decide), if_neg (by decide), if_pos rfl, if_neg (by decide)])
  refine h_callXs T (Xs_v (n_addEvent G.1 hs1.1 (nI (t + 1)) (4) (1) (0) (by rw [q641]; decide)) (v' := -2051) (by rw [q641]; rfl)) dL_refused_641 rfl gL_refused_L_addEvent rfl qL_addEvent ⟨rfl, rfl⟩ ⟨Nat.le_of_ble_eq_true rfl, Nat.le_of_ble_eq_true rfl⟩ rfl (Nat.le_of_ble_eq_true rfl) (Nat.le_of_ble_eq_true rfl) (Nat.le_of_ble_eq_true rfl) ?_
  refine h_sipush (v := -2051) C dL_refused_644 (by decide) ?_
  refine h_icmp_ne (t := 654) C dL_refused_647 (by decide) (fun kc647 => absurd (rfl) kc647) (fun kc647 => ?_)
  refine h_iconst (v := 1) C dL_refused_650 (by decide) ?_
  refine h_goto (t := 655) C dL_refused_651 (by decide) ?_
  refine h_istore C dL_refused_655 (L' := [_, _, _, _, _, _]) (by decide) (Nat.lt_of_lt_of_le (by decide : (5 : Nat) < 6) (Nat.le_refl _)) rfl ?_
  refine h_iload C dL_refused_657 rfl ?_
  refine h_if_eq (t := 856) C dL_refused_659 (by decide) (fun kc659 => absurd kc659 (by decide)) (fun kc659 => ?_)
  refine h_aload_n C dL_refused_662 rfl ?_
  refine h_iconst (v := 0) C dL_refused_663 (by decide) ?_
  refine h_iconst (v := 4) C dL_refused_664 (by decide) ?_
  have q665 : kW (4) 0 3 = 1 := by decide
  refine h_callXs T (Xs_v (n_event G.1 hs1.1 (0) (4) (by rw [q665]; decide)) (v' := -2051) (by rw [q665]; rfl)) dL_refused_665 rfl gL_refused_L_event rfl qL_event ⟨rfl, rfl⟩ ⟨Nat.le_of_ble_eq_true rfl, Nat.le_of_ble_eq_true rfl⟩ rfl (Nat.le_of_ble_eq_true rfl) (Nat.le_of_ble_eq_true rfl) (Nat.le_of_ble_eq_true rfl) ?_
  refine h_sipush (v := -2051) C dL_refused_668 (by decide) ?_
  refine h_icmp_ne (t := 856) C dL_refused_671 (by decide) (fun kc671 => absurd (rfl) kc671) (fun kc671 => ?_)
  refine h_aload_n C dL_refused_674 rfl ?_
  refine h_aload_n C dL_refused_675 rfl ?_
  refine h_bipush (v := 14) C dL_refused_676 (by decide) ?_
  refine h_callXs T (rd_info14 G hs1.1) dL_refused_678 rfl gL_refused_L_info rfl qL_info ⟨rfl, rfl⟩ ⟨Nat.le_of_ble_eq_true rfl, Nat.le_of_ble_eq_true rfl⟩ rfl (Nat.le_of_ble_eq_true rfl) (Nat.le_of_ble_eq_true rfl) (Nat.le_of_ble_eq_true rfl) ?_
  refine h_iconst (v := 0) C dL_refused_681 (by decide) ?_
  refine h_callXs T (Xs_v (s_event G.1 hs1.1 (nI ne) 0 (by decide)) (q_evN G)) dL_refused_682 rfl gL_refused_L_event rfl qL_event ⟨rfl, rfl⟩ ⟨Nat.le_of_ble_eq_true rfl, Nat.le_of_ble_eq_true rfl⟩ rfl (Nat.le_of_ble_eq_true rfl) (Nat.le_of_ble_eq_true rfl) (Nat.le_of_ble_eq_true rfl) ?_
  refine h_iconst (v := -1) C dL_refused_685 (by decide) ?_
  refine h_icmp_ne (t := 856) C dL_refused_686 (by decide) (fun kc686 => absurd (rfl) kc686) (fun kc686 => ?_)
  refine h_aload_n C dL_refused_689 rfl ?_
  refine h_iload_n C dL_refused_690 rfl ?_
  refine h_bipush (v := 61) C dL_refused_691 (by decide) ?_
  have q693 : kRW r (nI R) (61) 0 60 = 1 := q_rw1 G _ _ _
  refine h_callXs T (Xs_v (n_mute G.1 hs1.1 (nI R) (61) (by rw [q693]; decide)) (v' := -2053) (by rw [q693]; rfl)) dL_refused_693 rfl gL_refused_L_mute rfl qL_mute ⟨rfl, rfl⟩ ⟨Nat.le_of_ble_eq_true rfl, Nat.le_of_ble_eq_true rfl⟩ rfl (Nat.le_of_ble_eq_true rfl) (Nat.le_of_ble_eq_true rfl) (Nat.le_of_ble_eq_true rfl) ?_
  refine h_sipush (v := -2053) C dL_refused_696 (by decide) ?_
  refine h_icmp_ne (t := 856) C dL_refused_699 (by decide) (fun kc699 => absurd (rfl) kc699) (fun kc699 => ?_)
  refine h_aload_n C dL_refused_702 rfl ?_
  refine h_iconst (v := 0) C dL_refused_703 (by decide) ?_
  refine h_bipush (v := 61) C dL_refused_704 (by decide) ?_
  have q706 : kRW r (0) (61) 0 60 = 2 := q_rw2 G (by decide)
  refine h_callXs T (Xs_v (n_mute G.1 hs1.1 (0) (61) (by rw [q706]; decide)) (v' := -2051) (by rw [q706]; rfl)) dL_refused_706 rfl gL_refused_L_mute rfl qL_mute ⟨rfl, rfl⟩ ⟨Nat.le_of_ble_eq_true rfl, Nat.le_of_ble_eq_true rfl⟩ rfl (Nat.le_of_ble_eq_true rfl) (Nat.le_of_ble_eq_true rfl) (Nat.le_of_ble_eq_true rfl) ?_
  refine h_sipush (v := -2051) C dL_refused_709 (by decide) ?_
  refine h_icmp_ne (t := 856) C dL_refused_712 (by decide) (fun kc712 => absurd (rfl) kc712) (fun kc712 => ?_)
  refine h_aload_n C dL_refused_715 rfl ?_
  refine h_iconst (v := 0) C dL_refused_716 (by decide) ?_
  have q717 : kW (0) 1 60 = 1 := by decide
  refine h_callXs T (Xs_v (n_pass G.1 hs1.1 G.2.1 (by omega) (0) (by rw [q717]; decide)) (v' := -2051) (by rw [q717]; rfl)) dL_refused_717 rfl gL_refused_L_pass rfl qL_pass ⟨rfl, rfl⟩ ⟨Nat.le_of_ble_eq_true rfl, Nat.le_of_ble_eq_true rfl⟩ rfl (Nat.le_of_ble_eq_true rfl) (Nat.le_of_ble_eq_true rfl) (Nat.le_of_ble_eq_true rfl) ?_
  refine h_sipush (v := -2051) C dL_refused_720 (by decide) ?_
  refine h_icmp_ne (t := 856) C dL_refused_723 (by decide) (fun kc723 => absurd (rfl) kc723) (fun kc723 => ?_)
  refine h_aload_n C dL_refused_726 rfl ?_
  refine h_bipush (v := 61) C dL_refused_727 (by decide) ?_
  have q729 : kW (61) 1 60 = 1 := by decide
  refine h_callXs T (Xs_v (n_pass G.1 hs1.1 G.2.1 (by omega) (61) (by rw [q729]; decide)) (v' := -2051) (by rw [q729]; rfl)) dL_refused_729 rfl gL_refused_L_pass rfl qL_pass ⟨rfl, rfl⟩ ⟨Nat.le_of_ble_eq_true rfl, Nat.le_of_ble_eq_true rfl⟩ rfl (Nat.le_of_ble_eq_true rfl) (Nat.le_of_ble_eq_true rfl) (Nat.le_of_ble_eq_true rfl) ?_
  refine h_sipush (v := -2051) C dL_refused_732 (by decide) ?_
  refine h_icmp_ne (t := 856) C dL_refused_735 (by decide) (fun kc735 => absurd (rfl) kc735) (fun kc735 => ?_)
  refine h_aload_n C dL_refused_738 rfl ?_
  refine h_bipush (v := 6) C dL_refused_739 (by decide) ?_
  have q741 : kW (6) 0 5 = 1 := by decide
  refine h_callXs T (Xs_v (n_told G.1 hs1.1 (6) (by rw [q741]; decide)) (v' := -2051) (by rw [q741]; rfl)) dL_refused_741 rfl gL_refused_L_told rfl qL_told ⟨rfl, rfl⟩ ⟨Nat.le_of_ble_eq_true rfl, Nat.le_of_ble_eq_true rfl⟩ rfl (Nat.le_of_ble_eq_true rfl) (Nat.le_of_ble_eq_true rfl) (Nat.le_of_ble_eq_true rfl) ?_
  refine h_sipush (v := -2051) C dL_refused_744 (by decide) ?_
  refine h_icmp_ne (t := 856) C dL_refused_747 (by decide) (fun kc747 => absurd (rfl) kc747) (fun kc747 => ?_)
  refine h_aload_n C dL_refused_750 rfl ?_
  refine h_iload_n C dL_refused_751 rfl ?_
  refine h_iconst (v := 0) C dL_refused_752 (by decide) ?_
  have q753 : kRW r (nI R) (0) 1 200 = 1 := q_rw1 G _ _ _
  refine h_callXs T (Xs_v (n_alarmIn G.1 hs1.1 G.2.1 (by omega) (nI R) (0) (by rw [q753]; decide)) (v' := -2053) (by rw [q753]; rfl)) dL_refused_753 rfl gL_refused_L_alarmIn rfl qL_alarmIn ⟨rfl, rfl⟩ ⟨Nat.le_of_ble_eq_true rfl, Nat.le_of_ble_eq_true rfl⟩ rfl (Nat.le_of_ble_eq_true rfl) (Nat.le_of_ble_eq_true rfl) (Nat.le_of_ble_eq_true rfl) ?_
  refine h_sipush (v := -2053) C dL_refused_756 (by decide) ?_
  refine h_icmp_ne (t := 856) C dL_refused_759 (by decide) (fun kc759 => absurd (rfl) kc759) (fun kc759 => ?_)
  refine h_aload_n C dL_refused_762 rfl ?_
  refine h_iconst (v := 0) C dL_refused_763 (by decide) ?_
  refine h_iconst (v := 0) C dL_refused_764 (by decide) ?_
  have q765 : kRW r (0) (0) 1 200 = 2 := q_rw2 G (by decide)
  refine h_callXs T (Xs_v (n_alarmIn G.1 hs1.1 G.2.1 (by omega) (0) (0) (by rw [q765]; decide)) (v' := -2051) (by rw [q765]; rfl)) dL_refused_765 rfl gL_refused_L_alarmIn rfl qL_alarmIn ⟨rfl, rfl⟩ ⟨Nat.le_of_ble_eq_true rfl, Nat.le_of_ble_eq_true rfl⟩ rfl (Nat.le_of_ble_eq_true rfl) (Nat.le_of_ble_eq_true rfl) (Nat.le_of_ble_eq_true rfl) ?_
  refine h_sipush (v := -2051) C dL_refused_768 (by decide) ?_
  refine h_icmp_ne (t := 856) C dL_refused_771 (by decide) (fun kc771 => absurd (rfl) kc771) (fun kc771 => ?_)
  refine h_aload_n C dL_refused_774 rfl ?_
  refine h_iconst (v := 0) C dL_refused_775 (by decide) ?_
  refine h_sipush (v := 201) C dL_refused_776 (by decide) ?_
  have q779 : kRW r (0) (201) 1 200 = 2 := q_rw2 G (by decide)
  refine h_callXs T (Xs_v (n_smokeAfter G.1 hs1.1 G.2.1 (by omega) (0) (201) (by rw [q779]; decide)) (v' := -2051) (by rw [q779]; rfl)) dL_refused_779 rfl gL_refused_L_smokeAfter rfl qL_smokeAfter ⟨rfl, rfl⟩ ⟨Nat.le_of_ble_eq_true rfl, Nat.le_of_ble_eq_true rfl⟩ rfl (Nat.le_of_ble_eq_true rfl) (Nat.le_of_ble_eq_true rfl) (Nat.le_of_ble_eq_true rfl) ?_
  refine h_sipush (v := -2051) C dL_refused_782 (by decide) ?_
  refine h_icmp_ne (t := 856) C dL_refused_785 (by decide) (fun kc785 => absurd (rfl) kc785) (fun kc785 => ?_)
  refine h_aload_n C dL_refused_788 rfl ?_
  refine h_iconst (v := 0) C dL_refused_789 (by decide) ?_
  refine h_bipush (v := 9) C dL_refused_790 (by decide) ?_
  refine h_iconst (v := 1) C dL_refused_792 (by decide) ?_
  have q793 : kPeak r (0) (9) (1) = 2 := q_pk2 G (by decide)
  refine h_callXs T (Xs_v (n_peak G.1 hs1.1 G.2.1 (by omega) (0) (9) (1) (by rw [q793]; decide)) (v' := -2051) (by rw [q793]; rfl)) dL_refused_793 rfl gL_refused_L_peak rfl qL_peak ⟨rfl, rfl⟩ ⟨Nat.le_of_ble_eq_true rfl, Nat.le_of_ble_eq_true rfl⟩ rfl (Nat.le_of_ble_eq_true rfl) (Nat.le_of_ble_eq_true rfl) (Nat.le_of_ble_eq_true rfl) ?_
  refine h_sipush (v := -2051) C dL_refused_796 (by decide) ?_
  refine h_icmp_ne (t := 856) C dL_refused_799 (by decide) (fun kc799 => absurd (rfl) kc799) (fun kc799 => ?_)
  refine h_aload_n C dL_refused_802 rfl ?_
  refine h_iload_n C dL_refused_803 rfl ?_
  refine h_bipush (v := 9) C dL_refused_804 (by decide) ?_
  refine h_iconst (v := 1) C dL_refused_806 (by decide) ?_
  have q807 : kPeak r (nI R) (9) (1) = 1 := q_pk1 G _ _
  refine h_callXs T (Xs_v (n_peak G.1 hs1.1 G.2.1 (by omega) (nI R) (9) (1) (by rw [q807]; decide)) (v' := -2053) (by rw [q807]; rfl)) dL_refused_807 rfl gL_refused_L_peak rfl qL_peak ⟨rfl, rfl⟩ ⟨Nat.le_of_ble_eq_true rfl, Nat.le_of_ble_eq_true rfl⟩ rfl (Nat.le_of_ble_eq_true rfl) (Nat.le_of_ble_eq_true rfl) (Nat.le_of_ble_eq_true rfl) ?_
  refine h_sipush (v := -2053) C dL_refused_810 (by decide) ?_
  refine h_icmp_ne (t := 856) C dL_refused_813 (by decide) (fun kc813 => absurd (rfl) kc813) (fun kc813 => ?_)
  refine h_aload_n C dL_refused_816 rfl ?_
  refine h_iconst (v := 0) C dL_refused_817 (by decide) ?_
  have q818 : kW (0) 1 200 = 1 := by decide
  refine h_callXs T (Xs_v (n_bestOpening G.1 hs1.1 G.2.1 (by omega) (0) (by rw [q818]; decide)) (v' := -2051) (by rw [q818]; rfl)) dL_refused_818 rfl gL_refused_L_bestOpening rfl qL_bestOpening ⟨rfl, rfl⟩ ⟨Nat.le_of_ble_eq_true rfl, Nat.le_of_ble_eq_true rfl⟩ rfl (Nat.le_of_ble_eq_true rfl) (Nat.le_of_ble_eq_true rfl) (Nat.le_of_ble_eq_true rfl) ?_
  refine h_sipush (v := -2051) C dL_refused_821 (by decide) ?_
  refine h_icmp_ne (t := 856) C dL_refused_824 (by decide) (fun kc824 => absurd (rfl) kc824) (fun kc824 => ?_)
  refine h_aload_n C dL_refused_827 rfl ?_
  refine h_iconst (v := 0) C dL_refused_828 (by decide) ?_
  refine h_sipush (v := 201) C dL_refused_829 (by decide) ?_
  have q832 : kRW r (0) (201) 1 200 = 2 := q_rw2 G (by decide)
  refine h_callXs T (Xs_v (n_neededSensors G.1 hs1.1 G.2.1 (by omega) (0) (201) (by rw [q832]; decide)) (v' := -2051) (by rw [q832]; rfl)) dL_refused_832 rfl gL_refused_L_neededSensors rfl qL_neededSensors ⟨rfl, rfl⟩ ⟨Nat.le_of_ble_eq_true rfl, Nat.le_of_ble_eq_true rfl⟩ rfl (Nat.le_of_ble_eq_true rfl) (Nat.le_of_ble_eq_true rfl) (Nat.le_of_ble_eq_true rfl) ?_
  refine h_sipush (v := -2051) C dL_refused_835 (by decide) ?_
  refine h_icmp_ne (t := 856) C dL_refused_838 (by decide) (fun kc838 => absurd (rfl) kc838) (fun kc838 => ?_)
  refine h_aload_n C dL_refused_841 rfl ?_
  refine h_iconst (v := 0) C dL_refused_842 (by decide) ?_
  have q843 : kW (0) 1 200 = 1 := by decide
  refine h_callXs T (Xs_v (n_burnsFor G.1 hs1.1 G.2.1 (by omega) (0) (by rw [q843]; decide)) (v' := -2051) (by rw [q843]; rfl)) dL_refused_843 rfl gL_refused_L_burnsFor rfl qL_burnsFor ⟨rfl, rfl⟩ ⟨Nat.le_of_ble_eq_true rfl, Nat.le_of_ble_eq_true rfl⟩ rfl (Nat.le_of_ble_eq_true rfl) (Nat.le_of_ble_eq_true rfl) (Nat.le_of_ble_eq_true rfl) ?_
  refine h_sipush (v := -2051) C dL_refused_846 (by decide) ?_
  refine h_icmp_ne (t := 856) C dL_refused_849 (by decide) (fun kc849 => absurd (rfl) kc849) (fun kc849 => ?_)
  refine h_iconst (v := 1) C dL_refused_852 (by decide) ?_
  refine h_goto (t := 857) C dL_refused_853 (by decide) ?_
  refine h_istore C dL_refused_857 (L' := [_, _, _, _, _, _]) (by decide) (Nat.lt_of_lt_of_le (by decide : (5 : Nat) < 6) (Nat.le_refl _)) rfl ?_
  refine h_iload C dL_refused_859 rfl ?_
  refine h_if_eq (t := 956) C dL_refused_861 (by decide) (fun kc861 => absurd kc861 (by decide)) (fun kc861 => ?_)
  refine h_aload_n C dL_refused_864 rfl ?_
  refine h_bipush (v := 12) C dL_refused_865 (by decide) ?_
  refine h_callXs T (rd_info12 G hs1.1) dL_refused_867 rfl gL_refused_L_info rfl qL_info ⟨rfl, rfl⟩ ⟨Nat.le_of_ble_eq_true rfl, Nat.le_of_ble_eq_true rfl⟩ rfl (Nat.le_of_ble_eq_true rfl) (Nat.le_of_ble_eq_true rfl) (Nat.le_of_ble_eq_true rfl) ?_
  refine h_bipush (v := 8) C dL_refused_870 (by decide) ?_
  refine h_joinS (t := 890) (st2 := []) (k' := 70) ?_ (fun K872 => ?_)
  ·
    refine h_aload_n C dL_refused_890 rfl ?_
    refine h_bipush (v := 13) C dL_refused_891 (by decide) ?_
    refine h_callXs T (rd_info13 G hs1.1) dL_refused_893 rfl gL_refused_L_info rfl qL_info ⟨rfl, rfl⟩ ⟨Nat.le_of_ble_eq_true rfl, Nat.le_of_ble_eq_true rfl⟩ rfl (Nat.le_of_ble_eq_true rfl) (Nat.le_of_ble_eq_true rfl) (Nat.le_of_ble_eq_true rfl) ?_
    refine h_bipush (v := 8) C dL_refused_896 (by decide) ?_
    refine h_joinS (t := 915) (st2 := []) (k' := 72) ?_ (fun K898 => ?_)
    ·
      refine h_aload_n C dL_refused_915 rfl ?_
      refine h_bipush (v := 14) C dL_refused_916 (by decide) ?_
      refine h_callXs T (rd_info14 G hs1.1) dL_refused_918 rfl gL_refused_L_info rfl qL_info ⟨rfl, rfl⟩ ⟨Nat.le_of_ble_eq_true rfl, Nat.le_of_ble_eq_true rfl⟩ rfl (Nat.le_of_ble_eq_true rfl) (Nat.le_of_ble_eq_true rfl) (Nat.le_of_ble_eq_true rfl) ?_
      refine h_bipush (v := 20) C dL_refused_921 (by decide) ?_
      refine h_joinS (t := 943) (st2 := []) (k' := 74) ?_ (fun K923 => ?_)
      ·
        refine h_aload_n C dL_refused_943 rfl ?_
        refine h_callXhl T (e_L_print G hs1 ht) dL_refused_944 rfl gL_refused_L_print rfl qL_print ⟨rfl, rfl⟩ ⟨Nat.le_of_ble_eq_true rfl, Nat.le_of_ble_eq_true rfl⟩ rfl (Nat.le_of_ble_eq_true rfl) (Nat.le_of_ble_eq_true rfl) (Nat.le_of_ble_eq_true rfl) (fun kp2 qs2 hs2 => ?_)
        refine h_lload_n C dL_refused_947 rfl ?_
        refine h_lcmp C dL_refused_948 ?_
        refine h_if_ne (t := 956) C dL_refused_949 (by decide) (fun kc949 => absurd ((lg_cmp_eq _ _).mpr rfl) kc949) (fun kc949 => ?_)
        refine h_iconst (v := 1) C dL_refused_952 (by decide) ?_
        refine h_goto (t := 957) C dL_refused_953 (by decide) ?_
        exact h_zret C rfl dL_refused_957 (by decide) (Nat.le_of_ble_eq_true rfl) (hs2)
      ·
        refine h_icmp_lt (t := 943) C dL_refused_923 (by decide) (fun kc923 => ?_) (fun kc923 => ?_)
        · -- t
          exact h_widen (by omega) K923
        · -- f
          have h20 := eq_top (m := 20) kc923 G.1.1.2.2.2.1.2 (by decide)
          refine h_aload_n C dL_refused_926 rfl ?_
          refine h_iload C dL_refused_927 rfl ?_
          refine h_iconst (v := 1) C dL_refused_929 (by decide) ?_
          refine h_iadd C dL_refused_930 ?_
          refine h_topE (nI (t + 1)) (nI_1 t) ?_
          refine h_iconst (v := 4) C dL_refused_931 (by decide) ?_
          refine h_iconst (v := 0) C dL_refused_932 (by decide) ?_
          refine h_iconst (v := 0) C dL_refused_933 (by decide) ?_
          have q934 : kAEv r (nI (t + 1)) (4) (0) (0) = 2 := q_ev2 G h20 (by intro z; unfold mEvtI at z; revert z; rw [if_neg (by decide), if_neg (by decide), if_neg (by decide), if_neg (by decide), if_pos rfl, if_pos ⟨rfl, rfl⟩]; decide)
          refine h_callXs T (Xs_v (n_addEvent G.1 hs1.1 (nI (t + 1)) (4) (0) (0) (by rw [q934]; decide)) (v' := -2052) (by rw [q934]; rfl)) dL_refused_934 rfl gL_refused_L_addEvent rfl qL_addEvent ⟨rfl, rfl⟩ ⟨Nat.le_of_ble_eq_true rfl, Nat.le_of_ble_eq_true rfl⟩ rfl (Nat.le_of_ble_eq_true rfl) (Nat.le_of_ble_eq_true rfl) (Nat.le_of_ble_eq_true rfl) ?_
          refine h_sipush (v := -2052) C dL_refused_937 (by decide) ?_
          refine h_icmp_ne (t := 956) C dL_refused_940 (by decide) (fun kc940 => absurd (rfl) kc940) (fun kc940 => ?_)
          exact h_widen (by omega) K923
    ·
      refine h_icmp_lt (t := 915) C dL_refused_898 (by decide) (fun kc898 => ?_) (fun kc898 => ?_)
      · -- t
        exact h_widen (by omega) K898
      · -- f
        have h8r := eq_top (m := 8) kc898 G.1.1.2.2.1.2 (by decide)
        refine h_aload_n C dL_refused_901 rfl ?_
        refine h_iconst (v := 0) C dL_refused_902 (by decide) ?_
        refine h_iconst (v := 0) C dL_refused_903 (by decide) ?_
        refine h_iconst (v := 0) C dL_refused_904 (by decide) ?_
        refine h_iconst (v := 0) C dL_refused_905 (by decide) ?_
        have q906 : kARu r (0) (0) (0) (0) = 3 := q_ar3 G h8r (by decide)
        refine h_callXs T (Xs_v (n_addRule G.1 hs1.1 (0) (0) (0) (0) (by rw [q906]; decide)) (v' := -2052) (by rw [q906]; rfl)) dL_refused_906 rfl gL_refused_L_addRule rfl qL_addRule ⟨rfl, rfl⟩ ⟨Nat.le_of_ble_eq_true rfl, Nat.le_of_ble_eq_true rfl⟩ rfl (Nat.le_of_ble_eq_true rfl) (Nat.le_of_ble_eq_true rfl) (Nat.le_of_ble_eq_true rfl) ?_
        refine h_sipush (v := -2052) C dL_refused_909 (by decide) ?_
        refine h_icmp_ne (t := 956) C dL_refused_912 (by decide) (fun kc912 => absurd (rfl) kc912) (fun kc912 => ?_)
        exact h_widen (by omega) K898
  ·
    refine h_icmp_lt (t := 890) C dL_refused_872 (by decide) (fun kc872 => ?_) (fun kc872 => ?_)
    · -- t
      exact h_widen (by omega) K872
    · -- f
      have h8s := eq_top (m := 8) kc872 G.1.1.2.1.2 (by decide)
      refine h_aload_n C dL_refused_875 rfl ?_
      refine h_iconst (v := 0) C dL_refused_876 (by decide) ?_
      refine h_iconst (v := 0) C dL_refused_877 (by decide) ?_
      refine h_iconst (v := 1) C dL_refused_878 (by decide) ?_
      refine h_iconst (v := 0) C dL_refused_879 (by decide) ?_
      refine h_iconst (v := 1) C dL_refused_880 (by decide) ?_
      have q881 : kASe r (0) (0) (1) (0) (1) = 3 := q_as3 G h8s (by decide)
      refine h_callXs T (Xs_v (n_addSensor G.1 hs1.1 (0) (0) (1) (0) (1) (by rw [q881]; decide)) (v' := -2052) (by rw [q881]; rfl)) dL_refused_881 rfl gL_refused_L_addSensor rfl qL_addSensor ⟨rfl, rfl⟩ ⟨Nat.le_of_ble_eq_true rfl, Nat.le_of_ble_eq_true rfl⟩ rfl (Nat.le_of_ble_eq_true rfl) (Nat.le_of_ble_eq_true rfl) (Nat.le_of_ble_eq_true rfl) ?_
      refine h_sipush (v := -2052) C dL_refused_884 (by decide) ?_
      refine h_icmp_ne (t := 956) C dL_refused_887 (by decide) (fun kc887 => absurd (rfl) kc887) (fun kc887 => ?_)
      exact h_widen (by omega) K872
