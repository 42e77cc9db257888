/-! print(o): the same for the same row; the records may lose the oldest -/
set_option maxHeartbeats 4000000 in
set_option maxRecDepth 100000 in
theorem e_L_print {r : Rw} {R ns nr ne t kp Tm : Nat} {qs : Nat → Rw} (G : Gd r R ns nr ne t) (hs : Gs Tm kp qs) (ht : t ≤ Tm) : Xhl 4 mL_print [.ref 0] r kp qs (31 * mBas r R ns ne) r (Gs Tm) := by
  have hs1 := (hs.keep (G.k ht)).back
  refine Xhl_mk (L := [some (.ref 0), none, none, none]) (by decide) rfl (Nat.le_of_ble_eq_true rfl) rfl (fun x b0 T => ?_)
  have C := T.1
  refine h_aload_n C dL_print_0 rfl ?_
  refine h_bipush (v := 10) C dL_print_1 (by decide) ?_
  refine h_callXs T (rd_info10 G hs.1) dL_print_3 rfl gL_print_L_info rfl qL_info ⟨rfl, rfl⟩ ⟨Nat.le_of_ble_eq_true rfl, Nat.le_of_ble_eq_true rfl⟩ rfl (Nat.le_of_ble_eq_true rfl) (Nat.le_of_ble_eq_true rfl) (Nat.le_of_ble_eq_true rfl) ?_
  refine h_istore_n C dL_print_6 (L' := [_, _, _, _]) (by decide) (Nat.lt_of_lt_of_le (by decide : (1 : Nat) < 4) (Nat.le_refl _)) rfl ?_
  refine h_aload_n C dL_print_7 rfl ?_
  refine h_iload_n C dL_print_8 rfl ?_
  refine h_callXs T (rd_target G hs.1) dL_print_9 rfl gL_print_L_setTarget rfl qL_setTarget ⟨rfl, rfl⟩ ⟨Nat.le_of_ble_eq_true rfl, Nat.le_of_ble_eq_true rfl⟩ rfl (Nat.le_of_ble_eq_true rfl) (Nat.le_of_ble_eq_true rfl) (Nat.le_of_ble_eq_true rfl) ?_
  refine h_istore_n C dL_print_12 (L' := [_, _, _, _]) (by decide) (Nat.lt_of_lt_of_le (by decide : (2 : Nat) < 4) (Nat.le_refl _)) rfl ?_
  refine h_aload_n C dL_print_13 rfl ?_
  refine h_callXs T (rd_undo G hs (G.k ht)) dL_print_14 rfl gL_print_L_undo rfl qL_undo ⟨rfl, rfl⟩ ⟨Nat.le_of_ble_eq_true rfl, Nat.le_of_ble_eq_true rfl⟩ rfl (Nat.le_of_ble_eq_true rfl) (Nat.le_of_ble_eq_true rfl) (Nat.le_of_ble_eq_true rfl) ?_
  refine h_istore_n C dL_print_17 (L' := [_, _, _, _]) (by decide) (Nat.lt_of_lt_of_le (by decide : (3 : Nat) < 4) (Nat.le_refl _)) rfl ?_
  refine h_iload_n C dL_print_18 rfl ?_
  refine h_iload_n C dL_print_19 rfl ?_
  refine h_icmp_ne (t := 33) C dL_print_20 (by decide) (fun kc20 => absurd (rfl) kc20) (fun kc20 => ?_)
  refine h_aload_n C dL_print_23 rfl ?_
  refine h_callVgl T (rd_sum G) dL_print_24 rfl gL_print_X8_checksum rfl is_X8 ⟨rfl, qX8_checksum⟩ ⟨rfl, rfl⟩ ⟨Nat.le_of_ble_eq_true rfl, Nat.le_of_ble_eq_true rfl⟩ rfl (Nat.le_of_ble_eq_true rfl) (Nat.le_of_ble_eq_true rfl) (Nat.le_of_ble_eq_true rfl) ?_
  refine h_iload_n C dL_print_27 rfl ?_
  refine h_i2l C dL_print_28 ?_
  refine h_lsub C dL_print_29 ?_
  refine h_topL (31 * mBas r R ns ne) (i64_cancel _ _) ?_
  refine h_goto (t := 34) C dL_print_30 (by decide) ?_
  exact h_lret C rfl dL_print_34 (Nat.le_of_ble_eq_true rfl) (hs1)
