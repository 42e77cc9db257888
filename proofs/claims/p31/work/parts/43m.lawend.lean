/-! THE CHECKS BEHIND EACH CALL; THE LOOP -/
section LD
variable {x : xC} {b0 L9 : Nat} {xs9 : Nat → Int32}
set_option maxHeartbeats 4000000 in
set_option maxRecDepth 100000 in
theorem t801 (C : Lw x b0 L9 xs9) {r : Rw} {R ns nr ne tt Tm B : Nat} (G : Gd r R ns nr ne tt) (ht : tt ≤ Tm) (hT : Tm + 200 ≤ 1000000) {t w i : Nat} (hw : w < 4096) (hi : i < R) (htt : t < 26) (hB : B + 2000 ≤ 600000) {Z : State → Prop} (kk : ∀ (kp : Nat) (qs : Nat → Rw) (v4 v5 v6 v7 v8 v9 v10 : Option Value) (k : Nat), k ≤ B + 800 → Gs Tm kp qs → Hs x b0 61 [none, some (.ref 0), some (.int 1), some (.int (nI (t + 1))), v4, v5, v6, v7, v8, v9, v10] [] r kp qs k Z) {v4 v5 v6 v7 v9 : Option Value} {kp : Nat} {qs : Nat → Rw} (hs : Gs Tm kp qs) {k : Nat} (hk : k ≤ B + 620) : Hs x b0 801 [none, some (.ref 0), some (.int 1), some (.int (nI t)), v4, v5, v6, v7, some (.int (nI w)), v9, some (.int (nI i))] [] r kp qs k Z := by
  have T := C.ct
  have C1 := C
  have C := T.1
  have hR := G.1.1.1.2
  refine h_iload_n C dL_law_801 rfl ?_
  refine h_bipush (v := 8) C dL_law_802 (by decide) ?_
  refine h_irem C dL_law_804 (by decide) ?_
  refine h_iconst (v := 5) C dL_law_805 (by decide) ?_
  refine h_icmp_ne (t := 816) C dL_law_806 (by decide) (fun kc806 => ?_) (fun kc806 => ?_)
  · -- t
    refine h_iconst (v := 1) C dL_law_816 (by decide) ?_
    refine h_goto (t := 821) C dL_law_817 (by decide) ?_
    refine h_istore_n C dL_law_821 (L' := [_, _, _, _, _, _, _, _, _, _, _]) (by decide) (Nat.lt_of_lt_of_le (by decide : (2 : Nat) < 11) (Nat.le_refl _)) rfl ?_
    refine h_iinc C dL_law_822 (L' := [_, _, _, _, _, _, _, _, _, _, _]) (by decide) rfl (nI_1 t) rfl ?_
    refine h_goto (t := 61) C dL_law_825 (by decide) ?_
    first
      | exact kk _ _ _ _ _ _ _ _ _ _ (by omega) hs2
      | exact kk _ _ _ _ _ _ _ _ _ _ (by omega) hs
  · -- f
    refine h_aload_n C dL_law_809 rfl ?_
    refine h_callXh T (e_L_refused G hs ht hT) dL_law_810 rfl gL_law_L_refused rfl qL_refused ⟨rfl, rfl⟩ ⟨Nat.le_of_ble_eq_true rfl, Nat.le_of_ble_eq_true rfl⟩ rfl (Nat.le_of_ble_eq_true rfl) (Nat.le_of_ble_eq_true rfl) (by show _ ≤ 644433; omega) (fun kp2 qs2 hs2 => ?_)
    refine h_if_eq (t := 820) C dL_law_813 (by decide) (fun kc813 => absurd kc813 (by decide)) (fun kc813 => ?_)
    refine h_iconst (v := 1) C dL_law_816 (by decide) ?_
    refine h_goto (t := 821) C dL_law_817 (by decide) ?_
    refine h_istore_n C dL_law_821 (L' := [_, _, _, _, _, _, _, _, _, _, _]) (by decide) (Nat.lt_of_lt_of_le (by decide : (2 : Nat) < 11) (Nat.le_refl _)) rfl ?_
    refine h_iinc C dL_law_822 (L' := [_, _, _, _, _, _, _, _, _, _, _]) (by decide) rfl (nI_1 t) rfl ?_
    refine h_goto (t := 61) C dL_law_825 (by decide) ?_
    first
      | exact kk _ _ _ _ _ _ _ _ _ _ (by omega) hs2
      | exact kk _ _ _ _ _ _ _ _ _ _ (by omega) hs
set_option maxHeartbeats 4000000 in
set_option maxRecDepth 100000 in
theorem t778 (C : Lw x b0 L9 xs9) {r : Rw} {R ns nr ne tt Tm B : Nat} (G : Gd r R ns nr ne tt) (ht : tt ≤ Tm) (hT : Tm + 200 ≤ 1000000) {t w i : Nat} (hw : w < 4096) (hi : i < R) (htt : t < 26) (hB : B + 2000 ≤ 600000) {Z : State → Prop} (kk : ∀ (kp : Nat) (qs : Nat → Rw) (v4 v5 v6 v7 v8 v9 v10 : Option Value) (k : Nat), k ≤ B + 800 → Gs Tm kp qs → Hs x b0 61 [none, some (.ref 0), some (.int 1), some (.int (nI (t + 1))), v4, v5, v6, v7, v8, v9, v10] [] r kp qs k Z) {v4 v5 v6 v7 v9 : Option Value} {kp : Nat} {qs : Nat → Rw} (hs : Gs Tm kp qs) {k : Nat} (hk : k ≤ B + 200) : Hs x b0 778 [none, some (.ref 0), some (.int 1), some (.int (nI t)), v4, v5, v6, v7, some (.int (nI w)), v9, some (.int (nI i))] [] r kp qs k Z := by
  have T := C.ct
  have C1 := C
  have C := T.1
  have hR := G.1.1.1.2
  refine h_iload_n C dL_law_778 rfl ?_
  refine h_iconst (v := 5) C dL_law_779 (by decide) ?_
  refine h_irem C dL_law_780 (by decide) ?_
  refine h_iconst (v := 3) C dL_law_781 (by decide) ?_
  refine h_icmp_ne (t := 801) C dL_law_782 (by decide) (fun kc782 => ?_) (fun kc782 => ?_)
  · -- t
    first
      | exact t801 C1 G ht hT hw hi htt hB kk hs2 (by omega)
      | exact t801 C1 G ht hT hw hi htt hB kk hs (by omega)
  · -- f
    refine h_aload_n C dL_law_785 rfl ?_
    refine h_iload C dL_law_786 rfl ?_
    refine h_iconst (v := 1) C dL_law_788 (by decide) ?_
    refine h_iload C dL_law_789 rfl ?_
    refine h_bipush (v := 8) C dL_law_791 (by decide) ?_
    refine h_irem C dL_law_793 (by decide) ?_
    refine h_topE (nI (w % 8)) (pk_rem (d := 8) (by omega) (by decide) (by decide)) ?_
    refine h_iadd C dL_law_794 ?_
    refine h_topE (nI (1 + w % 8)) (nI_add 1 _) ?_
    refine h_callXh T (e_L_isNeeded G hs ht hT i (1 + w % 8) hi (by omega)) dL_law_795 rfl gL_law_L_isNeeded rfl qL_isNeeded ⟨rfl, rfl⟩ ⟨Nat.le_of_ble_eq_true rfl, Nat.le_of_ble_eq_true rfl⟩ rfl (Nat.le_of_ble_eq_true rfl) (Nat.le_of_ble_eq_true rfl) (by show _ ≤ 644433; omega) (fun kp2 qs2 hs2 => ?_)
    refine h_if_eq (t := 820) C dL_law_798 (by decide) (fun kc798 => absurd kc798 (by decide)) (fun kc798 => ?_)
    first
      | exact t801 C1 G ht hT hw hi htt hB kk hs2 (by omega)
      | exact t801 C1 G ht hT hw hi htt hB kk hs (by omega)
set_option maxHeartbeats 4000000 in
set_option maxRecDepth 100000 in
theorem t756 (C : Lw x b0 L9 xs9) {r : Rw} {R ns nr ne tt Tm B : Nat} (G : Gd r R ns nr ne tt) (ht : tt ≤ Tm) (hT : Tm + 200 ≤ 1000000) {t w i : Nat} (hw : w < 4096) (hi : i < R) (htt : t < 26) (hB : B + 2000 ≤ 600000) {Z : State → Prop} (kk : ∀ (kp : Nat) (qs : Nat → Rw) (v4 v5 v6 v7 v8 v9 v10 : Option Value) (k : Nat), k ≤ B + 800 → Gs Tm kp qs → Hs x b0 61 [none, some (.ref 0), some (.int 1), some (.int (nI (t + 1))), v4, v5, v6, v7, v8, v9, v10] [] r kp qs k Z) {v4 v5 v6 v7 v9 : Option Value} {kp : Nat} {qs : Nat → Rw} (hs : Gs Tm kp qs) {k : Nat} (hk : k ≤ B + 140) : Hs x b0 756 [none, some (.ref 0), some (.int 1), some (.int (nI t)), v4, v5, v6, v7, some (.int (nI w)), v9, some (.int (nI i))] [] r kp qs k Z := by
  have T := C.ct
  have C1 := C
  have C := T.1
  have hR := G.1.1.1.2
  refine h_iload_n C dL_law_756 rfl ?_
  refine h_bipush (v := 6) C dL_law_757 (by decide) ?_
  refine h_irem C dL_law_759 (by decide) ?_
  refine h_iconst (v := 2) C dL_law_760 (by decide) ?_
  refine h_icmp_ne (t := 778) C dL_law_761 (by decide) (fun kc761 => ?_) (fun kc761 => ?_)
  · -- t
    first
      | exact t778 C1 G ht hT hw hi htt hB kk hs2 (by omega)
      | exact t778 C1 G ht hT hw hi htt hB kk hs (by omega)
  · -- f
    refine h_aload_n C dL_law_764 rfl ?_
    refine h_iconst (v := 1) C dL_law_765 (by decide) ?_
    refine h_iload C dL_law_766 rfl ?_
    refine h_bipush (v := 9) C dL_law_768 (by decide) ?_
    refine h_irem C dL_law_770 (by decide) ?_
    refine h_topE (nI (w % 9)) (pk_rem (d := 9) (by omega) (by decide) (by decide)) ?_
    refine h_iadd C dL_law_771 ?_
    refine h_topE (nI (1 + w % 9)) (nI_add 1 _) ?_
    refine h_callXh T (e_L_isPeak G hs (by omega) (1 + w % 9) (by omega)) dL_law_772 rfl gL_law_L_isPeak rfl qL_isPeak ⟨rfl, rfl⟩ ⟨Nat.le_of_ble_eq_true rfl, Nat.le_of_ble_eq_true rfl⟩ rfl (Nat.le_of_ble_eq_true rfl) (Nat.le_of_ble_eq_true rfl) (by show _ ≤ 644433; omega) (fun kp2 qs2 hs2 => ?_)
    refine h_if_eq (t := 820) C dL_law_775 (by decide) (fun kc775 => absurd kc775 (by decide)) (fun kc775 => ?_)
    first
      | exact t778 C1 G ht hT hw hi htt hB kk hs2 (by omega)
      | exact t778 C1 G ht hT hw hi htt hB kk hs (by omega)
set_option maxHeartbeats 4000000 in
set_option maxRecDepth 100000 in
theorem t733 (C : Lw x b0 L9 xs9) {r : Rw} {R ns nr ne tt Tm B : Nat} (G : Gd r R ns nr ne tt) (ht : tt ≤ Tm) (hT : Tm + 200 ≤ 1000000) {t w i : Nat} (hw : w < 4096) (hi : i < R) (htt : t < 26) (hB : B + 2000 ≤ 600000) {Z : State → Prop} (kk : ∀ (kp : Nat) (qs : Nat → Rw) (v4 v5 v6 v7 v8 v9 v10 : Option Value) (k : Nat), k ≤ B + 800 → Gs Tm kp qs → Hs x b0 61 [none, some (.ref 0), some (.int 1), some (.int (nI (t + 1))), v4, v5, v6, v7, v8, v9, v10] [] r kp qs k Z) {v4 v5 v6 v7 v9 : Option Value} {kp : Nat} {qs : Nat → Rw} (hs : Gs Tm kp qs) {k : Nat} (hk : k ≤ B + 0) : Hs x b0 733 [none, some (.ref 0), some (.int 1), some (.int (nI t)), v4, v5, v6, v7, some (.int (nI w)), v9, some (.int (nI i))] [] r kp qs k Z := by
  have T := C.ct
  have C1 := C
  have C := T.1
  have hR := G.1.1.1.2
  refine h_iload_n C dL_law_733 rfl ?_
  refine h_iconst (v := 4) C dL_law_734 (by decide) ?_
  refine h_irem C dL_law_735 (by decide) ?_
  refine h_iconst (v := 1) C dL_law_736 (by decide) ?_
  refine h_icmp_ne (t := 756) C dL_law_737 (by decide) (fun kc737 => ?_) (fun kc737 => ?_)
  · -- t
    first
      | exact t756 C1 G ht hT hw hi htt hB kk hs2 (by omega)
      | exact t756 C1 G ht hT hw hi htt hB kk hs (by omega)
  · -- f
    refine h_aload_n C dL_law_740 rfl ?_
    refine h_iload C dL_law_741 rfl ?_
    refine h_iconst (v := 1) C dL_law_743 (by decide) ?_
    refine h_iload C dL_law_744 rfl ?_
    refine h_bipush (v := 12) C dL_law_746 (by decide) ?_
    refine h_irem C dL_law_748 (by decide) ?_
    refine h_topE (nI (w % 12)) (pk_rem (d := 12) (by omega) (by decide) (by decide)) ?_
    refine h_iadd C dL_law_749 ?_
    refine h_topE (nI (1 + w % 12)) (nI_add 1 _) ?_
    refine h_callXh T (e_L_isThought G hs ht hT i (1 + w % 12) hi (by omega)) dL_law_750 rfl gL_law_L_isThought rfl qL_isThought ⟨rfl, rfl⟩ ⟨Nat.le_of_ble_eq_true rfl, Nat.le_of_ble_eq_true rfl⟩ rfl (Nat.le_of_ble_eq_true rfl) (Nat.le_of_ble_eq_true rfl) (by show _ ≤ 644433; omega) (fun kp2 qs2 hs2 => ?_)
    refine h_if_eq (t := 820) C dL_law_753 (by decide) (fun kc753 => absurd kc753 (by decide)) (fun kc753 => ?_)
    first
      | exact t756 C1 G ht hT hw hi htt hB kk hs2 (by omega)
      | exact t756 C1 G ht hT hw hi htt hB kk hs (by omega)
set_option maxHeartbeats 4000000 in
set_option maxRecDepth 100000 in
theorem t686 (C : Lw x b0 L9 xs9) {r : Rw} {R ns nr ne tt Tm B : Nat} (G : Gd r R ns nr ne tt) (ht : tt ≤ Tm) (hT : Tm + 200 ≤ 1000000) {t w m : Nat} (hw : w < 4096) (hm : m < 4096) (htt : t < 26) (hB : B + 2000 ≤ 600000) {Z : State → Prop} (kk : ∀ (kp : Nat) (qs : Nat → Rw) (v4 v5 v6 v7 v8 v9 v10 : Option Value) (k : Nat), k ≤ B + 800 → Gs Tm kp qs → Hs x b0 61 [none, some (.ref 0), some (.int 1), some (.int (nI (t + 1))), v4, v5, v6, v7, v8, v9, v10] [] r kp qs k Z) {v4 v5 v6 v7 v9 : Option Value} {w9 : Int32} (hv : okV w9) {kp : Nat} {qs : Nat → Rw} (hs : Gs Tm kp qs) {v10 : Option Value} {k : Nat} (hk : k + 801 ≤ B) : Hs x b0 686 [none, some (.ref 0), some (.int 1), some (.int (nI t)), v4, v5, v6, some (.int (nI m)), some (.int (nI w)), some (.int w9), v10] [] r kp qs k Z := by
  have T := C.ct
  have C1 := C
  have C := T.1
  have hR := G.1.1.1.2
  refine h_iload C dL_law_686 rfl ?_
  refine h_aload_n C dL_law_688 rfl ?_
  refine h_bipush (v := 6) C dL_law_689 (by decide) ?_
  refine h_callXs T (rd_info6 G hs.1) dL_law_691 rfl gL_law_L_info rfl qL_info ⟨rfl, rfl⟩ ⟨Nat.le_of_ble_eq_true rfl, Nat.le_of_ble_eq_true rfl⟩ rfl (Nat.le_of_ble_eq_true rfl) (Nat.le_of_ble_eq_true rfl) (by show _ ≤ 644433; omega) ?_
  refine h_irem C dL_law_694 (nz hR.1 (by omega)) ?_
  refine h_topE (nI (m % R)) (pk_rem (by omega) hR.1 (by omega)) ?_
  refine h_istore C dL_law_695 (L' := [_, _, _, _, _, _, _, _, _, _, _]) (by decide) (Nat.lt_of_lt_of_le (by decide : (10 : Nat) < 11) (Nat.le_refl _)) rfl ?_
  refine h_joinS (t := 726) (st2 := []) (k' := k + 1) ?_ (fun K697 => ?_)
  ·
    refine h_aload_n C dL_law_726 rfl ?_
    refine h_callXh T (e_L_isHouse G hs) dL_law_727 rfl gL_law_L_isHouse rfl qL_isHouse ⟨rfl, rfl⟩ ⟨Nat.le_of_ble_eq_true rfl, Nat.le_of_ble_eq_true rfl⟩ rfl (Nat.le_of_ble_eq_true rfl) (Nat.le_of_ble_eq_true rfl) (by show _ ≤ 644433; omega) (fun kp2 qs2 hs2 => ?_)
    refine h_if_eq (t := 820) C dL_law_730 (by decide) (fun kc730 => absurd kc730 (by decide)) (fun kc730 => ?_)
    exact t733 C1 G ht hT hw (Nat.mod_lt m hR.1) htt hB kk hs2 (by omega)
  ·
    refine h_iload C dL_law_697 rfl ?_
    refine h_if_ge (t := 726) C dL_law_699 (by decide) (fun kc699 => ?_) (fun kc699 => ?_)
    · -- t
      exact h_widen (by omega) K697
    · -- f
      refine h_iload C dL_law_702 rfl ?_
      refine h_sipush (v := -2052) C dL_law_704 (by decide) ?_
      refine h_icmp_eq (t := 726) C dL_law_707 (by decide) (fun kc707 => ?_) (fun kc707 => ?_)
      · -- t
        exact h_widen (by omega) K697
      · -- f
        refine h_iload C dL_law_710 rfl ?_
        refine h_sipush (v := -2053) C dL_law_712 (by decide) ?_
        refine h_icmp_eq (t := 726) C dL_law_715 (by decide) (fun kc715 => ?_) (fun kc715 => ?_)
        · -- t
          exact h_widen (by omega) K697
        · -- f
          refine h_iload C dL_law_718 rfl ?_
          refine h_sipush (v := -2051) C dL_law_720 (by decide) ?_
          refine h_icmp_ne (t := 820) C dL_law_723 (by decide) (fun kc723 => absurd (by
            rcases hv with q | q | q | q
            · exact absurd q kc699
            · exact absurd q kc707
            · exact absurd q kc715
            · exact q) kc723) (fun kc723 => ?_)
          exact h_widen (by omega) K697
set_option maxHeartbeats 4000000 in
set_option maxRecDepth 100000 in
theorem lw_loop (C : Lw x b0 L9 xs9) : ∀ (f t : Nat), t + f = 26 → ∀ (r : Rw) (kp : Nat) (qs : Nat → Rw) (v4 v5 v6 v7 v8 v9 v10 : Option Value) (k : Nat), k ≤ 500 + 2000 * t → Gk r (60 * t) → Gs (60 * t) kp qs → Hs x b0 61 [none, some (.ref 0), some (.int 1), some (.int (nI t)), v4, v5, v6, v7, v8, v9, v10] [] r kp qs k (xEw x) := by
  have T := C.ct
  have C1 := C
  have C := T.1
  intro f
  induction f with
  | zero =>
    intro t hf r kp qs v4 v5 v6 v7 v8 v9 v10 k hk hG hs
    obtain ⟨R, ns, nr, ne, tt, G, htt⟩ := hG
    refine h_iload_n C dL_law_61 rfl ?_
    refine h_bipush (v := 26) C dL_law_62 (by decide) ?_
    refine h_icmp_ge (t := 828) C dL_law_64 (by decide) (fun kc64 => ?_) (fun kc64 => absurd (nI_le (a := 26) (by omega) (by omega)) kc64)
    refine h_iload_n C dL_law_828 rfl ?_
    refine h_if_eq (t := 843) C dL_law_829 (by decide) (fun kc829 => absurd kc829 (by decide)) (fun kc829 => ?_)
    refine h_aload_n C dL_law_832 rfl ?_
    refine h_callXh T (e_L_refused G hs htt (by omega)) dL_law_833 rfl gL_law_L_refused rfl qL_refused ⟨rfl, rfl⟩ ⟨Nat.le_of_ble_eq_true rfl, Nat.le_of_ble_eq_true rfl⟩ rfl (Nat.le_of_ble_eq_true rfl) (Nat.le_of_ble_eq_true rfl) (by show _ ≤ 644433; omega) (fun kp2 qs2 hs2 => ?_)
    refine h_if_eq (t := 843) C dL_law_836 (by decide) (fun kc836 => absurd kc836 (by decide)) (fun kc836 => ?_)
    refine h_iconst (v := 1) C dL_law_839 (by decide) ?_
    refine h_goto (t := 844) C dL_law_840 (by decide) ?_
    exact h_end C1 dL_law_844 (by omega)
  | succ f ih =>
    intro t hf r kp qs v4 v5 v6 v7 v8 v9 v10 k hk hG hs
    obtain ⟨R, ns, nr, ne, tt, G, htt⟩ := hG
    refine h_iload_n C dL_law_61 rfl ?_
    refine h_bipush (v := 26) C dL_law_62 (by decide) ?_
    refine h_icmp_ge (t := 828) C dL_law_64 (by decide) (fun kc64 => absurd kc64 (nI_ge (b := 26) (by omega) (by decide))) (fun kc64 => ?_)
    refine h_iload_n C dL_law_67 rfl ?_
    refine h_if_eq (t := 828) C dL_law_68 (by decide) (fun kc68 => absurd kc68 (by decide)) (fun kc68 => ?_)
    refine h_cell C1 (t := t) (by omega) rfl rfl rfl (by omega) (fun X => ?_)
    refine h_istore C dL_law_76 (L' := [_, _, _, _, _, _, _, _, _, _, _]) (by decide) (Nat.lt_of_lt_of_le (by decide : (4 : Nat) < 11) (Nat.le_refl _)) rfl ?_
    refine h_aload_n C dL_law_78 rfl ?_
    refine h_bipush (v := 6) C dL_law_79 (by decide) ?_
    refine h_callXs T (rd_info6 G hs.1) dL_law_81 rfl gL_law_L_info rfl qL_info ⟨rfl, rfl⟩ ⟨Nat.le_of_ble_eq_true rfl, Nat.le_of_ble_eq_true rfl⟩ rfl (Nat.le_of_ble_eq_true rfl) (Nat.le_of_ble_eq_true rfl) (by show _ ≤ 644433; omega) ?_
    refine h_istore C dL_law_84 (L' := [_, _, _, _, _, _, _, _, _, _, _]) (by decide) (Nat.lt_of_lt_of_le (by decide : (5 : Nat) < 11) (Nat.le_refl _)) rfl ?_
    refine h_aload_n C dL_law_86 rfl ?_
    refine h_bipush (v := 12) C dL_law_87 (by decide) ?_
    refine h_callXs T (rd_info12 G hs.1) dL_law_89 rfl gL_law_L_info rfl qL_info ⟨rfl, rfl⟩ ⟨Nat.le_of_ble_eq_true rfl, Nat.le_of_ble_eq_true rfl⟩ rfl (Nat.le_of_ble_eq_true rfl) (Nat.le_of_ble_eq_true rfl) (by show _ ≤ 644433; omega) ?_
    refine h_istore C dL_law_92 (L' := [_, _, _, _, _, _, _, _, _, _, _]) (by decide) (Nat.lt_of_lt_of_le (by decide : (6 : Nat) < 11) (Nat.le_refl _)) rfl ?_
    refine h_iload C dL_law_94 rfl ?_
    refine h_iconst (v := 5) C dL_law_96 (by decide) ?_
    refine h_ishr C dL_law_97 ?_
    refine h_sipush (v := 4096) C dL_law_98 (by decide) ?_
    refine h_callSg T (xg_low _ _ (by decide)) dL_law_101 rfl gL_law_L_low rfl qL_low ⟨rfl, rfl⟩ ⟨Nat.le_of_ble_eq_true rfl, Nat.le_of_ble_eq_true rfl⟩ rfl (Nat.le_of_ble_eq_true rfl) (Nat.le_of_ble_eq_true rfl) (by show _ ≤ 644433; omega) ?_
    obtain ⟨m, hm, em⟩ := low_n (X >>> (5 &&& 31)) (N := 4096) (by decide) (by decide)
    refine h_topE (nI m) em ?_
    refine h_istore C dL_law_104 (L' := [_, _, _, _, _, _, _, _, _, _, _]) (by decide) (Nat.lt_of_lt_of_le (by decide : (7 : Nat) < 11) (Nat.le_refl _)) rfl ?_
    refine h_iload C dL_law_106 rfl ?_
    refine h_bipush (v := 12) C dL_law_108 (by decide) ?_
    refine h_ishr C dL_law_110 ?_
    refine h_sipush (v := 4096) C dL_law_111 (by decide) ?_
    refine h_callSg T (xg_low _ _ (by decide)) dL_law_114 rfl gL_law_L_low rfl qL_low ⟨rfl, rfl⟩ ⟨Nat.le_of_ble_eq_true rfl, Nat.le_of_ble_eq_true rfl⟩ rfl (Nat.le_of_ble_eq_true rfl) (Nat.le_of_ble_eq_true rfl) (by show _ ≤ 644433; omega) ?_
    obtain ⟨w, hw, ew⟩ := low_n (X >>> (12 &&& 31)) (N := 4096) (by decide) (by decide)
    refine h_topE (nI w) ew ?_
    refine h_istore C dL_law_117 (L' := [_, _, _, _, _, _, _, _, _, _, _]) (by decide) (Nat.lt_of_lt_of_le (by decide : (8 : Nat) < 11) (Nat.le_refl _)) rfl ?_
    refine h_iconst (v := 0) C dL_law_119 (by decide) ?_
    refine h_istore C dL_law_120 (L' := [_, _, _, _, _, _, _, _, _, _, _]) (by decide) (Nat.lt_of_lt_of_le (by decide : (9 : Nat) < 11) (Nat.le_refl _)) rfl ?_
    refine h_iload C dL_law_122 rfl ?_
    refine h_bipush (v := 20) C dL_law_124 (by decide) ?_
    refine h_callSg T (xg_low _ _ (by decide)) dL_law_126 rfl gL_law_L_low rfl qL_low ⟨rfl, rfl⟩ ⟨Nat.le_of_ble_eq_true rfl, Nat.le_of_ble_eq_true rfl⟩ rfl (Nat.le_of_ble_eq_true rfl) (Nat.le_of_ble_eq_true rfl) (by show _ ≤ 644433; omega) ?_
    obtain ⟨c, hc, ec⟩ := low_n X (N := 20) (by decide) (by decide)
    refine h_topE (nI c) ec ?_
    refine lw_switch C1 G hs htt (by omega) (by omega) (fun w9 r9 kp9 qs9 k9 hk9 hq9 => ?_) c hc
    obtain ⟨hv, ⟨R2, ns2, nr2, ne2, t2, G2, ht2⟩, hs2⟩ := hq9
    refine t686 (v7 := none) (v9 := none) C1 (B := 500 + 2000 * t + 820) G2 ht2 (by omega) hw hm (by omega) (by omega) (fun kp3 qs3 v4 v5 v6 v7 v8 v9 v10 k3 hk3 hs3 => ?_) hv hs2 (by omega)
    exact ih (t + 1) (by omega) r9 kp3 qs3 v4 v5 v6 v7 v8 v9 v10 k3 (by omega) ⟨R2, ns2, nr2, ne2, t2, G2, by omega⟩ (hs3.mono (by omega))
theorem Gd_first : Gd (mBeg 2) 2 0 0 0 0 := ⟨Inv.beg (w := 2) (by decide) (by decide), Sk.beg 2, (by decide : (0 : Int32) ≤ 2), ⟨0, rfl, Nat.le_refl _⟩, ⟨0, rfl, Nat.le_refl _⟩, fun k hk => absurd hk (Nat.not_lt_zero _), fun k hk => absurd hk (Nat.not_lt_zero _)⟩
theorem Gs_first (T : Nat) : Gs T 0 (fun _ => mBeg 2) := ⟨by decide, fun j hj => absurd hj (Nat.not_lt_zero j)⟩
set_option maxHeartbeats 4000000 in
set_option maxRecDepth 100000 in
theorem lw_entry (C : Lw x b0 L9 xs9) : Hs x b0 8 [none, some (.ref 0), none, none, none, none, none, none, none, none, none] [] (mBeg 2) 0 (fun _ => mBeg 2) 300 (xEw x) := by
  have T := C.ct
  have C1 := C
  have C := T.1
  refine h_aload_n C dL_law_8 rfl ?_
  refine h_callXs T (Xs_v (n_undo Gd_first.1 (by decide) (fun j hj => absurd hj (Nat.not_lt_zero j)) (by decide)) (v' := -2052) rfl) dL_law_9 rfl gL_law_L_undo rfl qL_undo ⟨rfl, rfl⟩ ⟨Nat.le_of_ble_eq_true rfl, Nat.le_of_ble_eq_true rfl⟩ rfl (Nat.le_of_ble_eq_true rfl) (Nat.le_of_ble_eq_true rfl) (by show _ ≤ 644433; omega) ?_
  refine h_sipush (v := -2052) C dL_law_12 (by decide) ?_
  refine h_icmp_ne (t := 57) C dL_law_15 (by decide) (fun kc15 => absurd (rfl) kc15) (fun kc15 => ?_)
  refine h_aload_n C dL_law_18 rfl ?_
  refine h_bipush (v := 6) C dL_law_19 (by decide) ?_
  refine h_callXs T (rd_info6 Gd_first (by decide)) dL_law_21 rfl gL_law_L_info rfl qL_info ⟨rfl, rfl⟩ ⟨Nat.le_of_ble_eq_true rfl, Nat.le_of_ble_eq_true rfl⟩ rfl (Nat.le_of_ble_eq_true rfl) (Nat.le_of_ble_eq_true rfl) (by show _ ≤ 644433; omega) ?_
  refine h_iconst (v := 2) C dL_law_24 (by decide) ?_
  refine h_icmp_ne (t := 57) C dL_law_25 (by decide) (fun kc25 => absurd (rfl) kc25) (fun kc25 => ?_)
  refine h_aload_n C dL_law_28 rfl ?_
  refine h_iconst (v := 4) C dL_law_29 (by decide) ?_
  refine h_callXs T (rd_info4 Gd_first (by decide)) dL_law_30 rfl gL_law_L_info rfl qL_info ⟨rfl, rfl⟩ ⟨Nat.le_of_ble_eq_true rfl, Nat.le_of_ble_eq_true rfl⟩ rfl (Nat.le_of_ble_eq_true rfl) (Nat.le_of_ble_eq_true rfl) (by show _ ≤ 644433; omega) ?_
  refine h_bipush (v := 8) C dL_law_33 (by decide) ?_
  refine h_icmp_ne (t := 57) C dL_law_35 (by decide) (fun kc35 => absurd (rfl) kc35) (fun kc35 => ?_)
  refine h_aload_n C dL_law_38 rfl ?_
  refine h_callVg T (rd_apply Gd_first) dL_law_39 rfl gL_law_X8_applying rfl is_X8 ⟨rfl, qX8_applying⟩ ⟨rfl, rfl⟩ ⟨Nat.le_of_ble_eq_true rfl, Nat.le_of_ble_eq_true rfl⟩ rfl (Nat.le_of_ble_eq_true rfl) (Nat.le_of_ble_eq_true rfl) (by show _ ≤ 644433; omega) ?_
  refine h_iconst (v := -1) C dL_law_42 (by decide) ?_
  refine h_icmp_ne (t := 57) C dL_law_43 (by decide) (fun kc43 => absurd (by first | rfl | decide) kc43) (fun kc43 => ?_)
  refine h_aload_n C dL_law_46 rfl ?_
  refine h_callXh T (e_L_refused Gd_first (Gs_first 0) (Nat.le_refl _) (by decide)) dL_law_47 rfl gL_law_L_refused rfl qL_refused ⟨rfl, rfl⟩ ⟨Nat.le_of_ble_eq_true rfl, Nat.le_of_ble_eq_true rfl⟩ rfl (Nat.le_of_ble_eq_true rfl) (Nat.le_of_ble_eq_true rfl) (by show _ ≤ 644433; omega) (fun kp2 qs2 hs2 => ?_)
  refine h_if_eq (t := 57) C dL_law_50 (by decide) (fun kc50 => absurd kc50 (by decide)) (fun kc50 => ?_)
  refine h_iconst (v := 1) C dL_law_53 (by decide) ?_
  refine h_goto (t := 58) C dL_law_54 (by decide) ?_
  refine h_istore_n C dL_law_58 (L' := [_, _, _, _, _, _, _, _, _, _, _]) (by decide) (Nat.lt_of_lt_of_le (by decide : (2 : Nat) < 11) (Nat.le_refl _)) rfl ?_
  refine h_iconst (v := 0) C dL_law_59 (by decide) ?_
  refine h_istore_n C dL_law_60 (L' := [_, _, _, _, _, _, _, _, _, _, _]) (by decide) (Nat.lt_of_lt_of_le (by decide : (3 : Nat) < 11) (Nat.le_refl _)) rfl ?_
  exact lw_loop C1 26 0 rfl (mBeg 2) kp2 qs2 _ _ _ _ _ _ _ _ (Nat.le_of_ble_eq_true rfl) (Gd_first.k (Nat.zero_le _)) (hs2.mono (Nat.zero_le _))
set_option maxRecDepth 100000 in
theorem le_words : Cond.classLink RL 10 RX8 ∈ wsL_law ∧ Cond.instantiable RX8 3 ∈ wsL_law ∧ Cond.initialized RX8 ∈ wsL_law ∧ Cond.methodLink RL 177 yX8_init ∈ wsL_law ∧ Cond.instanceMethod yX8_init ∈ wsL_law := by decide +kernel
set_option maxHeartbeats 4000000 in
set_option maxRecDepth 100000 in
theorem lw_make (C : Lw x b0 L9 xs9) : Yq x b0 0 [none, none, none, none, none, none, none, none, none, none, none] [] (fun _ _ => 0) (fun _ _ => false) 0 0 0 (xEw x) := by
  obtain ⟨w1, w2, w3, w4, w5⟩ := le_words
  have z0 : Zr 0 (fun _ _ => 0) (fun _ _ => false) := fun k _ => ⟨fun _ => rfl, fun _ => rfl⟩
  refine q_new (N := 3) (Cn := RX8) (T := TX8) (ci := 8) C tyX8 dL_law_0 rfl rfl inlX8 tyX8_ok w1 w2 w3 (fun j hj => by rcases (show j = 0 ∨ j = 1 ∨ j = 2 by omega) with rfl | rfl | rfl <;> rfl) (fun i => rfl) (fun i => rfl) ⟨Nat.le_of_ble_eq_true rfl, Nat.le_of_ble_eq_true rfl⟩ ?_
  refine q_dup C dL_law_3 rfl ?_
  refine q_callI C (e_X8_init z0) dL_law_4 rfl gL_law_X8_init rfl w4 w3 w5 rfl qX8_init ⟨rfl, rfl⟩ ⟨Nat.le_of_ble_eq_true rfl, Nat.le_of_ble_eq_true rfl⟩ rfl (Nat.le_of_ble_eq_true rfl) ⟨Nat.le_of_ble_eq_true rfl, Nat.le_of_ble_eq_true rfl⟩ ?_
  refine q_astore_n C dL_law_7 (by decide) (by decide) (L' := [none, some (.ref 0), none, none, none, none, none, none, none, none, none]) rfl ?_
  refine yq_yw (yw_hs (k1 := 300) (Nat.le_of_ble_eq_true rfl) (Nat.le_of_ble_eq_true rfl) Rel_first Rc_first ?_)
  exact lw_entry C
end LD
