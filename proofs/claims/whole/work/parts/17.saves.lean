set_option maxHeartbeats 4000000 in
set_option maxRecDepth 100000 in
theorem l_X9_keeps {x : xC} (C : Cx x mX9_keeps) (σ : xS) (τ : xT) {Z : State → Prop} (kx : ∀ σ1 : xS, (∀ i, i < 225 → σ1 168 i = σ 166 i) → Fr (fun a => a = 168) σ σ1 → Y x 27 [some (.ref 165), some (.int (nI 225))] [] σ1 τ 0 0 Z) : ∀ n k : Nat, k + n = 225 → ∀ σ1 : xS, (∀ i, i < k → σ1 168 i = σ 166 i) → Fr (fun a => a = 168) σ σ1 → Y x 2 [some (.ref 165), some (.int (nI k))] [] σ1 τ 0 0 Z := by
  intro n
  induction n with
  | zero =>
    intro k hk
    intro σ1 h1 hF1
    refine y_iload_n C dX9_keeps_2 rfl ?_
    refine y_sipush (v := 225) C dX9_keeps_3 (by decide) ?_
    refine y_icmp_ge (t := 27) C dX9_keeps_6 (by decide) (fun c6 => ?_) (fun c6 => absurd (by rw [show k = 225 by omega]; exact Int32.le_refl _) c6)
    obtain rfl : k = 225 := by omega
    exact kx σ1 h1 hF1
  | succ n ih =>
    intro k hk
    intro σ1 h1 hF1
    refine y_iload_n C dX9_keeps_2 rfl ?_
    refine y_sipush (v := 225) C dX9_keeps_3 (by decide) ?_
    refine y_icmp_ge (t := 27) C dX9_keeps_6 (by decide) (fun c6 => absurd c6 (nI_ge (a := k) (b := 225) (by omega) (by decide))) (fun c6 => ?_)
    refine y_aload_n C dX9_keeps_9 rfl ?_
    refine g_X9_kept C dX9_keeps_10 (by decide +kernel) (by decide +kernel) ?_
    refine y_iload_n C dX9_keeps_13 rfl ?_
    refine y_aload_n C dX9_keeps_14 rfl ?_
    refine g_X9_now C dX9_keeps_15 (by decide +kernel) (by decide +kernel) ?_
    refine y_iload_n C dX9_keeps_18 rfl ?_
    refine y_ia (a := 166) (N := 225) C k dX9_keeps_19 (by decide) rfl (by decide) rfl (by omega) ?_
    refine y_topE (σ 166 k) (by rw [hF1 166 (by decide)]) ?_
    refine y_is (a := 168) (N := 225) C k dX9_keeps_20 (by decide) rfl (by decide) rfl (by omega) ?_
    refine y_iinc C dX9_keeps_21 (L' := [_, _]) rfl (nI_1 k) rfl ?_
    refine y_goto (t := 2) C dX9_keeps_24 (by decide) ?_
    refine ih (k + 1) (by omega) _ (fun i hi => ?_) (hF1.trans (Fr.ups rfl))
    rw [ups_eq]
    by_cases e : i = k
    · simp [upd, e]
    · simp only [upd, if_neg e]
      exact h1 i (by omega)
set_option maxHeartbeats 4000000 in
set_option maxRecDepth 100000 in
theorem e_X9_keeps (σ : xS) (τ : xT) : Xv mX9_keeps [.ref 165] σ τ (fun σ1 τ1 => (∀ i, i < 225 → σ1 168 i = σ 166 i) ∧ Fr (fun a => a = 168) σ σ1 ∧ τ = τ1) := by
  refine Xv_mk (L := [some (.ref 165), none]) (by decide) rfl (Nat.le_of_ble_eq_true rfl) rfl (fun x C => ?_)
  refine y_iconst (v := 0) C dX9_keeps_0 (by decide) ?_
  refine y_istore_n C dX9_keeps_1 (L' := [_, _]) (Nat.lt_of_lt_of_le (by decide : (1 : Nat) < 2) (Nat.le_refl _)) rfl ?_
  refine l_X9_keeps C σ τ (fun σ1 h1 hF1 => ?_) _ 0 (Nat.zero_add _) σ (fun i hi => absurd hi (Nat.not_lt_zero _)) Fr.rf
  exact y_vret C rfl dX9_keeps_27 ⟨h1, hF1, rfl⟩
set_option maxHeartbeats 4000000 in
set_option maxRecDepth 100000 in
theorem l_X9_returns {x : xC} (C : Cx x mX9_returns) (σ : xS) (τ : xT) {Z : State → Prop} (kx : ∀ σ1 : xS, (∀ i, i < 225 → σ1 166 i = σ 168 i) → Fr (fun a => a = 166) σ σ1 → Y x 27 [some (.ref 165), some (.int (nI 225))] [] σ1 τ 0 0 Z) : ∀ n k : Nat, k + n = 225 → ∀ σ1 : xS, (∀ i, i < k → σ1 166 i = σ 168 i) → Fr (fun a => a = 166) σ σ1 → Y x 2 [some (.ref 165), some (.int (nI k))] [] σ1 τ 0 0 Z := by
  intro n
  induction n with
  | zero =>
    intro k hk
    intro σ1 h1 hF1
    refine y_iload_n C dX9_returns_2 rfl ?_
    refine y_sipush (v := 225) C dX9_returns_3 (by decide) ?_
    refine y_icmp_ge (t := 27) C dX9_returns_6 (by decide) (fun c6 => ?_) (fun c6 => absurd (by rw [show k = 225 by omega]; exact Int32.le_refl _) c6)
    obtain rfl : k = 225 := by omega
    exact kx σ1 h1 hF1
  | succ n ih =>
    intro k hk
    intro σ1 h1 hF1
    refine y_iload_n C dX9_returns_2 rfl ?_
    refine y_sipush (v := 225) C dX9_returns_3 (by decide) ?_
    refine y_icmp_ge (t := 27) C dX9_returns_6 (by decide) (fun c6 => absurd c6 (nI_ge (a := k) (b := 225) (by omega) (by decide))) (fun c6 => ?_)
    refine y_aload_n C dX9_returns_9 rfl ?_
    refine g_X9_now C dX9_returns_10 (by decide +kernel) (by decide +kernel) ?_
    refine y_iload_n C dX9_returns_13 rfl ?_
    refine y_aload_n C dX9_returns_14 rfl ?_
    refine g_X9_kept C dX9_returns_15 (by decide +kernel) (by decide +kernel) ?_
    refine y_iload_n C dX9_returns_18 rfl ?_
    refine y_ia (a := 168) (N := 225) C k dX9_returns_19 (by decide) rfl (by decide) rfl (by omega) ?_
    refine y_topE (σ 168 k) (by rw [hF1 168 (by decide)]) ?_
    refine y_is (a := 166) (N := 225) C k dX9_returns_20 (by decide) rfl (by decide) rfl (by omega) ?_
    refine y_iinc C dX9_returns_21 (L' := [_, _]) rfl (nI_1 k) rfl ?_
    refine y_goto (t := 2) C dX9_returns_24 (by decide) ?_
    refine ih (k + 1) (by omega) _ (fun i hi => ?_) (hF1.trans (Fr.ups rfl))
    rw [ups_eq]
    by_cases e : i = k
    · simp [upd, e]
    · simp only [upd, if_neg e]
      exact h1 i (by omega)
set_option maxHeartbeats 4000000 in
set_option maxRecDepth 100000 in
theorem e_X9_returns (σ : xS) (τ : xT) : Xv mX9_returns [.ref 165] σ τ (fun σ1 τ1 => (∀ i, i < 225 → σ1 166 i = σ 168 i) ∧ Fr (fun a => a = 166) σ σ1 ∧ τ = τ1) := by
  refine Xv_mk (L := [some (.ref 165), none]) (by decide) rfl (Nat.le_of_ble_eq_true rfl) rfl (fun x C => ?_)
  refine y_iconst (v := 0) C dX9_returns_0 (by decide) ?_
  refine y_istore_n C dX9_returns_1 (L' := [_, _]) (Nat.lt_of_lt_of_le (by decide : (1 : Nat) < 2) (Nat.le_refl _)) rfl ?_
  refine l_X9_returns C σ τ (fun σ1 h1 hF1 => ?_) _ 0 (Nat.zero_add _) σ (fun i hi => absurd hi (Nat.not_lt_zero _)) Fr.rf
  exact y_vret C rfl dX9_returns_27 ⟨h1, hF1, rfl⟩
set_option maxHeartbeats 4000000 in
set_option maxRecDepth 100000 in
theorem l_X9_begins {x : xC} (C : Cx x mX9_begins) (σ : xS) (τ : xT) (w : Int32) {Z : State → Prop} (kx : ∀ σ1 : xS, (∀ i, i < 225 → σ1 166 i = 0) → Fr (fun a => a = 166) σ σ1 → Y x 22 [some (.ref 165), some (.int w), some (.int (nI 225))] [] σ1 τ 0 0 Z) : ∀ n k : Nat, k + n = 225 → ∀ σ1 : xS, (∀ i, i < k → σ1 166 i = 0) → Fr (fun a => a = 166) σ σ1 → Y x 2 [some (.ref 165), some (.int w), some (.int (nI k))] [] σ1 τ 0 0 Z := by
  intro n
  induction n with
  | zero =>
    intro k hk
    intro σ1 h1 hF1
    refine y_iload_n C dX9_begins_2 rfl ?_
    refine y_sipush (v := 225) C dX9_begins_3 (by decide) ?_
    refine y_icmp_ge (t := 22) C dX9_begins_6 (by decide) (fun c6 => ?_) (fun c6 => absurd (by rw [show k = 225 by omega]; exact Int32.le_refl _) c6)
    obtain rfl : k = 225 := by omega
    exact kx σ1 h1 hF1
  | succ n ih =>
    intro k hk
    intro σ1 h1 hF1
    refine y_iload_n C dX9_begins_2 rfl ?_
    refine y_sipush (v := 225) C dX9_begins_3 (by decide) ?_
    refine y_icmp_ge (t := 22) C dX9_begins_6 (by decide) (fun c6 => absurd c6 (nI_ge (a := k) (b := 225) (by omega) (by decide))) (fun c6 => ?_)
    refine y_aload_n C dX9_begins_9 rfl ?_
    refine g_X9_now C dX9_begins_10 (by decide +kernel) (by decide +kernel) ?_
    refine y_iload_n C dX9_begins_13 rfl ?_
    refine y_iconst (v := 0) C dX9_begins_14 (by decide) ?_
    refine y_is (a := 166) (N := 225) C k dX9_begins_15 (by decide) rfl (by decide) rfl (by omega) ?_
    refine y_iinc C dX9_begins_16 (L' := [_, _, _]) rfl (nI_1 k) rfl ?_
    refine y_goto (t := 2) C dX9_begins_19 (by decide) ?_
    refine ih (k + 1) (by omega) _ (fun i hi => ?_) (hF1.trans (Fr.ups rfl))
    rw [ups_eq]
    by_cases e : i = k
    · simp [upd, e]
    · simp only [upd, if_neg e]
      exact h1 i (by omega)
def mBeg (w : Int32) : Rw := fun j => if j = 6 then w else if j = 1 then 2 else if j = 2 then 3 else if j = 4 then 8 else if j = 9 then 8 else 0
set_option maxHeartbeats 4000000 in
set_option maxRecDepth 100000 in
theorem e_X9_begins (σ : xS) (τ : xT) (w : Int32) : Xv mX9_begins [.ref 165, .int w] σ τ (fun σ1 τ1 => (∀ i, i < 225 → σ1 166 i = mBeg w i) ∧ Fr (fun a => a = 166) σ σ1 ∧ τ = τ1) := by
  refine Xv_mk (L := [some (.ref 165), some (.int w), none]) (by decide) rfl (Nat.le_of_ble_eq_true rfl) rfl (fun x C => ?_)
  refine y_iconst (v := 0) C dX9_begins_0 (by decide) ?_
  refine y_istore_n C dX9_begins_1 (L' := [_, _, _]) (Nat.lt_of_lt_of_le (by decide : (2 : Nat) < 3) (Nat.le_refl _)) rfl ?_
  refine l_X9_begins C σ τ w (fun σ1 h1 hF1 => ?_) _ 0 (Nat.zero_add _) σ (fun i hi => absurd hi (Nat.not_lt_zero _)) Fr.rf
  refine y_aload_n C dX9_begins_22 rfl ?_
  refine g_X9_now C dX9_begins_23 (by decide +kernel) (by decide +kernel) ?_
  refine y_bipush (v := 6) C dX9_begins_26 (by decide) ?_
  refine y_iload_n C dX9_begins_28 rfl ?_
  refine y_is (a := 166) (N := 225) C 6 dX9_begins_29 (by decide) rfl (by decide) rfl (by decide) ?_
  refine y_aload_n C dX9_begins_30 rfl ?_
  refine g_X9_now C dX9_begins_31 (by decide +kernel) (by decide +kernel) ?_
  refine y_iconst (v := 1) C dX9_begins_34 (by decide) ?_
  refine y_iconst (v := 2) C dX9_begins_35 (by decide) ?_
  refine y_is (a := 166) (N := 225) C 1 dX9_begins_36 (by decide) rfl (by decide) rfl (by decide) ?_
  refine y_aload_n C dX9_begins_37 rfl ?_
  refine g_X9_now C dX9_begins_38 (by decide +kernel) (by decide +kernel) ?_
  refine y_iconst (v := 2) C dX9_begins_41 (by decide) ?_
  refine y_iconst (v := 3) C dX9_begins_42 (by decide) ?_
  refine y_is (a := 166) (N := 225) C 2 dX9_begins_43 (by decide) rfl (by decide) rfl (by decide) ?_
  refine y_aload_n C dX9_begins_44 rfl ?_
  refine g_X9_now C dX9_begins_45 (by decide +kernel) (by decide +kernel) ?_
  refine y_iconst (v := 4) C dX9_begins_48 (by decide) ?_
  refine y_bipush (v := 8) C dX9_begins_49 (by decide) ?_
  refine y_is (a := 166) (N := 225) C 4 dX9_begins_51 (by decide) rfl (by decide) rfl (by decide) ?_
  refine y_aload_n C dX9_begins_52 rfl ?_
  refine g_X9_now C dX9_begins_53 (by decide +kernel) (by decide +kernel) ?_
  refine y_bipush (v := 9) C dX9_begins_56 (by decide) ?_
  refine y_bipush (v := 8) C dX9_begins_58 (by decide) ?_
  refine y_is (a := 166) (N := 225) C 9 dX9_begins_60 (by decide) rfl (by decide) rfl (by decide) ?_
  exact y_vret C rfl dX9_begins_61 (⟨fun i hi => by
      have := h1 i hi
      simp only [ups_eq, upd, mBeg]
      by_cases e9 : i = 9
      · subst e9; rfl
      · by_cases e4 : i = 4
        · subst e4; rfl
        · by_cases e2 : i = 2
          · subst e2; rfl
          · by_cases e1 : i = 1
            · subst e1; rfl
            · by_cases e6 : i = 6
              · subst e6; rfl
              · simp [e9, e4, e2, e1, e6, this], fun a ha => by
      have ha : ¬ a = 166 := ha
      rw [ups_ne ha, ups_ne ha, ups_ne ha, ups_ne ha, ups_ne ha]
      exact hF1 a ha, rfl⟩)
set_option maxHeartbeats 4000000 in
set_option maxRecDepth 100000 in
theorem l_X9_saves1 {x : xC} (C : Cx x mX9_saves) (σ : xS) (τ : xT) {Z : State → Prop} (kx : ∀ σ1 : xS, (∀ i, i < 675 → σ1 167 i = σ 167 (i + 225)) → (∀ i, 675 ≤ i → σ1 167 i = σ 167 i) → Fr (fun a => a = 167) σ σ1 → Y x 39 [some (.ref 165), some (.int (nI 675))] [] σ1 τ 0 0 Z) : ∀ n k : Nat, k + n = 675 → ∀ σ1 : xS, (∀ i, i < k → σ1 167 i = σ 167 (i + 225)) → (∀ i, k ≤ i → σ1 167 i = σ 167 i) → Fr (fun a => a = 167) σ σ1 → Y x 10 [some (.ref 165), some (.int (nI k))] [] σ1 τ 0 0 Z := by
  intro n
  induction n with
  | zero =>
    intro k hk
    intro σ1 h1 h2 hF1
    refine y_iload_n C dX9_saves_10 rfl ?_
    refine y_sipush (v := 675) C dX9_saves_11 (by decide) ?_
    refine y_icmp_ge (t := 39) C dX9_saves_14 (by decide) (fun c14 => ?_) (fun c14 => absurd (by rw [show k = 675 by omega]; exact Int32.le_refl _) c14)
    obtain rfl : k = 675 := by omega
    exact kx σ1 h1 h2 hF1
  | succ n ih =>
    intro k hk
    intro σ1 h1 h2 hF1
    refine y_iload_n C dX9_saves_10 rfl ?_
    refine y_sipush (v := 675) C dX9_saves_11 (by decide) ?_
    refine y_icmp_ge (t := 39) C dX9_saves_14 (by decide) (fun c14 => absurd c14 (nI_ge (a := k) (b := 675) (by omega) (by decide))) (fun c14 => ?_)
    refine y_aload_n C dX9_saves_17 rfl ?_
    refine g_X9_past C dX9_saves_18 (by decide +kernel) (by decide +kernel) ?_
    refine y_iload_n C dX9_saves_21 rfl ?_
    refine y_aload_n C dX9_saves_22 rfl ?_
    refine g_X9_past C dX9_saves_23 (by decide +kernel) (by decide +kernel) ?_
    refine y_iload_n C dX9_saves_26 rfl ?_
    refine y_sipush (v := 225) C dX9_saves_27 (by decide) ?_
    refine y_iadd C dX9_saves_30 ?_
    refine y_ia (a := 167) (N := 900) C (k + 225) dX9_saves_31 (by decide) rfl (by decide) (by simp only [← nI_add, ← pk_mul]; rfl) (by omega) ?_
    refine y_topE (σ 167 (k + 225)) (h2 _ (by omega)) ?_
    refine y_is (a := 167) (N := 900) C k dX9_saves_32 (by decide) rfl (by decide) rfl (by omega) ?_
    refine y_iinc C dX9_saves_33 (L' := [_, _]) rfl (nI_1 k) rfl ?_
    refine y_goto (t := 10) C dX9_saves_36 (by decide) ?_
    refine ih (k + 1) (by omega) _ (fun i hi => ?_) (fun i hi => ?_) (hF1.trans (Fr.ups rfl))
    · rw [ups_eq]
      by_cases e : i = k
      · simp [upd, e]
      · simp only [upd, if_neg e]
        exact h1 i (by omega)
    · rw [ups_eq]
      simp only [upd, if_neg (show ¬ i = k by omega)]
      exact h2 i (by omega)
set_option maxHeartbeats 4000000 in
set_option maxRecDepth 100000 in
theorem l_X9_saves2 {x : xC} (C : Cx x mX9_saves) (σ : xS) (τ : xT) (s : Nat) (hs : s < 4) (es : σ 165 3 = nI s) {Z : State → Prop} (kx : ∀ σ1 : xS, (∀ i, i < 225 → σ1 167 (225 * s + i) = σ 166 i) → (∀ j, (j < 225 * s ∨ 225 * s + 225 ≤ j) → σ1 167 j = σ 167 j) → Fr (fun a => a = 167) σ σ1 → Y x 85 [some (.ref 165), some (.int (nI 225))] [] σ1 τ 0 0 Z) : ∀ n k : Nat, k + n = 225 → ∀ σ1 : xS, (∀ i, i < k → σ1 167 (225 * s + i) = σ 166 i) → (∀ j, (j < 225 * s ∨ 225 * s + 225 ≤ j) → σ1 167 j = σ 167 j) → Fr (fun a => a = 167) σ σ1 → Y x 51 [some (.ref 165), some (.int (nI k))] [] σ1 τ 0 0 Z := by
  intro n
  induction n with
  | zero =>
    intro k hk
    intro σ1 h1 h2 hF1
    refine y_iload_n C dX9_saves_51 rfl ?_
    refine y_sipush (v := 225) C dX9_saves_52 (by decide) ?_
    refine y_icmp_ge (t := 85) C dX9_saves_55 (by decide) (fun c55 => ?_) (fun c55 => absurd (by rw [show k = 225 by omega]; exact Int32.le_refl _) c55)
    obtain rfl : k = 225 := by omega
    exact kx σ1 h1 h2 hF1
  | succ n ih =>
    intro k hk
    intro σ1 h1 h2 hF1
    refine y_iload_n C dX9_saves_51 rfl ?_
    refine y_sipush (v := 225) C dX9_saves_52 (by decide) ?_
    refine y_icmp_ge (t := 85) C dX9_saves_55 (by decide) (fun c55 => absurd c55 (nI_ge (a := k) (b := 225) (by omega) (by decide))) (fun c55 => ?_)
    refine y_aload_n C dX9_saves_58 rfl ?_
    refine g_X9_past C dX9_saves_59 (by decide +kernel) (by decide +kernel) ?_
    refine y_sipush (v := 225) C dX9_saves_62 (by decide) ?_
    refine y_aload_n C dX9_saves_65 rfl ?_
    refine g_X9_saved C dX9_saves_66 (by decide +kernel) (by decide +kernel) ?_
    refine y_topE (nI s) (by rw [hF1 165 (by decide)]; exact es) ?_
    refine y_imul C dX9_saves_69 ?_
    refine y_iload_n C dX9_saves_70 rfl ?_
    refine y_iadd C dX9_saves_71 ?_
    refine y_aload_n C dX9_saves_72 rfl ?_
    refine g_X9_now C dX9_saves_73 (by decide +kernel) (by decide +kernel) ?_
    refine y_iload_n C dX9_saves_76 rfl ?_
    refine y_ia (a := 166) (N := 225) C k dX9_saves_77 (by decide) rfl (by decide) rfl (by omega) ?_
    refine y_topE (σ 166 k) (by rw [hF1 166 (by decide)]) ?_
    refine y_is (a := 167) (N := 900) C (225 * s + k) dX9_saves_78 (by decide) rfl (by decide) (by simp only [← nI_add, ← pk_mul]; rfl) (by omega) ?_
    refine y_iinc C dX9_saves_79 (L' := [_, _]) rfl (nI_1 k) rfl ?_
    refine y_goto (t := 51) C dX9_saves_82 (by decide) ?_
    refine ih (k + 1) (by omega) _ (fun i hi => ?_) (fun j hj => ?_) (hF1.trans (Fr.ups rfl))
    · rw [ups_eq]
      by_cases e : i = k
      · simp [upd, e]
      · simp only [upd, if_neg (show ¬ 225 * s + i = 225 * s + k by omega)]
        exact h1 i (by omega)
    · rw [ups_eq]
      simp only [upd, if_neg (show ¬ j = 225 * s + k by omega)]
      exact h2 j hj
/-- the end of saves, from its second loop on -/
theorem l_X9_saves3 {x : xC} (C : Cx x mX9_saves) (σ : xS) (τ : xT) (s : Nat) (hs : s < 4) (es : σ 165 3 = nI s) {Z : State → Prop} (v : Option Value) (kx : ∀ σ1 : xS, (∀ i, i < 225 → σ1 167 (225 * s + i) = σ 166 i) → (∀ j, (j < 225 * s ∨ 225 * s + 225 ≤ j) → σ1 167 j = σ 167 j) → σ1 165 3 = nI (s + 1) → (∀ j, j ≠ 3 → σ1 165 j = σ 165 j) → Fr (fun a => a = 165 ∨ a = 167) σ σ1 → Y x 95 [some (.ref 165), some (.int (nI 225))] [] σ1 τ 0 0 Z) : Y x 49 [some (.ref 165), v] [] σ τ 0 0 Z := by
  refine y_iconst (v := 0) C dX9_saves_49 (by decide) ?_
  refine y_istore_n C dX9_saves_50 (L' := [_, _]) (Nat.lt_of_lt_of_le (by decide : (1 : Nat) < 2) (Nat.le_refl _)) rfl ?_
  refine l_X9_saves2 C σ τ s hs es (fun σ1 h1 h2 hF1 => ?_) _ 0 (Nat.zero_add _) σ (fun i hi => absurd hi (Nat.not_lt_zero _)) (fun _ _ => rfl) Fr.rf
  refine y_aload_n C dX9_saves_85 rfl ?_
  refine y_dup C dX9_saves_86 rfl ?_
  refine g_X9_saved C dX9_saves_87 (by decide +kernel) (by decide +kernel) ?_
  refine y_topE (nI s) (by rw [hF1 165 (by decide)]; exact es) ?_
  refine y_iconst (v := 1) C dX9_saves_90 (by decide) ?_
  refine y_iadd C dX9_saves_91 ?_
  refine y_topE (nI (s + 1)) (nI_1 s) ?_
  refine p_X9_saved C dX9_saves_92 (by decide +kernel) (by decide +kernel) ?_
  refine kx _ (fun i hi => ?_) (fun j hj => ?_) ?_ (fun j hj => ?_) (fun a ha => ?_)
  · rw [ups_ne (by decide)]
    exact h1 i hi
  · rw [ups_ne (by decide)]
    exact h2 j hj
  · rw [ups_eq]
    simp [upd]
  · rw [ups_eq]
    simp only [upd, if_neg hj]
    rw [hF1 165 (by decide)]
  · rw [ups_ne (fun q => ha (Or.inl q))]
    exact hF1 a (fun q => ha (Or.inr q))
set_option maxHeartbeats 4000000 in
set_option maxRecDepth 100000 in
theorem e_X9_saves (σ : xS) (τ : xT) (s : Nat) (hs : s ≤ 4) (es : σ 165 3 = nI s) : Xv mX9_saves [.ref 165] σ τ (fun σ1 τ1 => (∀ i k, i < 4 → k < 225 → σ1 167 (225 * i + k) = if i = (if s = 4 then 3 else s) then σ 166 k else if s = 4 then σ 167 (225 * (i + 1) + k) else σ 167 (225 * i + k)) ∧ σ1 165 3 = nI (if s = 4 then 4 else s + 1) ∧ (∀ j, j ≠ 3 → σ1 165 j = σ 165 j) ∧ Fr (fun a => a = 165 ∨ a = 167) σ σ1 ∧ τ = τ1) := by
  refine Xv_mk (L := [some (.ref 165), none]) (by decide) rfl (Nat.le_of_ble_eq_true rfl) rfl (fun x C => ?_)
  refine y_aload_n C dX9_saves_0 rfl ?_
  refine g_X9_saved C dX9_saves_1 (by decide +kernel) (by decide +kernel) ?_
  refine y_topE (nI s) es ?_
  refine y_iconst (v := 4) C dX9_saves_4 (by decide) ?_
  refine y_icmp_ne (t := 49) C dX9_saves_5 (by decide) (fun c5 => ?_) (fun c5 => ?_)
  · -- t
    have h4 : s < 4 := Nat.lt_of_le_of_ne hs (fun q => c5 (by rw [q]; rfl))
    refine l_X9_saves3 C σ τ s h4 es _ (fun σ1 h1 h2 h3 h5 hF => ?_)
    refine y_vret C rfl dX9_saves_95 ⟨fun i k hi hk => ?_, ?_, h5, hF, rfl⟩
    · rw [if_neg (show ¬ s = 4 by omega), if_neg (show ¬ s = 4 by omega)]
      by_cases e : i = s
      · rw [if_pos e, e]
        exact h1 k hk
      · rw [if_neg e]
        exact h2 _ (by omega)
    · rw [if_neg (show ¬ s = 4 by omega)]
      exact h3
    
  · -- f
    have h4 : s = 4 := (nI_eq (a := s) (b := 4) (by omega) (by decide)).mp c5
    subst h4
    refine y_iconst (v := 0) C dX9_saves_8 (by decide) ?_
    refine y_istore_n C dX9_saves_9 (L' := [_, _]) (Nat.lt_of_lt_of_le (by decide : (1 : Nat) < 2) (Nat.le_refl _)) rfl ?_
    refine l_X9_saves1 C σ τ (fun σ1 h1 h2 hF1 => ?_) _ 0 (Nat.zero_add _) σ (fun i hi => absurd hi (Nat.not_lt_zero _)) (fun _ _ => rfl) Fr.rf
    refine y_aload_n C dX9_saves_39 rfl ?_
    refine y_dup C dX9_saves_40 rfl ?_
    refine g_X9_saved C dX9_saves_41 (by decide +kernel) (by decide +kernel) ?_
    refine y_topE (nI 4) (by rw [hF1 165 (by decide)]; exact es) ?_
    refine y_iconst (v := 1) C dX9_saves_44 (by decide) ?_
    refine y_isub C dX9_saves_45 ?_
    refine y_topE (nI 3) rfl ?_
    refine p_X9_saved C dX9_saves_46 (by decide +kernel) (by decide +kernel) ?_
    refine l_X9_saves3 C _ τ 3 (by decide) (by rw [ups_eq]; simp [upd]) _ (fun σ2 h3 h4 h5 h6 hF2 => ?_)
    refine y_vret C rfl dX9_saves_95 ⟨fun i k hi hk => ?_, h5, fun j hj => ?_, fun a ha => ?_, rfl⟩
    · rw [if_pos rfl, if_pos rfl]
      by_cases e : i = 3
      · rw [if_pos e, e, h3 k hk, ups_ne (by decide), hF1 166 (by decide)]
      · rw [if_neg e, h4 _ (by omega), ups_ne (by decide), h1 _ (by omega)]
        congr 1
        omega
    · rw [h6 j hj, ups_eq]
      simp only [upd, if_neg hj]
      rw [hF1 165 (by decide)]
    · rw [hF2 a ha, ups_ne (fun q => ha (Or.inl q))]
      exact hF1 a (fun q => ha (Or.inr q))
