/-! THE CONSTRUCTORS -/
def Zr (a : Nat) (σ : xS) (φ : xP) : Prop := ∀ k, a ≤ k → (∀ i, σ k i = 0) ∧ ∀ i, φ k i = false
theorem Zr.up {a b : Nat} {σ : xS} {φ : xP} (h : Zr a σ φ) (hab : a ≤ b) : Zr b σ φ := fun k hk => h k (Nat.le_trans hab hk)
theorem Zr.ups {a k : Nat} {σ : xS} {φ : xP} {f : Nat → Int32} (h : Zr a σ φ) (hk : k < a) : Zr a (ups σ k f) φ := fun j hj => ⟨fun i => by rw [ups_ne (by omega)]; exact (h j hj).1 i, (h j hj).2⟩
theorem Zr.upp {a k i : Nat} {σ : xS} {φ : xP} (h : Zr a σ φ) (hk : k < a) : Zr a σ (upp φ k i) := fun j hj => ⟨(h j hj).1, fun b => (if_neg (fun z => by have := z.1; omega)).trans ((h j hj).2 b)⟩
theorem nI_4 : (4 : Int32) = nI 4 := rfl
theorem nI_6 : (6 : Int32) = nI 6 := rfl
theorem nI_8 : (8 : Int32) = nI 8 := rfl
theorem nI_20 : (20 : Int32) = nI 20 := rfl
def X3s (B : Nat) (σ : xS) : xS := (ups σ (B + 1) (upd (σ (B + 1)) 0 2))
def X3p (B : Nat) (φ : xP) : xP := (upp (upp φ (B + 1) 1) (B + 1) 3)
def X2s (B : Nat) (σ : xS) : xS := (ups (ups σ (B + 4) (upd (σ (B + 4)) 3 8)) (B + 4) (upd ((ups σ (B + 4) (upd (σ (B + 4)) 3 8)) (B + 4)) 4 8))
def X6p (B : Nat) (φ : xP) : xP := (upp (upp (upp (upp (upp (upp (upp φ (B + 5) 1) (B + 5) 2) (B + 5) 3) (B + 5) 4) (B + 5) 5) (B + 5) 6) (B + 5) 7)
def X0s (B : Nat) (σ : xS) : xS := (ups (ups σ (B + 13) (upd (σ (B + 13)) 0 2)) (B + 13) (upd ((ups σ (B + 13) (upd (σ (B + 13)) 0 2)) (B + 13)) 1 3))
def X0p (B : Nat) (φ : xP) : xP := (upp (upp φ (B + 13) 2) (B + 13) 3)
def X5p (B : Nat) (φ : xP) : xP := (upp (upp (upp (upp φ (B + 16) 1) (B + 16) 2) (B + 16) 3) (B + 16) 4)
def X1p (B : Nat) (φ : xP) : xP := (upp (upp (upp (upp φ (B + 21) 1) (B + 21) 2) (B + 21) 3) (B + 21) 4)
abbrev mX3_init : xM := (yX3_init, cX3_init, 1, none, wsX3_init, { frames := 1, cells := 2, slots := 8, locals := 30 })
theorem qX3_init : yX3_init.cls ≠ "java/lang/invoke/MethodHandle" ∧ yX3_init.cls ≠ "java/lang/invoke/VarHandle" ∧ (parseMethodDescriptor yX3_init.desc).map (fun d => d.parameters.length) = some 0 := by decide +kernel
abbrev mX2_init : xM := (yX2_init, cX2_init, 1, none, wsX2_init, { frames := 1, cells := 0, slots := 0, locals := 30 })
theorem qX2_init : yX2_init.cls ≠ "java/lang/invoke/MethodHandle" ∧ yX2_init.cls ≠ "java/lang/invoke/VarHandle" ∧ (parseMethodDescriptor yX2_init.desc).map (fun d => d.parameters.length) = some 0 := by decide +kernel
abbrev mX6_init : xM := (yX6_init, cX6_init, 1, none, wsX6_init, { frames := 1, cells := 7, slots := 56, locals := 30 })
theorem qX6_init : yX6_init.cls ≠ "java/lang/invoke/MethodHandle" ∧ yX6_init.cls ≠ "java/lang/invoke/VarHandle" ∧ (parseMethodDescriptor yX6_init.desc).map (fun d => d.parameters.length) = some 0 := by decide +kernel
abbrev mX0_init : xM := (yX0_init, cX0_init, 1, none, wsX0_init, { frames := 1, cells := 2, slots := 8, locals := 30 })
theorem qX0_init : yX0_init.cls ≠ "java/lang/invoke/MethodHandle" ∧ yX0_init.cls ≠ "java/lang/invoke/VarHandle" ∧ (parseMethodDescriptor yX0_init.desc).map (fun d => d.parameters.length) = some 0 := by decide +kernel
abbrev mX5_init : xM := (yX5_init, cX5_init, 1, none, wsX5_init, { frames := 1, cells := 4, slots := 32, locals := 30 })
theorem qX5_init : yX5_init.cls ≠ "java/lang/invoke/MethodHandle" ∧ yX5_init.cls ≠ "java/lang/invoke/VarHandle" ∧ (parseMethodDescriptor yX5_init.desc).map (fun d => d.parameters.length) = some 0 := by decide +kernel
abbrev mX1_init : xM := (yX1_init, cX1_init, 1, none, wsX1_init, { frames := 1, cells := 4, slots := 80, locals := 30 })
theorem qX1_init : yX1_init.cls ≠ "java/lang/invoke/MethodHandle" ∧ yX1_init.cls ≠ "java/lang/invoke/VarHandle" ∧ (parseMethodDescriptor yX1_init.desc).map (fun d => d.parameters.length) = some 0 := by decide +kernel
set_option maxHeartbeats 4000000 in
set_option maxRecDepth 100000 in
theorem e_X3_init {B : Nat} (hB : isW B) {σ : xS} {φ : xP} (hz : Zr (B + 1) σ φ) : Xp mX3_init [.ref (B + 1)] σ φ (B + 2) (X3s B σ) (X3p B φ) (B + 4) 2 8 := by
  have hB9 := isW_le hB
  refine Xp_mk (L := [some (.ref (B + 1))]) (by decide) rfl (Nat.le_of_ble_eq_true rfl) rfl (fun x C => ?_)
  refine p_aload_n C dX3_init_0 rfl ?_
  refine p_objinit C dX3_init_1 (by decide +kernel) (by decide +kernel) (by decide +kernel) rfl (Nat.le_of_ble_eq_true rfl) (Nat.le_of_ble_eq_true rfl) ?_
  refine p_aload_n C dX3_init_4 rfl ?_
  refine p_iconst (v := 2) C dX3_init_5 (by decide) ?_
  refine p_putI (a := B + 1) (i := 0) (ci := 3) (T := TX3) (N := 4) (ty := .int) C tyX3 dX3_init_6 (by omega) (xSH_W hB 1 (by decide)) rfl rfl (by decide) (by decide +kernel) tyX3_ok nmX3 rfl (by decide +kernel) rfl rfl (by decide +kernel) ?_
  refine p_aload_n C dX3_init_9 rfl ?_
  refine p_iconst (v := 4) C dX3_init_10 (by decide) ?_
  refine p_newa (N := 4) C dX3_init_11 (by decide +kernel) (by omega) (xSH_W hB 2 (by decide)) (by decide) nI_4 (fun i => (((hz.up (b := B + 2) (by omega)).ups (k := B + 1) (by omega)) _ (by omega)).1 i) ⟨Nat.le_of_ble_eq_true rfl, Nat.le_of_ble_eq_true rfl⟩ ?_
  refine p_putR (a := B + 1) (i := 1) (r := B + 2) (ci := 3) (T := TX3) (N := 4) (ty := .array .int) C tyX3 dX3_init_13 (by omega) (xSH_W hB 1 (by decide)) rfl rfl (by decide) (by decide +kernel) tyX3_ok nmX3 rfl rfl rfl (by decide +kernel) (fun _ => rfl) (fun _ => rfl) (by decide +kernel) ?_
  refine p_aload_n C dX3_init_16 rfl ?_
  refine p_iconst (v := 4) C dX3_init_17 (by decide) ?_
  refine p_newa (N := 4) C dX3_init_18 (by decide +kernel) (by omega) (xSH_W hB 3 (by decide)) (by decide) nI_4 (fun i => ((((hz.up (b := B + 2) (by omega)).ups (k := B + 1) (by omega)).upp (k := B + 1) (i := 1) (by omega)) _ (by omega)).1 i) ⟨Nat.le_of_ble_eq_true rfl, Nat.le_of_ble_eq_true rfl⟩ ?_
  refine p_putR (a := B + 1) (i := 3) (r := B + 3) (ci := 3) (T := TX3) (N := 4) (ty := .array .int) C tyX3 dX3_init_20 (by omega) (xSH_W hB 1 (by decide)) rfl rfl (by decide) (by decide +kernel) tyX3_ok nmX3 rfl rfl rfl (by decide +kernel) (fun _ => rfl) (fun _ => rfl) (by decide +kernel) ?_
  exact p_vret C rfl dX3_init_23
set_option maxHeartbeats 4000000 in
set_option maxRecDepth 100000 in
theorem e_X2_init {B : Nat} (hB : isW B) {σ : xS} {φ : xP} (hz : Zr (B + 4) σ φ) : Xp mX2_init [.ref (B + 4)] σ φ (B + 5) (X2s B σ) φ (B + 5) 0 0 := by
  have hB9 := isW_le hB
  refine Xp_mk (L := [some (.ref (B + 4))]) (by decide) rfl (Nat.le_of_ble_eq_true rfl) rfl (fun x C => ?_)
  refine p_aload_n C dX2_init_0 rfl ?_
  refine p_objinit C dX2_init_1 (by decide +kernel) (by decide +kernel) (by decide +kernel) rfl (Nat.le_of_ble_eq_true rfl) (Nat.le_of_ble_eq_true rfl) ?_
  refine p_aload_n C dX2_init_4 rfl ?_
  refine p_bipush (v := 8) C dX2_init_5 (by decide) ?_
  refine p_putI (a := B + 4) (i := 3) (ci := 2) (T := TX2) (N := 6) (ty := .int) C tyX2 dX2_init_7 (by omega) (xSH_W hB 4 (by decide)) rfl rfl (by decide) (by decide +kernel) tyX2_ok nmX2 rfl (by decide +kernel) rfl rfl (by decide +kernel) ?_
  refine p_aload_n C dX2_init_10 rfl ?_
  refine p_bipush (v := 8) C dX2_init_11 (by decide) ?_
  refine p_putI (a := B + 4) (i := 4) (ci := 2) (T := TX2) (N := 6) (ty := .int) C tyX2 dX2_init_13 (by omega) (xSH_W hB 4 (by decide)) rfl rfl (by decide) (by decide +kernel) tyX2_ok nmX2 rfl (by decide +kernel) rfl rfl (by decide +kernel) ?_
  exact p_vret C rfl dX2_init_16
set_option maxHeartbeats 4000000 in
set_option maxRecDepth 100000 in
theorem e_X6_init {B : Nat} (hB : isW B) {σ : xS} {φ : xP} (hz : Zr (B + 5) σ φ) : Xp mX6_init [.ref (B + 5)] σ φ (B + 6) σ (X6p B φ) (B + 13) 7 56 := by
  have hB9 := isW_le hB
  refine Xp_mk (L := [some (.ref (B + 5))]) (by decide) rfl (Nat.le_of_ble_eq_true rfl) rfl (fun x C => ?_)
  refine p_aload_n C dX6_init_0 rfl ?_
  refine p_objinit C dX6_init_1 (by decide +kernel) (by decide +kernel) (by decide +kernel) rfl (Nat.le_of_ble_eq_true rfl) (Nat.le_of_ble_eq_true rfl) ?_
  refine p_aload_n C dX6_init_4 rfl ?_
  refine p_bipush (v := 8) C dX6_init_5 (by decide) ?_
  refine p_newa (N := 8) C dX6_init_7 (by decide +kernel) (by omega) (xSH_W hB 6 (by decide)) (by decide) nI_8 (fun i => ((hz.up (b := B + 6) (by omega)) _ (by omega)).1 i) ⟨Nat.le_of_ble_eq_true rfl, Nat.le_of_ble_eq_true rfl⟩ ?_
  refine p_putR (a := B + 5) (i := 1) (r := B + 6) (ci := 6) (T := TX6) (N := 8) (ty := .array .int) C tyX6 dX6_init_9 (by omega) (xSH_W hB 5 (by decide)) rfl rfl (by decide) (by decide +kernel) tyX6_ok nmX6 rfl rfl rfl (by decide +kernel) (fun _ => rfl) (fun _ => rfl) (by decide +kernel) ?_
  refine p_aload_n C dX6_init_12 rfl ?_
  refine p_bipush (v := 8) C dX6_init_13 (by decide) ?_
  refine p_newa (N := 8) C dX6_init_15 (by decide +kernel) (by omega) (xSH_W hB 7 (by decide)) (by decide) nI_8 (fun i => (((hz.up (b := B + 6) (by omega)).upp (k := B + 5) (i := 1) (by omega)) _ (by omega)).1 i) ⟨Nat.le_of_ble_eq_true rfl, Nat.le_of_ble_eq_true rfl⟩ ?_
  refine p_putR (a := B + 5) (i := 2) (r := B + 7) (ci := 6) (T := TX6) (N := 8) (ty := .array .int) C tyX6 dX6_init_17 (by omega) (xSH_W hB 5 (by decide)) rfl rfl (by decide) (by decide +kernel) tyX6_ok nmX6 rfl rfl rfl (by decide +kernel) (fun _ => rfl) (fun _ => rfl) (by decide +kernel) ?_
  refine p_aload_n C dX6_init_20 rfl ?_
  refine p_bipush (v := 8) C dX6_init_21 (by decide) ?_
  refine p_newa (N := 8) C dX6_init_23 (by decide +kernel) (by omega) (xSH_W hB 8 (by decide)) (by decide) nI_8 (fun i => ((((hz.up (b := B + 6) (by omega)).upp (k := B + 5) (i := 1) (by omega)).upp (k := B + 5) (i := 2) (by omega)) _ (by omega)).1 i) ⟨Nat.le_of_ble_eq_true rfl, Nat.le_of_ble_eq_true rfl⟩ ?_
  refine p_putR (a := B + 5) (i := 3) (r := B + 8) (ci := 6) (T := TX6) (N := 8) (ty := .array .int) C tyX6 dX6_init_25 (by omega) (xSH_W hB 5 (by decide)) rfl rfl (by decide) (by decide +kernel) tyX6_ok nmX6 rfl rfl rfl (by decide +kernel) (fun _ => rfl) (fun _ => rfl) (by decide +kernel) ?_
  refine p_aload_n C dX6_init_28 rfl ?_
  refine p_bipush (v := 8) C dX6_init_29 (by decide) ?_
  refine p_newa (N := 8) C dX6_init_31 (by decide +kernel) (by omega) (xSH_W hB 9 (by decide)) (by decide) nI_8 (fun i => (((((hz.up (b := B + 6) (by omega)).upp (k := B + 5) (i := 1) (by omega)).upp (k := B + 5) (i := 2) (by omega)).upp (k := B + 5) (i := 3) (by omega)) _ (by omega)).1 i) ⟨Nat.le_of_ble_eq_true rfl, Nat.le_of_ble_eq_true rfl⟩ ?_
  refine p_putR (a := B + 5) (i := 4) (r := B + 9) (ci := 6) (T := TX6) (N := 8) (ty := .array .int) C tyX6 dX6_init_33 (by omega) (xSH_W hB 5 (by decide)) rfl rfl (by decide) (by decide +kernel) tyX6_ok nmX6 rfl rfl rfl (by decide +kernel) (fun _ => rfl) (fun _ => rfl) (by decide +kernel) ?_
  refine p_aload_n C dX6_init_36 rfl ?_
  refine p_bipush (v := 8) C dX6_init_37 (by decide) ?_
  refine p_newa (N := 8) C dX6_init_39 (by decide +kernel) (by omega) (xSH_W hB 10 (by decide)) (by decide) nI_8 (fun i => ((((((hz.up (b := B + 6) (by omega)).upp (k := B + 5) (i := 1) (by omega)).upp (k := B + 5) (i := 2) (by omega)).upp (k := B + 5) (i := 3) (by omega)).upp (k := B + 5) (i := 4) (by omega)) _ (by omega)).1 i) ⟨Nat.le_of_ble_eq_true rfl, Nat.le_of_ble_eq_true rfl⟩ ?_
  refine p_putR (a := B + 5) (i := 5) (r := B + 10) (ci := 6) (T := TX6) (N := 8) (ty := .array .int) C tyX6 dX6_init_41 (by omega) (xSH_W hB 5 (by decide)) rfl rfl (by decide) (by decide +kernel) tyX6_ok nmX6 rfl rfl rfl (by decide +kernel) (fun _ => rfl) (fun _ => rfl) (by decide +kernel) ?_
  refine p_aload_n C dX6_init_44 rfl ?_
  refine p_bipush (v := 8) C dX6_init_45 (by decide) ?_
  refine p_newa (N := 8) C dX6_init_47 (by decide +kernel) (by omega) (xSH_W hB 11 (by decide)) (by decide) nI_8 (fun i => (((((((hz.up (b := B + 6) (by omega)).upp (k := B + 5) (i := 1) (by omega)).upp (k := B + 5) (i := 2) (by omega)).upp (k := B + 5) (i := 3) (by omega)).upp (k := B + 5) (i := 4) (by omega)).upp (k := B + 5) (i := 5) (by omega)) _ (by omega)).1 i) ⟨Nat.le_of_ble_eq_true rfl, Nat.le_of_ble_eq_true rfl⟩ ?_
  refine p_putR (a := B + 5) (i := 6) (r := B + 11) (ci := 6) (T := TX6) (N := 8) (ty := .array .int) C tyX6 dX6_init_49 (by omega) (xSH_W hB 5 (by decide)) rfl rfl (by decide) (by decide +kernel) tyX6_ok nmX6 rfl rfl rfl (by decide +kernel) (fun _ => rfl) (fun _ => rfl) (by decide +kernel) ?_
  refine p_aload_n C dX6_init_52 rfl ?_
  refine p_bipush (v := 8) C dX6_init_53 (by decide) ?_
  refine p_newa (N := 8) C dX6_init_55 (by decide +kernel) (by omega) (xSH_W hB 12 (by decide)) (by decide) nI_8 (fun i => ((((((((hz.up (b := B + 6) (by omega)).upp (k := B + 5) (i := 1) (by omega)).upp (k := B + 5) (i := 2) (by omega)).upp (k := B + 5) (i := 3) (by omega)).upp (k := B + 5) (i := 4) (by omega)).upp (k := B + 5) (i := 5) (by omega)).upp (k := B + 5) (i := 6) (by omega)) _ (by omega)).1 i) ⟨Nat.le_of_ble_eq_true rfl, Nat.le_of_ble_eq_true rfl⟩ ?_
  refine p_putR (a := B + 5) (i := 7) (r := B + 12) (ci := 6) (T := TX6) (N := 8) (ty := .array .int) C tyX6 dX6_init_57 (by omega) (xSH_W hB 5 (by decide)) rfl rfl (by decide) (by decide +kernel) tyX6_ok nmX6 rfl rfl rfl (by decide +kernel) (fun _ => rfl) (fun _ => rfl) (by decide +kernel) ?_
  exact p_vret C rfl dX6_init_60
set_option maxHeartbeats 4000000 in
set_option maxRecDepth 100000 in
theorem e_X0_init {B : Nat} (hB : isW B) {σ : xS} {φ : xP} (hz : Zr (B + 13) σ φ) : Xp mX0_init [.ref (B + 13)] σ φ (B + 14) (X0s B σ) (X0p B φ) (B + 16) 2 8 := by
  have hB9 := isW_le hB
  refine Xp_mk (L := [some (.ref (B + 13))]) (by decide) rfl (Nat.le_of_ble_eq_true rfl) rfl (fun x C => ?_)
  refine p_aload_n C dX0_init_0 rfl ?_
  refine p_objinit C dX0_init_1 (by decide +kernel) (by decide +kernel) (by decide +kernel) rfl (Nat.le_of_ble_eq_true rfl) (Nat.le_of_ble_eq_true rfl) ?_
  refine p_aload_n C dX0_init_4 rfl ?_
  refine p_iconst (v := 2) C dX0_init_5 (by decide) ?_
  refine p_putI (a := B + 13) (i := 0) (ci := 0) (T := TX0) (N := 4) (ty := .int) C tyX0 dX0_init_6 (by omega) (xSH_W hB 13 (by decide)) rfl rfl (by decide) (by decide +kernel) tyX0_ok nmX0 rfl (by decide +kernel) rfl rfl (by decide +kernel) ?_
  refine p_aload_n C dX0_init_9 rfl ?_
  refine p_iconst (v := 3) C dX0_init_10 (by decide) ?_
  refine p_putI (a := B + 13) (i := 1) (ci := 0) (T := TX0) (N := 4) (ty := .int) C tyX0 dX0_init_11 (by omega) (xSH_W hB 13 (by decide)) rfl rfl (by decide) (by decide +kernel) tyX0_ok nmX0 rfl (by decide +kernel) rfl rfl (by decide +kernel) ?_
  refine p_aload_n C dX0_init_14 rfl ?_
  refine p_iconst (v := 4) C dX0_init_15 (by decide) ?_
  refine p_newa (N := 4) C dX0_init_16 (by decide +kernel) (by omega) (xSH_W hB 14 (by decide)) (by decide) nI_4 (fun i => ((((hz.up (b := B + 14) (by omega)).ups (k := B + 13) (by omega)).ups (k := B + 13) (by omega)) _ (by omega)).1 i) ⟨Nat.le_of_ble_eq_true rfl, Nat.le_of_ble_eq_true rfl⟩ ?_
  refine p_putR (a := B + 13) (i := 2) (r := B + 14) (ci := 0) (T := TX0) (N := 4) (ty := .array .int) C tyX0 dX0_init_18 (by omega) (xSH_W hB 13 (by decide)) rfl rfl (by decide) (by decide +kernel) tyX0_ok nmX0 rfl rfl rfl (by decide +kernel) (fun _ => rfl) (fun _ => rfl) (by decide +kernel) ?_
  refine p_aload_n C dX0_init_21 rfl ?_
  refine p_iconst (v := 4) C dX0_init_22 (by decide) ?_
  refine p_newa (N := 4) C dX0_init_23 (by decide +kernel) (by omega) (xSH_W hB 15 (by decide)) (by decide) nI_4 (fun i => (((((hz.up (b := B + 14) (by omega)).ups (k := B + 13) (by omega)).ups (k := B + 13) (by omega)).upp (k := B + 13) (i := 2) (by omega)) _ (by omega)).1 i) ⟨Nat.le_of_ble_eq_true rfl, Nat.le_of_ble_eq_true rfl⟩ ?_
  refine p_putR (a := B + 13) (i := 3) (r := B + 15) (ci := 0) (T := TX0) (N := 4) (ty := .array .int) C tyX0 dX0_init_25 (by omega) (xSH_W hB 13 (by decide)) rfl rfl (by decide) (by decide +kernel) tyX0_ok nmX0 rfl rfl rfl (by decide +kernel) (fun _ => rfl) (fun _ => rfl) (by decide +kernel) ?_
  exact p_vret C rfl dX0_init_28
set_option maxHeartbeats 4000000 in
set_option maxRecDepth 100000 in
theorem e_X5_init {B : Nat} (hB : isW B) {σ : xS} {φ : xP} (hz : Zr (B + 16) σ φ) : Xp mX5_init [.ref (B + 16)] σ φ (B + 17) σ (X5p B φ) (B + 21) 4 32 := by
  have hB9 := isW_le hB
  refine Xp_mk (L := [some (.ref (B + 16))]) (by decide) rfl (Nat.le_of_ble_eq_true rfl) rfl (fun x C => ?_)
  refine p_aload_n C dX5_init_0 rfl ?_
  refine p_objinit C dX5_init_1 (by decide +kernel) (by decide +kernel) (by decide +kernel) rfl (Nat.le_of_ble_eq_true rfl) (Nat.le_of_ble_eq_true rfl) ?_
  refine p_aload_n C dX5_init_4 rfl ?_
  refine p_bipush (v := 8) C dX5_init_5 (by decide) ?_
  refine p_newa (N := 8) C dX5_init_7 (by decide +kernel) (by omega) (xSH_W hB 17 (by decide)) (by decide) nI_8 (fun i => ((hz.up (b := B + 17) (by omega)) _ (by omega)).1 i) ⟨Nat.le_of_ble_eq_true rfl, Nat.le_of_ble_eq_true rfl⟩ ?_
  refine p_putR (a := B + 16) (i := 1) (r := B + 17) (ci := 5) (T := TX5) (N := 5) (ty := .array .int) C tyX5 dX5_init_9 (by omega) (xSH_W hB 16 (by decide)) rfl rfl (by decide) (by decide +kernel) tyX5_ok nmX5 rfl rfl rfl (by decide +kernel) (fun _ => rfl) (fun _ => rfl) (by decide +kernel) ?_
  refine p_aload_n C dX5_init_12 rfl ?_
  refine p_bipush (v := 8) C dX5_init_13 (by decide) ?_
  refine p_newa (N := 8) C dX5_init_15 (by decide +kernel) (by omega) (xSH_W hB 18 (by decide)) (by decide) nI_8 (fun i => (((hz.up (b := B + 17) (by omega)).upp (k := B + 16) (i := 1) (by omega)) _ (by omega)).1 i) ⟨Nat.le_of_ble_eq_true rfl, Nat.le_of_ble_eq_true rfl⟩ ?_
  refine p_putR (a := B + 16) (i := 2) (r := B + 18) (ci := 5) (T := TX5) (N := 5) (ty := .array .int) C tyX5 dX5_init_17 (by omega) (xSH_W hB 16 (by decide)) rfl rfl (by decide) (by decide +kernel) tyX5_ok nmX5 rfl rfl rfl (by decide +kernel) (fun _ => rfl) (fun _ => rfl) (by decide +kernel) ?_
  refine p_aload_n C dX5_init_20 rfl ?_
  refine p_bipush (v := 8) C dX5_init_21 (by decide) ?_
  refine p_newa (N := 8) C dX5_init_23 (by decide +kernel) (by omega) (xSH_W hB 19 (by decide)) (by decide) nI_8 (fun i => ((((hz.up (b := B + 17) (by omega)).upp (k := B + 16) (i := 1) (by omega)).upp (k := B + 16) (i := 2) (by omega)) _ (by omega)).1 i) ⟨Nat.le_of_ble_eq_true rfl, Nat.le_of_ble_eq_true rfl⟩ ?_
  refine p_putR (a := B + 16) (i := 3) (r := B + 19) (ci := 5) (T := TX5) (N := 5) (ty := .array .int) C tyX5 dX5_init_25 (by omega) (xSH_W hB 16 (by decide)) rfl rfl (by decide) (by decide +kernel) tyX5_ok nmX5 rfl rfl rfl (by decide +kernel) (fun _ => rfl) (fun _ => rfl) (by decide +kernel) ?_
  refine p_aload_n C dX5_init_28 rfl ?_
  refine p_bipush (v := 8) C dX5_init_29 (by decide) ?_
  refine p_newa (N := 8) C dX5_init_31 (by decide +kernel) (by omega) (xSH_W hB 20 (by decide)) (by decide) nI_8 (fun i => (((((hz.up (b := B + 17) (by omega)).upp (k := B + 16) (i := 1) (by omega)).upp (k := B + 16) (i := 2) (by omega)).upp (k := B + 16) (i := 3) (by omega)) _ (by omega)).1 i) ⟨Nat.le_of_ble_eq_true rfl, Nat.le_of_ble_eq_true rfl⟩ ?_
  refine p_putR (a := B + 16) (i := 4) (r := B + 20) (ci := 5) (T := TX5) (N := 5) (ty := .array .int) C tyX5 dX5_init_33 (by omega) (xSH_W hB 16 (by decide)) rfl rfl (by decide) (by decide +kernel) tyX5_ok nmX5 rfl rfl rfl (by decide +kernel) (fun _ => rfl) (fun _ => rfl) (by decide +kernel) ?_
  exact p_vret C rfl dX5_init_36
set_option maxHeartbeats 4000000 in
set_option maxRecDepth 100000 in
theorem e_X1_init {B : Nat} (hB : isW B) {σ : xS} {φ : xP} (hz : Zr (B + 21) σ φ) : Xp mX1_init [.ref (B + 21)] σ φ (B + 22) σ (X1p B φ) (B + 26) 4 80 := by
  have hB9 := isW_le hB
  refine Xp_mk (L := [some (.ref (B + 21))]) (by decide) rfl (Nat.le_of_ble_eq_true rfl) rfl (fun x C => ?_)
  refine p_aload_n C dX1_init_0 rfl ?_
  refine p_objinit C dX1_init_1 (by decide +kernel) (by decide +kernel) (by decide +kernel) rfl (Nat.le_of_ble_eq_true rfl) (Nat.le_of_ble_eq_true rfl) ?_
  refine p_aload_n C dX1_init_4 rfl ?_
  refine p_bipush (v := 20) C dX1_init_5 (by decide) ?_
  refine p_newa (N := 20) C dX1_init_7 (by decide +kernel) (by omega) (xSH_W hB 22 (by decide)) (by decide) nI_20 (fun i => ((hz.up (b := B + 22) (by omega)) _ (by omega)).1 i) ⟨Nat.le_of_ble_eq_true rfl, Nat.le_of_ble_eq_true rfl⟩ ?_
  refine p_putR (a := B + 21) (i := 1) (r := B + 22) (ci := 1) (T := TX1) (N := 5) (ty := .array .int) C tyX1 dX1_init_9 (by omega) (xSH_W hB 21 (by decide)) rfl rfl (by decide) (by decide +kernel) tyX1_ok nmX1 rfl rfl rfl (by decide +kernel) (fun _ => rfl) (fun _ => rfl) (by decide +kernel) ?_
  refine p_aload_n C dX1_init_12 rfl ?_
  refine p_bipush (v := 20) C dX1_init_13 (by decide) ?_
  refine p_newa (N := 20) C dX1_init_15 (by decide +kernel) (by omega) (xSH_W hB 23 (by decide)) (by decide) nI_20 (fun i => (((hz.up (b := B + 22) (by omega)).upp (k := B + 21) (i := 1) (by omega)) _ (by omega)).1 i) ⟨Nat.le_of_ble_eq_true rfl, Nat.le_of_ble_eq_true rfl⟩ ?_
  refine p_putR (a := B + 21) (i := 2) (r := B + 23) (ci := 1) (T := TX1) (N := 5) (ty := .array .int) C tyX1 dX1_init_17 (by omega) (xSH_W hB 21 (by decide)) rfl rfl (by decide) (by decide +kernel) tyX1_ok nmX1 rfl rfl rfl (by decide +kernel) (fun _ => rfl) (fun _ => rfl) (by decide +kernel) ?_
  refine p_aload_n C dX1_init_20 rfl ?_
  refine p_bipush (v := 20) C dX1_init_21 (by decide) ?_
  refine p_newa (N := 20) C dX1_init_23 (by decide +kernel) (by omega) (xSH_W hB 24 (by decide)) (by decide) nI_20 (fun i => ((((hz.up (b := B + 22) (by omega)).upp (k := B + 21) (i := 1) (by omega)).upp (k := B + 21) (i := 2) (by omega)) _ (by omega)).1 i) ⟨Nat.le_of_ble_eq_true rfl, Nat.le_of_ble_eq_true rfl⟩ ?_
  refine p_putR (a := B + 21) (i := 3) (r := B + 24) (ci := 1) (T := TX1) (N := 5) (ty := .array .int) C tyX1 dX1_init_25 (by omega) (xSH_W hB 21 (by decide)) rfl rfl (by decide) (by decide +kernel) tyX1_ok nmX1 rfl rfl rfl (by decide +kernel) (fun _ => rfl) (fun _ => rfl) (by decide +kernel) ?_
  refine p_aload_n C dX1_init_28 rfl ?_
  refine p_bipush (v := 20) C dX1_init_29 (by decide) ?_
  refine p_newa (N := 20) C dX1_init_31 (by decide +kernel) (by omega) (xSH_W hB 25 (by decide)) (by decide) nI_20 (fun i => (((((hz.up (b := B + 22) (by omega)).upp (k := B + 21) (i := 1) (by omega)).upp (k := B + 21) (i := 2) (by omega)).upp (k := B + 21) (i := 3) (by omega)) _ (by omega)).1 i) ⟨Nat.le_of_ble_eq_true rfl, Nat.le_of_ble_eq_true rfl⟩ ?_
  refine p_putR (a := B + 21) (i := 4) (r := B + 25) (ci := 1) (T := TX1) (N := 5) (ty := .array .int) C tyX1 dX1_init_33 (by omega) (xSH_W hB 21 (by decide)) rfl rfl (by decide) (by decide +kernel) tyX1_ok nmX1 rfl rfl rfl (by decide +kernel) (fun _ => rfl) (fun _ => rfl) (by decide +kernel) ?_
  exact p_vret C rfl dX1_init_36
theorem Zr.X3 {a B : Nat} {σ : xS} {φ : xP} (h : Zr a σ φ) (hk : B + 1 < a) : Zr a (X3s B σ) (X3p B φ) := (((h.ups (k := B + 1) (by omega)).upp (k := B + 1) (i := 1) (by omega)).upp (k := B + 1) (i := 3) (by omega))
theorem Zr.X2 {a B : Nat} {σ : xS} {φ : xP} (h : Zr a σ φ) (hk : B + 4 < a) : Zr a (X2s B σ) φ := ((h.ups (k := B + 4) (by omega)).ups (k := B + 4) (by omega))
theorem Zr.X6 {a B : Nat} {σ : xS} {φ : xP} (h : Zr a σ φ) (hk : B + 5 < a) : Zr a σ (X6p B φ) := (((((((h.upp (k := B + 5) (i := 1) (by omega)).upp (k := B + 5) (i := 2) (by omega)).upp (k := B + 5) (i := 3) (by omega)).upp (k := B + 5) (i := 4) (by omega)).upp (k := B + 5) (i := 5) (by omega)).upp (k := B + 5) (i := 6) (by omega)).upp (k := B + 5) (i := 7) (by omega))
theorem Zr.X0 {a B : Nat} {σ : xS} {φ : xP} (h : Zr a σ φ) (hk : B + 13 < a) : Zr a (X0s B σ) (X0p B φ) := ((((h.ups (k := B + 13) (by omega)).ups (k := B + 13) (by omega)).upp (k := B + 13) (i := 2) (by omega)).upp (k := B + 13) (i := 3) (by omega))
theorem Zr.X5 {a B : Nat} {σ : xS} {φ : xP} (h : Zr a σ φ) (hk : B + 16 < a) : Zr a σ (X5p B φ) := ((((h.upp (k := B + 16) (i := 1) (by omega)).upp (k := B + 16) (i := 2) (by omega)).upp (k := B + 16) (i := 3) (by omega)).upp (k := B + 16) (i := 4) (by omega))
theorem Zr.X1 {a B : Nat} {σ : xS} {φ : xP} (h : Zr a σ φ) (hk : B + 21 < a) : Zr a σ (X1p B φ) := ((((h.upp (k := B + 21) (i := 1) (by omega)).upp (k := B + 21) (i := 2) (by omega)).upp (k := B + 21) (i := 3) (by omega)).upp (k := B + 21) (i := 4) (by omega))
def wσ (B : Nat) (σ : xS) : xS := (X0s B (X2s B (X3s B σ)))
def wφ (B : Nat) (φ : xP) : xP := (upp (upp (X1p B (upp (X5p B (upp (X0p B (upp (X6p B (upp (upp (X3p B φ) B 1) B 2)) B 3)) B 4)) B 5)) B 6) B 7)
abbrev mX7_init : xM := (yX7_init, cX7_init, 1, none, wsX7_init, { frames := 2, cells := 26, slots := 222, locals := 50 })
theorem qX7_init : yX7_init.cls ≠ "java/lang/invoke/MethodHandle" ∧ yX7_init.cls ≠ "java/lang/invoke/VarHandle" ∧ (parseMethodDescriptor yX7_init.desc).map (fun d => d.parameters.length) = some 0 := by decide +kernel
set_option maxHeartbeats 4000000 in
set_option maxRecDepth 100000 in
theorem e_X7_init {B : Nat} (hB : isW B) {σ : xS} {φ : xP} (hz : Zr B σ φ) : Xp mX7_init [.ref B] σ φ (B + 1) (wσ B σ) (wφ B φ) (B + 27) 26 222 := by
  have hB9 := isW_le hB
  refine Xp_mk (L := [some (.ref B)]) (by decide) rfl (Nat.le_of_ble_eq_true rfl) rfl (fun x C => ?_)
  refine p_aload_n C dX7_init_0 rfl ?_
  refine p_objinit C dX7_init_1 (by decide +kernel) (by decide +kernel) (by decide +kernel) rfl (Nat.le_of_ble_eq_true rfl) (Nat.le_of_ble_eq_true rfl) ?_
  have z0 : Zr (B + 1) σ φ := hz.up (by omega)
  refine p_aload_n C dX7_init_4 rfl ?_
  refine p_new (N := 4) (Cn := RX3) (T := TX3) (ci := 3) C tyX3 dX7_init_5 (xSH_W hB 1 (by decide)) rfl (by decide +kernel) tyX3_ok (by decide +kernel) (by decide +kernel) (by decide +kernel) (fun j hj => by rcases (show j = 0 ∨ j = 1 ∨ j = 2 ∨ j = 3 by omega) with rfl | rfl | rfl | rfl <;> rfl) (fun i => (z0 _ (by omega)).1 i) (fun i => (z0 _ (by omega)).2 i) ⟨Nat.le_of_ble_eq_true rfl, Nat.le_of_ble_eq_true rfl⟩ ?_
  refine p_dup C dX7_init_8 rfl ?_
  refine p_callN C (e_X3_init hB z0) dX7_init_9 rfl gX7_init_X3_init_n11 rfl (by decide +kernel) (by decide +kernel) (by decide +kernel) rfl qX3_init ⟨rfl, rfl⟩ ⟨Nat.le_of_ble_eq_true rfl, Nat.le_of_ble_eq_true rfl⟩ rfl (Nat.le_of_ble_eq_true rfl) ⟨Nat.le_of_ble_eq_true rfl, Nat.le_of_ble_eq_true rfl⟩ ?_
  refine p_putR (a := B) (i := 1) (r := B + 1) (ci := 7) (T := TX7) (N := 8) (ty := .object "SmokeGuard$House") C tyX7 dX7_init_12 (by omega) (xSH_W hB 0 (by decide)) rfl rfl (by decide) (by decide +kernel) tyX7_ok nmX7 rfl rfl rfl (by decide +kernel) (fun _ => rfl) (fun _ => rfl) (by decide +kernel) ?_
  have z1 : Zr (B + 4) (X3s B σ) (upp (X3p B φ) B 1) := ((z0.up (b := B + 4) (by omega)).X3 (by omega)).upp (by omega)
  refine p_aload_n C dX7_init_15 rfl ?_
  refine p_new (N := 6) (Cn := RX2) (T := TX2) (ci := 2) C tyX2 dX7_init_16 (xSH_W hB 4 (by decide)) rfl (by decide +kernel) tyX2_ok (by decide +kernel) (by decide +kernel) (by decide +kernel) (fun j hj => by rcases (show j = 0 ∨ j = 1 ∨ j = 2 ∨ j = 3 ∨ j = 4 ∨ j = 5 by omega) with rfl | rfl | rfl | rfl | rfl | rfl <;> rfl) (fun i => (z1 _ (by omega)).1 i) (fun i => (z1 _ (by omega)).2 i) ⟨Nat.le_of_ble_eq_true rfl, Nat.le_of_ble_eq_true rfl⟩ ?_
  refine p_dup C dX7_init_19 rfl ?_
  refine p_callN C (e_X2_init hB z1) dX7_init_20 rfl gX7_init_X2_init_n20 rfl (by decide +kernel) (by decide +kernel) (by decide +kernel) rfl qX2_init ⟨rfl, rfl⟩ ⟨Nat.le_of_ble_eq_true rfl, Nat.le_of_ble_eq_true rfl⟩ rfl (Nat.le_of_ble_eq_true rfl) ⟨Nat.le_of_ble_eq_true rfl, Nat.le_of_ble_eq_true rfl⟩ ?_
  refine p_putR (a := B) (i := 2) (r := B + 4) (ci := 7) (T := TX7) (N := 8) (ty := .object "SmokeGuard$Hearth") C tyX7 dX7_init_23 (by omega) (xSH_W hB 0 (by decide)) rfl rfl (by decide) (by decide +kernel) tyX7_ok nmX7 rfl rfl rfl (by decide +kernel) (fun _ => rfl) (fun _ => rfl) (by decide +kernel) ?_
  have z2 : Zr (B + 5) (X2s B (X3s B σ)) (upp (upp (X3p B φ) B 1) B 2) := ((z1.up (b := B + 5) (by omega)).X2 (by omega)).upp (by omega)
  refine p_aload_n C dX7_init_26 rfl ?_
  refine p_new (N := 8) (Cn := RX6) (T := TX6) (ci := 6) C tyX6 dX7_init_27 (xSH_W hB 5 (by decide)) rfl (by decide +kernel) tyX6_ok (by decide +kernel) (by decide +kernel) (by decide +kernel) (fun j hj => by rcases (show j = 0 ∨ j = 1 ∨ j = 2 ∨ j = 3 ∨ j = 4 ∨ j = 5 ∨ j = 6 ∨ j = 7 by omega) with rfl | rfl | rfl | rfl | rfl | rfl | rfl | rfl <;> rfl) (fun i => (z2 _ (by omega)).1 i) (fun i => (z2 _ (by omega)).2 i) ⟨Nat.le_of_ble_eq_true rfl, Nat.le_of_ble_eq_true rfl⟩ ?_
  refine p_dup C dX7_init_30 rfl ?_
  refine p_callN C (e_X6_init hB z2) dX7_init_31 rfl gX7_init_X6_init_n27 rfl (by decide +kernel) (by decide +kernel) (by decide +kernel) rfl qX6_init ⟨rfl, rfl⟩ ⟨Nat.le_of_ble_eq_true rfl, Nat.le_of_ble_eq_true rfl⟩ rfl (Nat.le_of_ble_eq_true rfl) ⟨Nat.le_of_ble_eq_true rfl, Nat.le_of_ble_eq_true rfl⟩ ?_
  refine p_putR (a := B) (i := 3) (r := B + 5) (ci := 7) (T := TX7) (N := 8) (ty := .object "SmokeGuard$Sensors") C tyX7 dX7_init_34 (by omega) (xSH_W hB 0 (by decide)) rfl rfl (by decide) (by decide +kernel) tyX7_ok nmX7 rfl rfl rfl (by decide +kernel) (fun _ => rfl) (fun _ => rfl) (by decide +kernel) ?_
  have z3 : Zr (B + 13) (X2s B (X3s B σ)) (upp (X6p B (upp (upp (X3p B φ) B 1) B 2)) B 3) := ((z2.up (b := B + 13) (by omega)).X6 (by omega)).upp (by omega)
  refine p_aload_n C dX7_init_37 rfl ?_
  refine p_new (N := 4) (Cn := RX0) (T := TX0) (ci := 0) C tyX0 dX7_init_38 (xSH_W hB 13 (by decide)) rfl (by decide +kernel) tyX0_ok (by decide +kernel) (by decide +kernel) (by decide +kernel) (fun j hj => by rcases (show j = 0 ∨ j = 1 ∨ j = 2 ∨ j = 3 by omega) with rfl | rfl | rfl | rfl <;> rfl) (fun i => (z3 _ (by omega)).1 i) (fun i => (z3 _ (by omega)).2 i) ⟨Nat.le_of_ble_eq_true rfl, Nat.le_of_ble_eq_true rfl⟩ ?_
  refine p_dup C dX7_init_41 rfl ?_
  refine p_callN C (e_X0_init hB z3) dX7_init_42 rfl gX7_init_X0_init_n34 rfl (by decide +kernel) (by decide +kernel) (by decide +kernel) rfl qX0_init ⟨rfl, rfl⟩ ⟨Nat.le_of_ble_eq_true rfl, Nat.le_of_ble_eq_true rfl⟩ rfl (Nat.le_of_ble_eq_true rfl) ⟨Nat.le_of_ble_eq_true rfl, Nat.le_of_ble_eq_true rfl⟩ ?_
  refine p_putR (a := B) (i := 4) (r := B + 13) (ci := 7) (T := TX7) (N := 8) (ty := .object "SmokeGuard$Alarms") C tyX7 dX7_init_45 (by omega) (xSH_W hB 0 (by decide)) rfl rfl (by decide) (by decide +kernel) tyX7_ok nmX7 rfl rfl rfl (by decide +kernel) (fun _ => rfl) (fun _ => rfl) (by decide +kernel) ?_
  have z4 : Zr (B + 16) (X0s B (X2s B (X3s B σ))) (upp (X0p B (upp (X6p B (upp (upp (X3p B φ) B 1) B 2)) B 3)) B 4) := ((z3.up (b := B + 16) (by omega)).X0 (by omega)).upp (by omega)
  refine p_aload_n C dX7_init_48 rfl ?_
  refine p_new (N := 5) (Cn := RX5) (T := TX5) (ci := 5) C tyX5 dX7_init_49 (xSH_W hB 16 (by decide)) rfl (by decide +kernel) tyX5_ok (by decide +kernel) (by decide +kernel) (by decide +kernel) (fun j hj => by rcases (show j = 0 ∨ j = 1 ∨ j = 2 ∨ j = 3 ∨ j = 4 by omega) with rfl | rfl | rfl | rfl | rfl <;> rfl) (fun i => (z4 _ (by omega)).1 i) (fun i => (z4 _ (by omega)).2 i) ⟨Nat.le_of_ble_eq_true rfl, Nat.le_of_ble_eq_true rfl⟩ ?_
  refine p_dup C dX7_init_52 rfl ?_
  refine p_callN C (e_X5_init hB z4) dX7_init_53 rfl gX7_init_X5_init_n41 rfl (by decide +kernel) (by decide +kernel) (by decide +kernel) rfl qX5_init ⟨rfl, rfl⟩ ⟨Nat.le_of_ble_eq_true rfl, Nat.le_of_ble_eq_true rfl⟩ rfl (Nat.le_of_ble_eq_true rfl) ⟨Nat.le_of_ble_eq_true rfl, Nat.le_of_ble_eq_true rfl⟩ ?_
  refine p_putR (a := B) (i := 5) (r := B + 16) (ci := 7) (T := TX7) (N := 8) (ty := .object "SmokeGuard$Rules") C tyX7 dX7_init_56 (by omega) (xSH_W hB 0 (by decide)) rfl rfl (by decide) (by decide +kernel) tyX7_ok nmX7 rfl rfl rfl (by decide +kernel) (fun _ => rfl) (fun _ => rfl) (by decide +kernel) ?_
  have z5 : Zr (B + 21) (X0s B (X2s B (X3s B σ))) (upp (X5p B (upp (X0p B (upp (X6p B (upp (upp (X3p B φ) B 1) B 2)) B 3)) B 4)) B 5) := ((z4.up (b := B + 21) (by omega)).X5 (by omega)).upp (by omega)
  refine p_aload_n C dX7_init_59 rfl ?_
  refine p_new (N := 5) (Cn := RX1) (T := TX1) (ci := 1) C tyX1 dX7_init_60 (xSH_W hB 21 (by decide)) rfl (by decide +kernel) tyX1_ok (by decide +kernel) (by decide +kernel) (by decide +kernel) (fun j hj => by rcases (show j = 0 ∨ j = 1 ∨ j = 2 ∨ j = 3 ∨ j = 4 by omega) with rfl | rfl | rfl | rfl | rfl <;> rfl) (fun i => (z5 _ (by omega)).1 i) (fun i => (z5 _ (by omega)).2 i) ⟨Nat.le_of_ble_eq_true rfl, Nat.le_of_ble_eq_true rfl⟩ ?_
  refine p_dup C dX7_init_63 rfl ?_
  refine p_callN C (e_X1_init hB z5) dX7_init_64 rfl gX7_init_X1_init_n48 rfl (by decide +kernel) (by decide +kernel) (by decide +kernel) rfl qX1_init ⟨rfl, rfl⟩ ⟨Nat.le_of_ble_eq_true rfl, Nat.le_of_ble_eq_true rfl⟩ rfl (Nat.le_of_ble_eq_true rfl) ⟨Nat.le_of_ble_eq_true rfl, Nat.le_of_ble_eq_true rfl⟩ ?_
  refine p_putR (a := B) (i := 6) (r := B + 21) (ci := 7) (T := TX7) (N := 8) (ty := .object "SmokeGuard$Events") C tyX7 dX7_init_67 (by omega) (xSH_W hB 0 (by decide)) rfl rfl (by decide) (by decide +kernel) tyX7_ok nmX7 rfl rfl rfl (by decide +kernel) (fun _ => rfl) (fun _ => rfl) (by decide +kernel) ?_
  have z6 : Zr (B + 26) (X0s B (X2s B (X3s B σ))) (upp (X1p B (upp (X5p B (upp (X0p B (upp (X6p B (upp (upp (X3p B φ) B 1) B 2)) B 3)) B 4)) B 5)) B 6) := ((z5.up (b := B + 26) (by omega)).X1 (by omega)).upp (by omega)
  refine p_aload_n C dX7_init_70 rfl ?_
  refine p_bipush (v := 6) C dX7_init_71 (by decide) ?_
  refine p_newa (N := 6) C dX7_init_73 (by decide +kernel) (by omega) (xSH_W hB 26 (by decide)) (by decide) nI_6 (fun i => (z6 _ (by omega)).1 i) ⟨Nat.le_of_ble_eq_true rfl, Nat.le_of_ble_eq_true rfl⟩ ?_
  refine p_putR (a := B) (i := 7) (r := B + 26) (ci := 7) (T := TX7) (N := 8) (ty := .array .int) C tyX7 dX7_init_75 (by omega) (xSH_W hB 0 (by decide)) rfl rfl (by decide) (by decide +kernel) tyX7_ok nmX7 rfl rfl rfl (by decide +kernel) (fun _ => rfl) (fun _ => rfl) (by decide +kernel) ?_
  exact p_vret C rfl dX7_init_78
theorem Zr.W {a B : Nat} {σ : xS} {φ : xP} (h : Zr a σ φ) (hk : B + 26 < a) : Zr a (wσ B σ) (wφ B φ) := (((((((((((((h).X3 (by omega)).upp (k := B) (i := 1) (by omega)).X2 (by omega)).upp (k := B) (i := 2) (by omega)).X6 (by omega)).upp (k := B) (i := 3) (by omega)).X0 (by omega)).upp (k := B) (i := 4) (by omega)).X5 (by omega)).upp (k := B) (i := 5) (by omega)).X1 (by omega)).upp (k := B) (i := 6) (by omega)).upp (k := B) (i := 7) (by omega)
def r4σ (σ : xS) : Nat → xS
  | 0 => σ
  | k + 1 => wσ (57 + 27 * k) (r4σ σ k)
def r4φ (φ : xP) : Nat → xP
  | 0 => upp φ 55 0
  | k + 1 => upp (wφ (57 + 27 * k) (r4φ φ k)) 56 k
theorem isW_r : ∀ k, k < 4 → isW (57 + 27 * k) := by
  intro k hk
  have hz : k = 0 ∨ k = 1 ∨ k = 2 ∨ k = 3 := by omega
  unfold isW
  omega
theorem Zr.r4 {σ : xS} {φ : xP} (h : Zr 55 σ φ) : ∀ k, Zr (57 + 27 * k) (r4σ σ k) (r4φ φ k) := by
  intro k
  induction k with
  | zero => exact (h.up (by omega)).upp (by omega)
  | succ k ih => exact (((ih.up (b := 57 + 27 * (k + 1)) (by omega)).W (by omega)).upp (by omega))
abbrev mX4_init : xM := (yX4_init, cX4_init, 2, none, wsX4_init, { frames := 3, cells := 109, slots := 924, locals := 80 })
theorem qX4_init : yX4_init.cls ≠ "java/lang/invoke/MethodHandle" ∧ yX4_init.cls ≠ "java/lang/invoke/VarHandle" ∧ (parseMethodDescriptor yX4_init.desc).map (fun d => d.parameters.length) = some 0 := by decide +kernel
set_option maxHeartbeats 4000000 in
set_option maxRecDepth 100000 in
theorem e_X4_init {σ : xS} {φ : xP} (hz : Zr 55 σ φ) : Xp mX4_init [.ref 55] σ φ 56 (r4σ σ 4) (r4φ φ 4) 165 109 924 := by
  refine Xp_mk (L := [some (.ref 55), none]) (by decide) rfl (Nat.le_of_ble_eq_true rfl) rfl (fun x C => ?_)
  refine p_aload_n C dX4_init_0 rfl ?_
  refine p_objinit C dX4_init_1 (by decide +kernel) (by decide +kernel) (by decide +kernel) rfl (Nat.le_of_ble_eq_true rfl) (Nat.le_of_ble_eq_true rfl) ?_
  refine p_aload_n C dX4_init_4 rfl ?_
  refine p_iconst (v := 4) C dX4_init_5 (by decide) ?_
  refine p_newq (N := 4) C dX4_init_6 (by decide +kernel) (by decide) rfl (by decide) nI_4 (fun i => (hz 56 (by decide)).2 i) ⟨Nat.le_of_ble_eq_true rfl, Nat.le_of_ble_eq_true rfl⟩ ?_
  refine p_putR (a := 55) (i := 0) (r := 56) (ci := 4) (T := TX4) (N := 3) (ty := .array (.object "SmokeGuard$World")) C tyX4 dX4_init_9 (by decide) rfl rfl rfl (by decide) (by decide +kernel) tyX4_ok nmX4 rfl rfl rfl (by decide +kernel) (fun _ => rfl) (fun _ => rfl) (by decide +kernel) ?_
  refine p_iconst (v := 0) C dX4_init_12 (by decide) ?_
  refine p_istore_n C dX4_init_13 (L' := [_, _]) (Nat.lt_of_lt_of_le (by decide : (1 : Nat) < 2) (Nat.le_refl _)) rfl ?_
  have step : ∀ k, k < 4 → Yp x 14 [some (.ref 55), some (.int (nI (k + 1)))] [] (r4σ σ (k + 1)) (r4φ φ (k + 1)) (57 + 27 * (k + 1)) (1 + 27 * (k + 1)) (4 + 230 * (k + 1)) (xEp x (r4σ σ 4) (r4φ φ 4) 165 109 924) → Yp x 14 [some (.ref 55), some (.int (nI k))] [] (r4σ σ k) (r4φ φ k) (57 + 27 * k) (1 + 27 * k) (4 + 230 * k) (xEp x (r4σ σ 4) (r4φ φ 4) 165 109 924) := by
    intro k hk K
    have hB := isW_r k hk
    have z := hz.r4 k
    have hp : r4φ φ k 55 0 = true := by
      clear K z hB
      induction k with
      | zero =>
        show (if (55 : Nat) = 55 ∧ (0 : Nat) = 0 then true else φ 55 0) = true
        rw [if_pos ⟨rfl, rfl⟩]
      | succ k ih =>
        have h9 := ih (by omega)
        simp only [r4φ, upp, wφ, X3p, X6p, X0p, X5p, X1p]
        rw [h9]
        simp
    refine p_iload_n C dX4_init_14 rfl ?_
    refine p_iconst (v := 4) C dX4_init_15 (by decide) ?_
    refine p_icmp_ge (t := 38) C dX4_init_16 (by decide) (fun c16 => absurd c16 (nI_ge (a := k) (b := 4) hk (by decide))) (fun _ => ?_)
    refine p_aload_n C dX4_init_19 rfl ?_
    refine p_getR (a := 55) (i := 0) (r := 56) (ci := 4) (T := TX4) (N := 3) C dX4_init_20 (by omega) rfl rfl hp rfl (by decide) (by decide +kernel) (by decide +kernel) ?_
    refine p_iload_n C dX4_init_23 rfl ?_
    refine p_new (N := 8) (Cn := RX7) (T := TX7) (ci := 7) C tyX7 dX4_init_24 (xSH_W hB 0 (by decide)) rfl (by decide +kernel) tyX7_ok (by decide +kernel) (by decide +kernel) (by decide +kernel) (fun j hj => by rcases (show j = 0 ∨ j = 1 ∨ j = 2 ∨ j = 3 ∨ j = 4 ∨ j = 5 ∨ j = 6 ∨ j = 7 by omega) with rfl | rfl | rfl | rfl | rfl | rfl | rfl | rfl <;> rfl) (fun i => (z _ (Nat.le_refl _)).1 i) (fun i => (z _ (Nat.le_refl _)).2 i) ⟨by show _ ≤ 109; omega, by show _ ≤ 924; omega⟩ ?_
    refine p_dup C dX4_init_27 rfl ?_
    refine p_callN C (e_X7_init hB z) dX4_init_28 rfl gX4_init_X7_init_n17 rfl (by decide +kernel) (by decide +kernel) (by decide +kernel) rfl qX7_init ⟨rfl, rfl⟩ ⟨Nat.le_of_ble_eq_true rfl, Nat.le_of_ble_eq_true rfl⟩ rfl (Nat.le_of_ble_eq_true rfl) ⟨by show _ ≤ 109; omega, by show _ ≤ 924; omega⟩ ?_
    refine p_aas (ci := 0) (a := 56) (N := 4) (b := 57 + 27 * k) C k dX4_init_31 (by omega) (by decide) rfl (by decide) rfl hk (by omega) rfl (xSH_W hB 0 (by decide)) ?_
    refine p_iinc C dX4_init_32 (L' := [_, _]) rfl (nI_1 k) rfl ?_
    refine p_goto (t := 14) C dX4_init_35 (by decide) ?_
    have e1 : 1 + 27 * k + 1 + 26 = 1 + 27 * (k + 1) := by omega
    have e2 : 4 + 230 * k + 8 + 222 = 4 + 230 * (k + 1) := by omega
    rw [e1, e2]
    exact K
  refine step 0 (by decide) (step 1 (by decide) (step 2 (by decide) (step 3 (by decide) ?_)))
  refine p_iload_n C dX4_init_14 rfl ?_
  refine p_iconst (v := 4) C dX4_init_15 (by decide) ?_
  refine p_icmp_ge (t := 38) C dX4_init_16 (by decide) (fun _ => ?_) (fun c16 => absurd (Int32.le_refl _) c16)
  exact p_vret C rfl dX4_init_38
abbrev mX8_init : xM := (yX8_init, cX8_init, 1, none, wsX8_init, { frames := 4, cells := 164, slots := 1387, locals := 110 })
theorem qX8_init : yX8_init.cls ≠ "java/lang/invoke/MethodHandle" ∧ yX8_init.cls ≠ "java/lang/invoke/VarHandle" ∧ (parseMethodDescriptor yX8_init.desc).map (fun d => d.parameters.length) = some 0 := by decide +kernel
def x8σ (σ : xS) : xS := r4σ (wσ 28 (wσ 1 σ)) 4
def x8φ (φ : xP) : xP := upp (r4φ (upp (wφ 28 (upp (wφ 1 φ) 0 0)) 0 1) 4) 0 2
set_option maxHeartbeats 4000000 in
set_option maxRecDepth 100000 in
theorem e_X8_init {σ : xS} {φ : xP} (hz : Zr 0 σ φ) : Xp mX8_init [.ref 0] σ φ 1 (x8σ σ) (x8φ φ) 165 164 1387 := by
  refine Xp_mk (L := [some (.ref 0)]) (by decide) rfl (Nat.le_of_ble_eq_true rfl) rfl (fun x C => ?_)
  have hB1 : isW 1 := Or.inl rfl
  have hB2 : isW 28 := Or.inr (Or.inl rfl)
  refine p_aload_n C dX8_init_0 rfl ?_
  refine p_objinit C dX8_init_1 (by decide +kernel) (by decide +kernel) (by decide +kernel) rfl (Nat.le_of_ble_eq_true rfl) (Nat.le_of_ble_eq_true rfl) ?_
  have z1 : Zr 1 σ φ := hz.up (by omega)
  refine p_aload_n C dX8_init_4 rfl ?_
  refine p_new (N := 8) (Cn := RX7) (T := TX7) (ci := 7) C tyX7 dX8_init_5 (xSH_W hB1 0 (by decide)) rfl (by decide +kernel) tyX7_ok (by decide +kernel) (by decide +kernel) (by decide +kernel) (fun j hj => by rcases (show j = 0 ∨ j = 1 ∨ j = 2 ∨ j = 3 ∨ j = 4 ∨ j = 5 ∨ j = 6 ∨ j = 7 by omega) with rfl | rfl | rfl | rfl | rfl | rfl | rfl | rfl <;> rfl) (fun i => (z1 _ (Nat.le_refl _)).1 i) (fun i => (z1 _ (Nat.le_refl _)).2 i) ⟨Nat.le_of_ble_eq_true rfl, Nat.le_of_ble_eq_true rfl⟩ ?_
  refine p_dup C dX8_init_8 rfl ?_
  refine p_callN C (e_X7_init hB1 z1) dX8_init_9 rfl gX8_init_X7_init_n9 rfl (by decide +kernel) (by decide +kernel) (by decide +kernel) rfl qX7_init ⟨rfl, rfl⟩ ⟨Nat.le_of_ble_eq_true rfl, Nat.le_of_ble_eq_true rfl⟩ rfl (Nat.le_of_ble_eq_true rfl) ⟨Nat.le_of_ble_eq_true rfl, Nat.le_of_ble_eq_true rfl⟩ ?_
  refine p_putR (a := 0) (i := 0) (r := 1) (ci := 8) (T := TX8) (N := 3) (ty := .object "SmokeGuard$World") C tyX8 dX8_init_12 (by decide) rfl rfl rfl (by decide) (by decide +kernel) tyX8_ok nmX8 rfl rfl rfl (by decide +kernel) (fun _ => rfl) (fun _ => rfl) (by decide +kernel) ?_
  have z2 : Zr 28 (wσ 1 σ) (upp (wφ 1 φ) 0 0) := ((z1.up (b := 28) (by omega)).W (by omega)).upp (by omega)
  refine p_aload_n C dX8_init_15 rfl ?_
  refine p_new (N := 8) (Cn := RX7) (T := TX7) (ci := 7) C tyX7 dX8_init_16 (xSH_W hB2 0 (by decide)) rfl (by decide +kernel) tyX7_ok (by decide +kernel) (by decide +kernel) (by decide +kernel) (fun j hj => by rcases (show j = 0 ∨ j = 1 ∨ j = 2 ∨ j = 3 ∨ j = 4 ∨ j = 5 ∨ j = 6 ∨ j = 7 by omega) with rfl | rfl | rfl | rfl | rfl | rfl | rfl | rfl <;> rfl) (fun i => (z2 _ (Nat.le_refl _)).1 i) (fun i => (z2 _ (Nat.le_refl _)).2 i) ⟨Nat.le_of_ble_eq_true rfl, Nat.le_of_ble_eq_true rfl⟩ ?_
  refine p_dup C dX8_init_19 rfl ?_
  refine p_callN C (e_X7_init hB2 z2) dX8_init_20 rfl gX8_init_X7_init_n9 rfl (by decide +kernel) (by decide +kernel) (by decide +kernel) rfl qX7_init ⟨rfl, rfl⟩ ⟨Nat.le_of_ble_eq_true rfl, Nat.le_of_ble_eq_true rfl⟩ rfl (Nat.le_of_ble_eq_true rfl) ⟨Nat.le_of_ble_eq_true rfl, Nat.le_of_ble_eq_true rfl⟩ ?_
  refine p_putR (a := 0) (i := 1) (r := 28) (ci := 8) (T := TX8) (N := 3) (ty := .object "SmokeGuard$World") C tyX8 dX8_init_23 (by decide) rfl rfl rfl (by decide) (by decide +kernel) tyX8_ok nmX8 rfl rfl rfl (by decide +kernel) (fun _ => rfl) (fun _ => rfl) (by decide +kernel) ?_
  have z3 : Zr 55 (wσ 28 (wσ 1 σ)) (upp (wφ 28 (upp (wφ 1 φ) 0 0)) 0 1) := ((z2.up (b := 55) (by omega)).W (by omega)).upp (by omega)
  refine p_aload_n C dX8_init_26 rfl ?_
  refine p_new (N := 3) (Cn := RX4) (T := TX4) (ci := 4) C tyX4 dX8_init_27 rfl rfl (by decide +kernel) tyX4_ok (by decide +kernel) (by decide +kernel) (by decide +kernel) (fun j hj => by rcases (show j = 0 ∨ j = 1 ∨ j = 2 by omega) with rfl | rfl | rfl <;> rfl) (fun i => (z3 _ (Nat.le_refl _)).1 i) (fun i => (z3 _ (Nat.le_refl _)).2 i) ⟨Nat.le_of_ble_eq_true rfl, Nat.le_of_ble_eq_true rfl⟩ ?_
  refine p_dup C dX8_init_30 rfl ?_
  refine p_callI C (e_X4_init z3) dX8_init_31 rfl gX8_init_X4_init rfl (by decide +kernel) (by decide +kernel) (by decide +kernel) rfl qX4_init ⟨rfl, rfl⟩ ⟨Nat.le_of_ble_eq_true rfl, Nat.le_of_ble_eq_true rfl⟩ rfl (Nat.le_of_ble_eq_true rfl) ⟨Nat.le_of_ble_eq_true rfl, Nat.le_of_ble_eq_true rfl⟩ ?_
  refine p_putR (a := 0) (i := 2) (r := 55) (ci := 8) (T := TX8) (N := 3) (ty := .object "SmokeGuard$Records") C tyX8 dX8_init_34 (by decide) rfl rfl rfl (by decide) (by decide +kernel) tyX8_ok nmX8 rfl rfl rfl (by decide +kernel) (fun _ => rfl) (fun _ => rfl) (by decide +kernel) ?_
  exact p_vret C rfl dX8_init_37
/-- all references stand -/
def pAll (φ : xP) (k : Nat) : Bool := match xSH k with
  | .inl o => (List.range 8).all (fun i => match o.2[i]? with
    | some (some (some _)) => φ k i
    | _ => true)
  | .inr o => if o.1 = 2 then (List.range 4).all (fun i => φ k i) else true
def φF : xP := x8φ (fun _ _ => false)
def σF : xS := x8σ (fun _ _ => 0)
set_option maxRecDepth 100000 in
theorem φF_all : ∀ k, k < 165 → pAll φF k = true := by decide +kernel
theorem pAll_cell {φ : xP} {k : Nat} (h : pAll φ k = true) (hN : ∀ kd N, xSH k = .inr (kd, N) → kd = 2 → N = 4) (hl : ∀ ci fs, xSH k = .inl (ci, fs) → fs.length ≤ 8) {D : va_G} {cl : List vw_C} {σ : xS} {bs : Nat} {cA : Nat → ClassId} {H : Heap} (hc : va_at D cl (bs + k, pCell σ φ bs cA k (xSH k)) H) : va_at D cl (bs + k, xCell σ (fun _ _ => 0) bs cA k (xSH k)) H := by
  unfold pAll at h
  cases hs : xSH k with
  | inl o =>
    rw [hs] at h hc
    have e : o.2.mapIdx (fun i f => pFld σ φ bs k i f) = o.2.mapIdx (fun i f => xFld σ (fun _ _ => 0) bs k i f) := by
      apply List.ext_getElem?
      intro j
      rw [List.getElem?_mapIdx, List.getElem?_mapIdx]
      cases hj : o.2[j]? with
      | none => rfl
      | some f =>
        simp only [Option.map_some, Option.some.injEq]
        cases f with
        | none => rfl
        | some f =>
          cases f with
          | none => rfl
          | some r =>
            have h8 : j < 8 := Nat.lt_of_lt_of_le (List.getElem?_eq_some_iff.mp hj).1 (hl o.1 o.2 hs)
            have h9 := List.all_eq_true.mp h j (List.mem_range.mpr h8)
            rw [hj] at h9
            have h10 : φ k j = true := h9
            simp [pFld, xFld, h10]
    show va_at D cl (bs + k, .inr (o.1, o.2.mapIdx (fun i f => xFld σ (fun _ _ => 0) bs k i f))) H
    rw [← e]
    exact hc
  | inr o =>
    obtain ⟨kd, N⟩ := o
    rw [hs] at h hc
    match kd, hs, h, hc with
    | 0, hs, h, hc => exact hc
    | 1, hs, h, hc => exact hc
    | 2, hs, h, hc =>
      have hN4 := hN 2 N hs rfl
      subst hN4
      show H[bs + k]? = some (vp_cell (cA k) (4, .inr (.inr (.inr (.inr (fun i => some (bs + (57 + 27 * i))))))))
      have h2 : H[bs + k]? = some (vp_cell (cA k) (4, .inr (.inr (.inr (.inr (fun i => if φ k i = true then some (bs + (57 + 27 * i)) else none)))))) := hc
      rw [h2, vp_cell_q, vp_cell_q]
      refine congrArg some (arrV_ext (fun i hi => ?_))
      have h9 := List.all_eq_true.mp ((if_pos rfl).symm.trans h) i (List.mem_range.mpr hi)
      have h10 : φ k i = true := h9
      rw [if_pos h10]
    | kd + 3, hs, h, hc =>
      exfalso
      have h171 : ∀ q, q < 165 → ∀ a b, xSH q = .inr (a, b) → a < 3 := by
        intro q hq
        have h0 : ∀ q, q < 165 → (match xSH q with | .inr o => decide (o.1 < 3) | .inl _ => true) = true := by decide +kernel
        intro a b e
        have := h0 q hq
        rw [e] at this
        exact of_decide_eq_true this
      rcases Nat.lt_or_ge k 165 with q | q
      · have := h171 k q _ _ hs
        omega
      · have hz : xSH k = .inr (0, 0) := by
          unfold xSH
          rw [List.getD_eq_getElem?_getD, List.getElem?_eq_none (by have : xSHL.length = 165 := by decide +kernel
                                                                    omega)]
          rfl
        rw [hz] at hs
        cases hs
theorem xSH_2 : ∀ q, q < 165 → (match xSH q with | .inr o => decide (o.1 = 2 → o.2 = 4) | .inl o => decide (o.2.length ≤ 8)) = true := by decide +kernel
theorem pws_xws {D : va_G} {σ : xS} {bs : Nat} {cA : Nat → ClassId} {H : Heap} (h : va_P D vwCl (pws σ φF bs cA 165) H) : va_P D vwCl (xws σ (fun _ _ => 0) bs cA) H := by
  intro k q hq
  obtain ⟨hk, -⟩ := xws_at hq
  rw [xws_get hk] at hq
  cases hq
  have h2 := xSH_2 k hk
  refine pAll_cell (φF_all k hk) (fun kd N e z => ?_) (fun ci fs e => ?_) (h k _ (pws_get hk))
  · rw [e] at h2
    exact of_decide_eq_true h2 z
  · rw [e] at h2
    exact of_decide_eq_true h2
set_option maxRecDepth 100000 in
theorem σF_lo : ∀ j, j < 32 → j ≠ 19 → σF (1 + (pl j).1) (pl j).2 = mBeg 2 j := by decide +kernel
theorem σF_door : σF 2 2 = 0 := by decide +kernel
theorem σF_rec : σF 55 1 = 0 ∧ σF 55 2 = 0 := by decide +kernel
theorem Rel_first : Rel σF 1 (mBeg 2) := by
  refine ⟨fun j hj => ?_, fun a b ha hb hab => ?_⟩
  · rcases hj with hj | hj | hj | hj
    · exact σF_lo j hj.1 hj.2
    · exact absurd hj.2.2 (nI_pos (by omega))
    · exact absurd hj.2.2 (nI_pos (by omega))
    · exact absurd hj.2.2 (nI_pos (by omega))
  · have e1 : σF (1 + 1) 2 = 0 := σF_door
    have e2 : mBeg 2 (32 + 5 * a + b) = 0 := mBeg_at 2 (by omega)
    rw [e1, e2, Int32.zero_and]
    exact ⟨fun h => absurd rfl h, fun h => absurd h (by decide)⟩
theorem Rc_first : Rc σF 0 (fun _ => mBeg 2) := ⟨0, by decide, σF_rec.1, σF_rec.2, fun j hj => absurd hj (Nat.not_lt_zero j)⟩
