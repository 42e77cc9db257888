abbrev mL_begin : xM := (yL_begin, cL_begin, 4, (some .int), wsL_begin, { frames := 7, cells := 1, slots := 6, locals := 147 })
theorem qL_begin : yL_begin.cls ≠ "java/lang/invoke/MethodHandle" ∧ yL_begin.cls ≠ "java/lang/invoke/VarHandle" ∧ (parseMethodDescriptor yL_begin.desc).map (fun d => d.parameters.length) = some 2 := by decide +kernel
abbrev mL_setDoor : xM := (yL_setDoor, cL_setDoor, 6, (some .int), wsL_setDoor, { frames := 7, cells := 1, slots := 6, locals := 149 })
theorem qL_setDoor : yL_setDoor.cls ≠ "java/lang/invoke/MethodHandle" ∧ yL_setDoor.cls ≠ "java/lang/invoke/VarHandle" ∧ (parseMethodDescriptor yL_setDoor.desc).map (fun d => d.parameters.length) = some 4 := by decide +kernel
abbrev mL_isOpen : xM := (yL_isOpen, cL_isOpen, 5, (some .int), wsL_isOpen, { frames := 7, cells := 1, slots := 6, locals := 104 })
theorem qL_isOpen : yL_isOpen.cls ≠ "java/lang/invoke/MethodHandle" ∧ yL_isOpen.cls ≠ "java/lang/invoke/VarHandle" ∧ (parseMethodDescriptor yL_isOpen.desc).map (fun d => d.parameters.length) = some 3 := by decide +kernel
abbrev mL_addFuel : xM := (yL_addFuel, cL_addFuel, 4, (some .int), wsL_addFuel, { frames := 7, cells := 1, slots := 6, locals := 146 })
theorem qL_addFuel : yL_addFuel.cls ≠ "java/lang/invoke/MethodHandle" ∧ yL_addFuel.cls ≠ "java/lang/invoke/VarHandle" ∧ (parseMethodDescriptor yL_addFuel.desc).map (fun d => d.parameters.length) = some 2 := by decide +kernel
abbrev mL_setTarget : xM := (yL_setTarget, cL_setTarget, 4, (some .int), wsL_setTarget, { frames := 7, cells := 1, slots := 6, locals := 147 })
theorem qL_setTarget : yL_setTarget.cls ≠ "java/lang/invoke/MethodHandle" ∧ yL_setTarget.cls ≠ "java/lang/invoke/VarHandle" ∧ (parseMethodDescriptor yL_setTarget.desc).map (fun d => d.parameters.length) = some 2 := by decide +kernel
abbrev mL_set : xM := (yL_set, cL_set, 5, (some .int), wsL_set, { frames := 7, cells := 1, slots := 6, locals := 148 })
theorem qL_set : yL_set.cls ≠ "java/lang/invoke/MethodHandle" ∧ yL_set.cls ≠ "java/lang/invoke/VarHandle" ∧ (parseMethodDescriptor yL_set.desc).map (fun d => d.parameters.length) = some 3 := by decide +kernel
abbrev mL_setSmoke : xM := (yL_setSmoke, cL_setSmoke, 5, (some .int), wsL_setSmoke, { frames := 7, cells := 1, slots := 6, locals := 148 })
theorem qL_setSmoke : yL_setSmoke.cls ≠ "java/lang/invoke/MethodHandle" ∧ yL_setSmoke.cls ≠ "java/lang/invoke/VarHandle" ∧ (parseMethodDescriptor yL_setSmoke.desc).map (fun d => d.parameters.length) = some 3 := by decide +kernel
abbrev mL_info : xM := (yL_info, cL_info, 4, (some .int), wsL_info, { frames := 7, cells := 1, slots := 6, locals := 103 })
theorem qL_info : yL_info.cls ≠ "java/lang/invoke/MethodHandle" ∧ yL_info.cls ≠ "java/lang/invoke/VarHandle" ∧ (parseMethodDescriptor yL_info.desc).map (fun d => d.parameters.length) = some 2 := by decide +kernel
abbrev mL_room : xM := (yL_room, cL_room, 5, (some .int), wsL_room, { frames := 7, cells := 1, slots := 6, locals := 110 })
theorem qL_room : yL_room.cls ≠ "java/lang/invoke/MethodHandle" ∧ yL_room.cls ≠ "java/lang/invoke/VarHandle" ∧ (parseMethodDescriptor yL_room.desc).map (fun d => d.parameters.length) = some 3 := by decide +kernel
abbrev mL_addSensor : xM := (yL_addSensor, cL_addSensor, 8, (some .int), wsL_addSensor, { frames := 7, cells := 1, slots := 6, locals := 150 })
theorem qL_addSensor : yL_addSensor.cls ≠ "java/lang/invoke/MethodHandle" ∧ yL_addSensor.cls ≠ "java/lang/invoke/VarHandle" ∧ (parseMethodDescriptor yL_addSensor.desc).map (fun d => d.parameters.length) = some 6 := by decide +kernel
abbrev mL_setFault : xM := (yL_setFault, cL_setFault, 5, (some .int), wsL_setFault, { frames := 7, cells := 1, slots := 6, locals := 148 })
theorem qL_setFault : yL_setFault.cls ≠ "java/lang/invoke/MethodHandle" ∧ yL_setFault.cls ≠ "java/lang/invoke/VarHandle" ∧ (parseMethodDescriptor yL_setFault.desc).map (fun d => d.parameters.length) = some 3 := by decide +kernel
abbrev mL_sensor : xM := (yL_sensor, cL_sensor, 5, (some .int), wsL_sensor, { frames := 7, cells := 1, slots := 6, locals := 104 })
theorem qL_sensor : yL_sensor.cls ≠ "java/lang/invoke/MethodHandle" ∧ yL_sensor.cls ≠ "java/lang/invoke/VarHandle" ∧ (parseMethodDescriptor yL_sensor.desc).map (fun d => d.parameters.length) = some 3 := by decide +kernel
abbrev mL_addRule : xM := (yL_addRule, cL_addRule, 7, (some .int), wsL_addRule, { frames := 7, cells := 1, slots := 6, locals := 149 })
theorem qL_addRule : yL_addRule.cls ≠ "java/lang/invoke/MethodHandle" ∧ yL_addRule.cls ≠ "java/lang/invoke/VarHandle" ∧ (parseMethodDescriptor yL_addRule.desc).map (fun d => d.parameters.length) = some 5 := by decide +kernel
abbrev mL_removeRule : xM := (yL_removeRule, cL_removeRule, 4, (some .int), wsL_removeRule, { frames := 7, cells := 1, slots := 6, locals := 146 })
theorem qL_removeRule : yL_removeRule.cls ≠ "java/lang/invoke/MethodHandle" ∧ yL_removeRule.cls ≠ "java/lang/invoke/VarHandle" ∧ (parseMethodDescriptor yL_removeRule.desc).map (fun d => d.parameters.length) = some 2 := by decide +kernel
abbrev mL_addEvent : xM := (yL_addEvent, cL_addEvent, 7, (some .int), wsL_addEvent, { frames := 7, cells := 1, slots := 6, locals := 149 })
theorem qL_addEvent : yL_addEvent.cls ≠ "java/lang/invoke/MethodHandle" ∧ yL_addEvent.cls ≠ "java/lang/invoke/VarHandle" ∧ (parseMethodDescriptor yL_addEvent.desc).map (fun d => d.parameters.length) = some 5 := by decide +kernel
abbrev mL_event : xM := (yL_event, cL_event, 5, (some .int), wsL_event, { frames := 7, cells := 1, slots := 6, locals := 104 })
theorem qL_event : yL_event.cls ≠ "java/lang/invoke/MethodHandle" ∧ yL_event.cls ≠ "java/lang/invoke/VarHandle" ∧ (parseMethodDescriptor yL_event.desc).map (fun d => d.parameters.length) = some 3 := by decide +kernel
abbrev mL_mute : xM := (yL_mute, cL_mute, 5, (some .int), wsL_mute, { frames := 7, cells := 1, slots := 6, locals := 148 })
theorem qL_mute : yL_mute.cls ≠ "java/lang/invoke/MethodHandle" ∧ yL_mute.cls ≠ "java/lang/invoke/VarHandle" ∧ (parseMethodDescriptor yL_mute.desc).map (fun d => d.parameters.length) = some 3 := by decide +kernel
abbrev mL_pass : xM := (yL_pass, cL_pass, 4, (some .int), wsL_pass, { frames := 7, cells := 1, slots := 6, locals := 148 })
theorem qL_pass : yL_pass.cls ≠ "java/lang/invoke/MethodHandle" ∧ yL_pass.cls ≠ "java/lang/invoke/VarHandle" ∧ (parseMethodDescriptor yL_pass.desc).map (fun d => d.parameters.length) = some 2 := by decide +kernel
abbrev mL_told : xM := (yL_told, cL_told, 4, (some .int), wsL_told, { frames := 7, cells := 1, slots := 6, locals := 103 })
theorem qL_told : yL_told.cls ≠ "java/lang/invoke/MethodHandle" ∧ yL_told.cls ≠ "java/lang/invoke/VarHandle" ∧ (parseMethodDescriptor yL_told.desc).map (fun d => d.parameters.length) = some 2 := by decide +kernel
abbrev mL_alarmIn : xM := (yL_alarmIn, cL_alarmIn, 5, (some .int), wsL_alarmIn, { frames := 7, cells := 1, slots := 6, locals := 158 })
theorem qL_alarmIn : yL_alarmIn.cls ≠ "java/lang/invoke/MethodHandle" ∧ yL_alarmIn.cls ≠ "java/lang/invoke/VarHandle" ∧ (parseMethodDescriptor yL_alarmIn.desc).map (fun d => d.parameters.length) = some 3 := by decide +kernel
abbrev mL_smokeAfter : xM := (yL_smokeAfter, cL_smokeAfter, 5, (some .int), wsL_smokeAfter, { frames := 7, cells := 1, slots := 6, locals := 136 })
theorem qL_smokeAfter : yL_smokeAfter.cls ≠ "java/lang/invoke/MethodHandle" ∧ yL_smokeAfter.cls ≠ "java/lang/invoke/VarHandle" ∧ (parseMethodDescriptor yL_smokeAfter.desc).map (fun d => d.parameters.length) = some 3 := by decide +kernel
abbrev mL_peak : xM := (yL_peak, cL_peak, 6, (some .int), wsL_peak, { frames := 7, cells := 1, slots := 6, locals := 161 })
theorem qL_peak : yL_peak.cls ≠ "java/lang/invoke/MethodHandle" ∧ yL_peak.cls ≠ "java/lang/invoke/VarHandle" ∧ (parseMethodDescriptor yL_peak.desc).map (fun d => d.parameters.length) = some 4 := by decide +kernel
abbrev mL_bestOpening : xM := (yL_bestOpening, cL_bestOpening, 4, (some .int), wsL_bestOpening, { frames := 7, cells := 1, slots := 6, locals := 163 })
theorem qL_bestOpening : yL_bestOpening.cls ≠ "java/lang/invoke/MethodHandle" ∧ yL_bestOpening.cls ≠ "java/lang/invoke/VarHandle" ∧ (parseMethodDescriptor yL_bestOpening.desc).map (fun d => d.parameters.length) = some 2 := by decide +kernel
abbrev mL_neededSensors : xM := (yL_neededSensors, cL_neededSensors, 5, (some .int), wsL_neededSensors, { frames := 7, cells := 1, slots := 6, locals := 160 })
theorem qL_neededSensors : yL_neededSensors.cls ≠ "java/lang/invoke/MethodHandle" ∧ yL_neededSensors.cls ≠ "java/lang/invoke/VarHandle" ∧ (parseMethodDescriptor yL_neededSensors.desc).map (fun d => d.parameters.length) = some 3 := by decide +kernel
abbrev mL_burnsFor : xM := (yL_burnsFor, cL_burnsFor, 4, (some .int), wsL_burnsFor, { frames := 7, cells := 1, slots := 6, locals := 135 })
theorem qL_burnsFor : yL_burnsFor.cls ≠ "java/lang/invoke/MethodHandle" ∧ yL_burnsFor.cls ≠ "java/lang/invoke/VarHandle" ∧ (parseMethodDescriptor yL_burnsFor.desc).map (fun d => d.parameters.length) = some 2 := by decide +kernel
abbrev mL_undo : xM := (yL_undo, cL_undo, 3, (some .int), wsL_undo, { frames := 7, cells := 1, slots := 6, locals := 145 })
theorem qL_undo : yL_undo.cls ≠ "java/lang/invoke/MethodHandle" ∧ yL_undo.cls ≠ "java/lang/invoke/VarHandle" ∧ (parseMethodDescriptor yL_undo.desc).map (fun d => d.parameters.length) = some 1 := by decide +kernel
abbrev mL_low : xM := (yL_low, cL_low, 2, (some .int), wsL_low, { frames := 0, cells := 0, slots := 0, locals := 0 })
theorem qL_low : yL_low.cls ≠ "java/lang/invoke/MethodHandle" ∧ yL_low.cls ≠ "java/lang/invoke/VarHandle" ∧ (parseMethodDescriptor yL_low.desc).map (fun d => d.parameters.length) = some 2 := by decide +kernel
abbrev mL_cell : xM := (yL_cell, cL_cell, 2, (some .int), wsL_cell, { frames := 0, cells := 0, slots := 0, locals := 0 })
theorem qL_cell : yL_cell.cls ≠ "java/lang/invoke/MethodHandle" ∧ yL_cell.cls ≠ "java/lang/invoke/VarHandle" ∧ (parseMethodDescriptor yL_cell.desc).map (fun d => d.parameters.length) = some 2 := by decide +kernel
abbrev mL_print : xM := (yL_print, cL_print, 4, (some .long), wsL_print, { frames := 8, cells := 4, slots := 24, locals := 170 })
theorem qL_print : yL_print.cls ≠ "java/lang/invoke/MethodHandle" ∧ yL_print.cls ≠ "java/lang/invoke/VarHandle" ∧ (parseMethodDescriptor yL_print.desc).map (fun d => d.parameters.length) = some 1 := by decide +kernel
abbrev mL_refused : xM := (yL_refused, cL_refused, 6, (some .boolean), wsL_refused, { frames := 9, cells := 120, slots := 720, locals := 193 })
theorem qL_refused : yL_refused.cls ≠ "java/lang/invoke/MethodHandle" ∧ yL_refused.cls ≠ "java/lang/invoke/VarHandle" ∧ (parseMethodDescriptor yL_refused.desc).map (fun d => d.parameters.length) = some 1 := by decide +kernel
abbrev mL_isHouse : xM := (yL_isHouse, cL_isHouse, 10, (some .boolean), wsL_isHouse, { frames := 8, cells := 800, slots := 4800, locals := 134 })
theorem qL_isHouse : yL_isHouse.cls ≠ "java/lang/invoke/MethodHandle" ∧ yL_isHouse.cls ≠ "java/lang/invoke/VarHandle" ∧ (parseMethodDescriptor yL_isHouse.desc).map (fun d => d.parameters.length) = some 1 := by decide +kernel
abbrev mL_isThought : xM := (yL_isThought, cL_isThought, 13, (some .boolean), wsL_isThought, { frames := 9, cells := 140, slots := 840, locals := 193 })
theorem qL_isThought : yL_isThought.cls ≠ "java/lang/invoke/MethodHandle" ∧ yL_isThought.cls ≠ "java/lang/invoke/VarHandle" ∧ (parseMethodDescriptor yL_isThought.desc).map (fun d => d.parameters.length) = some 3 := by decide +kernel
abbrev mL_isPeak : xM := (yL_isPeak, cL_isPeak, 8, (some .boolean), wsL_isPeak, { frames := 8, cells := 60, slots := 360, locals := 186 })
theorem qL_isPeak : yL_isPeak.cls ≠ "java/lang/invoke/MethodHandle" ∧ yL_isPeak.cls ≠ "java/lang/invoke/VarHandle" ∧ (parseMethodDescriptor yL_isPeak.desc).map (fun d => d.parameters.length) = some 2 := by decide +kernel
abbrev mL_isNeeded : xM := (yL_isNeeded, cL_isNeeded, 13, (some .boolean), wsL_isNeeded, { frames := 9, cells := 400, slots := 2400, locals := 193 })
theorem qL_isNeeded : yL_isNeeded.cls ≠ "java/lang/invoke/MethodHandle" ∧ yL_isNeeded.cls ≠ "java/lang/invoke/VarHandle" ∧ (parseMethodDescriptor yL_isNeeded.desc).map (fun d => d.parameters.length) = some 3 := by decide +kernel
def cA (_ : Int32) : Int32 := -2051
def cO (_ : Int32) : Int32 := -2053
def cT (_ : Int32) : Int32 := -2052
def cOA (k : Int32) : Int32 := if k = 1 then -2053 else -2051
def cOAT (k : Int32) : Int32 := if k = 1 then -2053 else if k = 2 then -2051 else -2052
def cAT (k : Int32) : Int32 := if k = 1 then -2051 else -2052
def QP (k a c : Int32) (r1 : Rw) (kp1 : Nat) (qs1 : Nat → Rw) (σ : xS) (v : Int32) (σ1 : xS) (_ : xT) : Prop := (k = 0 ∧ v = a ∧ Rel σ1 1 r1 ∧ Rc σ1 kp1 qs1) ∨ (¬ k = 0 ∧ v = c ∧ σ1 = σ)
theorem if01 {P : Prop} [Decidable P] (h : ¬ (if P then (0 : Int32) else 1) = 0) : (if P then (0 : Int32) else 1) = 1 := by
  by_cases z : P
  · exact absurd (if_pos z) h
  · exact if_neg z
theorem Xw_mono {M : xM} {as : List Value} {σ : xS} {τ : xT} {Q Q' : Int32 → xS → xT → Prop} (h : Xw M as σ τ Q) (hQ : ∀ v σ1 τ1, Q v σ1 τ1 → Q' v σ1 τ1) : Xw M as σ τ Q' := by
  intro l hl bs D cA p e ha hc hk s m args below hf happ hP hK
  obtain ⟨k, o, h1, h2, h3, ⟨⟨⟨v, u, q1, q2, q3⟩, q4⟩, q5⟩⟩ := h l hl bs D cA p e ha hc hk s m args below hf happ hP hK
  exact ⟨k, o, h1, h2, h3, ⟨⟨v, u, q1, hQ _ _ _ q2, q3⟩, q4⟩, q5⟩
set_option maxHeartbeats 4000000 in
set_option maxRecDepth 100000 in
theorem e_L_begin (σ : xS) (τ : xT) {r : Rw} {R ns nr ne t kp : Nat} {qs : Nat → Rw} (hR : Rel σ 1 r) (hC : Rc σ kp qs) (hk : kp ≤ 4) (I : Inv r R ns nr ne t (t + 1)) (u : Int32) : Xw mL_begin [.ref 0, .int u] σ τ (QP (kW u 1 4) (r 6) (cA (kW u 1 4)) (mBeg u) (kK kp) (kQ kp qs r) σ) := by
  refine Xw_mk (hh := [(0, 6, 9, 15)]) (L := [some (.ref 0), some (.int u), none, none]) (by decide) rfl (Nat.le_of_ble_eq_true rfl) rfl (fun x C0 => ?_)
  have C := C0.1
  refine y_aload_n C dL_begin_0 rfl ?_
  refine y_iload_n C dL_begin_1 rfl ?_
  refine y_callZ C0 (e_X8_begin _ _ hR hC hk I u) dL_begin_2 rfl gL_begin_X8_begin rfl is_X8 ⟨rfl, qX8_begin⟩ ⟨rfl, rfl⟩ ⟨Nat.le_of_ble_eq_true rfl, Nat.le_of_ble_eq_true rfl⟩ rfl (Nat.le_of_ble_eq_true rfl) ⟨Nat.le_of_ble_eq_true rfl, Nat.le_of_ble_eq_true rfl⟩ (fun E hE => ?_) (fun v9 σ1 τ1 hq => ?_)
  ·
    obtain ⟨rfl, hk1⟩ := hE
    exact ⟨9, ⟨[], ⟨0, 6, 9, 15⟩, [], rfl, fun z h => absurd h List.not_mem_nil, by decide, by decide, by decide +kernel, by decide, rfl⟩, yh_astore_n C dL_begin_9 (L' := [_, _, _, _]) (Nat.lt_of_lt_of_le (by decide : (3 : Nat) < 4) (Nat.le_refl _)) rfl (y_sipush (v := -2051) C dL_begin_10 (by decide) (w_iret C rfl dL_begin_13 (Or.inr ⟨fun z => absurd (hk1.symm.trans z) (by decide), by rw [hk1]; rfl, rfl⟩)))⟩
  ·
    obtain ⟨hk0, rfl, hR1, hC1, hF1, rfl⟩ := hq
    refine y_istore_n C dL_begin_5 (L' := [_, _, _, _]) (Nat.lt_of_lt_of_le (by decide : (2 : Nat) < 4) (Nat.le_refl _)) rfl ?_
    refine y_goto (t := 14) C dL_begin_6 (by decide) ?_
    refine y_iload_n C dL_begin_14 rfl ?_
    exact w_iret C rfl dL_begin_15 (Or.inl ⟨hk0, rfl, hR1, hC1⟩)
theorem s_begin {r : Rw} {R ns nr ne t kp : Nat} {qs : Nat → Rw} (I : Inv r R ns nr ne t (t + 1)) (hk : kp ≤ 4) (u : Int32) (h : kW u 1 4 = 0) : Xs mL_begin [.ref 0, .int u] r kp qs (r 6) (mBeg u) (kK kp) (kQ kp qs r) := by
  intro σ τ hRl hRc
  refine Xw_mono (e_L_begin σ τ hRl hRc hk I u) (fun v σ1 τ1 q => ?_)
  rcases q with ⟨-, q2, q3, q4⟩ | ⟨q1, -⟩
  · exact ⟨q2, q3, q4⟩
  · exact absurd h q1
theorem n_begin {r : Rw} {R ns nr ne t kp : Nat} {qs : Nat → Rw} (I : Inv r R ns nr ne t (t + 1)) (hk : kp ≤ 4) (u : Int32) (h : ¬ kW u 1 4 = 0) : Xs mL_begin [.ref 0, .int u] r kp qs (cA (kW u 1 4)) r kp qs := by
  intro σ τ hRl hRc
  refine Xw_mono (e_L_begin σ τ hRl hRc hk I u) (fun v σ1 τ1 q => ?_)
  rcases q with ⟨q1, -⟩ | ⟨-, q2, q3⟩
  · exact absurd q1 h
  · exact ⟨q2, q3 ▸ hRl, q3 ▸ hRc⟩
set_option maxHeartbeats 4000000 in
set_option maxRecDepth 100000 in
theorem e_L_setDoor (σ : xS) (τ : xT) {r : Rw} {R ns nr ne t kp : Nat} {qs : Nat → Rw} (hR : Rel σ 1 r) (hC : Rc σ kp qs) (hk : kp ≤ 4) (I : Inv r R ns nr ne t (t + 1)) (u v o : Int32) (ho : o = 0 ∨ o = 1) : Xw mL_setDoor [.ref 0, .int u, .int v, .int o] σ τ (QP (kDoor r u v) (mDoorI r (cN u) (cN v)) (cOA (kDoor r u v)) (mSets r (cN u) (cN v) o) (kK kp) (kQ kp qs r) σ) := by
  refine Xw_mk (hh := [(0, 9, 12, 21), (0, 9, 18, 15)]) (L := [some (.ref 0), some (.int u), some (.int v), some (.int o), none, none]) (by decide) rfl (Nat.le_of_ble_eq_true rfl) rfl (fun x C0 => ?_)
  have C := C0.1
  refine y_aload_n C dL_setDoor_0 rfl ?_
  refine y_iload_n C dL_setDoor_1 rfl ?_
  refine y_iload_n C dL_setDoor_2 rfl ?_
  refine y_iload_n C dL_setDoor_3 rfl ?_
  refine y_callZ C0 (e_X8_setDoor _ _ hR hC hk I u v o ho) dL_setDoor_4 rfl gL_setDoor_X8_setDoor rfl is_X8 ⟨rfl, qX8_setDoor⟩ ⟨rfl, rfl⟩ ⟨Nat.le_of_ble_eq_true rfl, Nat.le_of_ble_eq_true rfl⟩ rfl (Nat.le_of_ble_eq_true rfl) ⟨Nat.le_of_ble_eq_true rfl, Nat.le_of_ble_eq_true rfl⟩ (fun E hE => ?_) (fun v9 σ1 τ1 hq => ?_)
  ·
    rcases hE with ⟨rfl, hk1⟩ | ⟨rfl, hk1⟩
    · exact ⟨12, ⟨[], ⟨0, 9, 12, 21⟩, [⟨0, 9, 18, 15⟩], rfl, fun z h => absurd h List.not_mem_nil, by decide, by decide, by decide +kernel, by decide, rfl⟩, yh_astore C dL_setDoor_12 (L' := [_, _, _, _, _, _]) (Nat.lt_of_lt_of_le (by decide : (5 : Nat) < 6) (Nat.le_refl _)) rfl (y_sipush (v := -2053) C dL_setDoor_14 (by decide) (w_iret C rfl dL_setDoor_17 (Or.inr ⟨fun z => absurd (hk1.symm.trans z) (by decide), by rw [hk1]; rfl, rfl⟩)))⟩
    · exact ⟨18, ⟨[⟨0, 9, 12, 21⟩], ⟨0, 9, 18, 15⟩, [], rfl, fun z h => by obtain rfl := List.mem_singleton.mp h; exact ⟨by decide, eIO, by decide, by decide, by decide +kernel⟩, by decide, by decide, by decide +kernel, by decide, rfl⟩, yh_astore C dL_setDoor_18 (L' := [_, _, _, _, _, _]) (Nat.lt_of_lt_of_le (by decide : (5 : Nat) < 6) (Nat.le_refl _)) rfl (y_sipush (v := -2051) C dL_setDoor_20 (by decide) (w_iret C rfl dL_setDoor_23 (Or.inr ⟨fun z => absurd (hk1.symm.trans z) (by decide), by rw [hk1]; rfl, rfl⟩)))⟩
  ·
    obtain ⟨hk0, rfl, hR1, hC1, hF1, rfl⟩ := hq
    refine y_istore C dL_setDoor_7 (L' := [_, _, _, _, _, _]) (Nat.lt_of_lt_of_le (by decide : (4 : Nat) < 6) (Nat.le_refl _)) rfl ?_
    refine y_goto (t := 24) C dL_setDoor_9 (by decide) ?_
    refine y_iload C dL_setDoor_24 rfl ?_
    refine y_if_eq (t := 33) C dL_setDoor_26 (by decide) (fun c1 => ?_) (fun c1 => ?_)
    · refine y_iconst (v := 0) C dL_setDoor_33 (by decide) ?_
      exact w_iret C rfl dL_setDoor_34 (Or.inl ⟨hk0, c1.symm, hR1, hC1⟩)
    · refine y_iconst (v := 1) C dL_setDoor_29 (by decide) ?_
      refine y_goto (t := 34) C dL_setDoor_30 (by decide) ?_
      exact w_iret C rfl dL_setDoor_34 (Or.inl ⟨hk0, ((mDoorI_01 _ _ _).resolve_left c1).symm, hR1, hC1⟩)
theorem s_setDoor {r : Rw} {R ns nr ne t kp : Nat} {qs : Nat → Rw} (I : Inv r R ns nr ne t (t + 1)) (hk : kp ≤ 4) (u v o : Int32) (ho : o = 0 ∨ o = 1) (h : kDoor r u v = 0) : Xs mL_setDoor [.ref 0, .int u, .int v, .int o] r kp qs (mDoorI r (cN u) (cN v)) (mSets r (cN u) (cN v) o) (kK kp) (kQ kp qs r) := by
  intro σ τ hRl hRc
  refine Xw_mono (e_L_setDoor σ τ hRl hRc hk I u v o ho) (fun v σ1 τ1 q => ?_)
  rcases q with ⟨-, q2, q3, q4⟩ | ⟨q1, -⟩
  · exact ⟨q2, q3, q4⟩
  · exact absurd h q1
theorem n_setDoor {r : Rw} {R ns nr ne t kp : Nat} {qs : Nat → Rw} (I : Inv r R ns nr ne t (t + 1)) (hk : kp ≤ 4) (u v o : Int32) (ho : o = 0 ∨ o = 1) (h : ¬ kDoor r u v = 0) : Xs mL_setDoor [.ref 0, .int u, .int v, .int o] r kp qs (cOA (kDoor r u v)) r kp qs := by
  intro σ τ hRl hRc
  refine Xw_mono (e_L_setDoor σ τ hRl hRc hk I u v o ho) (fun v σ1 τ1 q => ?_)
  rcases q with ⟨q1, -⟩ | ⟨-, q2, q3⟩
  · exact absurd q1 h
  · exact ⟨q2, q3 ▸ hRl, q3 ▸ hRc⟩
set_option maxHeartbeats 4000000 in
set_option maxRecDepth 100000 in
theorem e_L_isOpen (σ : xS) (τ : xT) {r : Rw} {R ns nr ne t kp : Nat} {qs : Nat → Rw} (hR : Rel σ 1 r) (hC : Rc σ kp qs) (hk : kp ≤ 4) (I : Inv r R ns nr ne t (t + 1)) (u v : Int32) : Xw mL_isOpen [.ref 0, .int u, .int v] σ τ (QP (kOpen r u v) ((if u = v ∨ mDoorI r (cN u) (cN v) = 0 then 0 else 1)) (cO (kOpen r u v)) (r) (kp) (qs) σ) := by
  refine Xw_mk (hh := [(0, 7, 10, 21)]) (L := [some (.ref 0), some (.int u), some (.int v), none, none]) (by decide) rfl (Nat.le_of_ble_eq_true rfl) rfl (fun x C0 => ?_)
  have C := C0.1
  refine y_aload_n C dL_isOpen_0 rfl ?_
  refine y_iload_n C dL_isOpen_1 rfl ?_
  refine y_iload_n C dL_isOpen_2 rfl ?_
  refine y_callZ C0 (e_X8_isOpen _ _ hR hC hk I u v) dL_isOpen_3 rfl gL_isOpen_X8_isOpen rfl is_X8 ⟨rfl, qX8_isOpen⟩ ⟨rfl, rfl⟩ ⟨Nat.le_of_ble_eq_true rfl, Nat.le_of_ble_eq_true rfl⟩ rfl (Nat.le_of_ble_eq_true rfl) ⟨Nat.le_of_ble_eq_true rfl, Nat.le_of_ble_eq_true rfl⟩ (fun E hE => ?_) (fun v9 σ1 τ1 hq => ?_)
  ·
    obtain ⟨rfl, hk1⟩ := hE
    exact ⟨10, ⟨[], ⟨0, 7, 10, 21⟩, [], rfl, fun z h => absurd h List.not_mem_nil, by decide, by decide, by decide +kernel, by decide, rfl⟩, yh_astore C dL_isOpen_10 (L' := [_, _, _, _, _]) (Nat.lt_of_lt_of_le (by decide : (4 : Nat) < 5) (Nat.le_refl _)) rfl (y_sipush (v := -2053) C dL_isOpen_12 (by decide) (w_iret C rfl dL_isOpen_15 (Or.inr ⟨fun z => absurd (hk1.symm.trans z) (by decide), by rw [hk1]; rfl, rfl⟩)))⟩
  ·
    obtain ⟨hk0, rfl, hR1, hC1, hF1, rfl⟩ := hq
    refine y_istore_n C dL_isOpen_6 (L' := [_, _, _, _, _]) (Nat.lt_of_lt_of_le (by decide : (3 : Nat) < 5) (Nat.le_refl _)) rfl ?_
    refine y_goto (t := 16) C dL_isOpen_7 (by decide) ?_
    refine y_iload_n C dL_isOpen_16 rfl ?_
    refine y_if_eq (t := 24) C dL_isOpen_17 (by decide) (fun c1 => ?_) (fun c1 => ?_)
    · refine y_iconst (v := 0) C dL_isOpen_24 (by decide) ?_
      exact w_iret C rfl dL_isOpen_25 (Or.inl ⟨hk0, c1.symm, hR1, hC1⟩)
    · refine y_iconst (v := 1) C dL_isOpen_20 (by decide) ?_
      refine y_goto (t := 25) C dL_isOpen_21 (by decide) ?_
      exact w_iret C rfl dL_isOpen_25 (Or.inl ⟨hk0, (if01 c1).symm, hR1, hC1⟩)
theorem s_isOpen {r : Rw} {R ns nr ne t kp : Nat} {qs : Nat → Rw} (I : Inv r R ns nr ne t (t + 1)) (hk : kp ≤ 4) (u v : Int32) (h : kOpen r u v = 0) : Xs mL_isOpen [.ref 0, .int u, .int v] r kp qs ((if u = v ∨ mDoorI r (cN u) (cN v) = 0 then 0 else 1)) (r) (kp) (qs) := by
  intro σ τ hRl hRc
  refine Xw_mono (e_L_isOpen σ τ hRl hRc hk I u v) (fun v σ1 τ1 q => ?_)
  rcases q with ⟨-, q2, q3, q4⟩ | ⟨q1, -⟩
  · exact ⟨q2, q3, q4⟩
  · exact absurd h q1
theorem n_isOpen {r : Rw} {R ns nr ne t kp : Nat} {qs : Nat → Rw} (I : Inv r R ns nr ne t (t + 1)) (hk : kp ≤ 4) (u v : Int32) (h : ¬ kOpen r u v = 0) : Xs mL_isOpen [.ref 0, .int u, .int v] r kp qs (cO (kOpen r u v)) r kp qs := by
  intro σ τ hRl hRc
  refine Xw_mono (e_L_isOpen σ τ hRl hRc hk I u v) (fun v σ1 τ1 q => ?_)
  rcases q with ⟨q1, -⟩ | ⟨-, q2, q3⟩
  · exact absurd q1 h
  · exact ⟨q2, q3 ▸ hRl, q3 ▸ hRc⟩
set_option maxHeartbeats 4000000 in
set_option maxRecDepth 100000 in
theorem e_L_addFuel (σ : xS) (τ : xT) {r : Rw} {R ns nr ne t kp : Nat} {qs : Nat → Rw} (hR : Rel σ 1 r) (hC : Rc σ kp qs) (hk : kp ≤ 4) (I : Inv r R ns nr ne t (t + 1)) (u : Int32) : Xw mL_addFuel [.ref 0, .int u] σ τ (QP (kW u 1 200) ((if 200 < r 8 + u then 200 else r 8 + u)) (cA (kW u 1 200)) (upd r 8 (if 200 < r 8 + u then 200 else r 8 + u)) (kK kp) (kQ kp qs r) σ) := by
  refine Xw_mk (hh := [(0, 6, 9, 15)]) (L := [some (.ref 0), some (.int u), none, none]) (by decide) rfl (Nat.le_of_ble_eq_true rfl) rfl (fun x C0 => ?_)
  have C := C0.1
  refine y_aload_n C dL_addFuel_0 rfl ?_
  refine y_iload_n C dL_addFuel_1 rfl ?_
  refine y_callZ C0 (e_X8_addFuel _ _ hR hC hk I u) dL_addFuel_2 rfl gL_addFuel_X8_addFuel rfl is_X8 ⟨rfl, qX8_addFuel⟩ ⟨rfl, rfl⟩ ⟨Nat.le_of_ble_eq_true rfl, Nat.le_of_ble_eq_true rfl⟩ rfl (Nat.le_of_ble_eq_true rfl) ⟨Nat.le_of_ble_eq_true rfl, Nat.le_of_ble_eq_true rfl⟩ (fun E hE => ?_) (fun v9 σ1 τ1 hq => ?_)
  ·
    obtain ⟨rfl, hk1⟩ := hE
    exact ⟨9, ⟨[], ⟨0, 6, 9, 15⟩, [], rfl, fun z h => absurd h List.not_mem_nil, by decide, by decide, by decide +kernel, by decide, rfl⟩, yh_astore_n C dL_addFuel_9 (L' := [_, _, _, _]) (Nat.lt_of_lt_of_le (by decide : (3 : Nat) < 4) (Nat.le_refl _)) rfl (y_sipush (v := -2051) C dL_addFuel_10 (by decide) (w_iret C rfl dL_addFuel_13 (Or.inr ⟨fun z => absurd (hk1.symm.trans z) (by decide), by rw [hk1]; rfl, rfl⟩)))⟩
  ·
    obtain ⟨hk0, rfl, hR1, hC1, hF1, rfl⟩ := hq
    refine y_istore_n C dL_addFuel_5 (L' := [_, _, _, _]) (Nat.lt_of_lt_of_le (by decide : (2 : Nat) < 4) (Nat.le_refl _)) rfl ?_
    refine y_goto (t := 14) C dL_addFuel_6 (by decide) ?_
    refine y_iload_n C dL_addFuel_14 rfl ?_
    exact w_iret C rfl dL_addFuel_15 (Or.inl ⟨hk0, rfl, hR1, hC1⟩)
theorem s_addFuel {r : Rw} {R ns nr ne t kp : Nat} {qs : Nat → Rw} (I : Inv r R ns nr ne t (t + 1)) (hk : kp ≤ 4) (u : Int32) (h : kW u 1 200 = 0) : Xs mL_addFuel [.ref 0, .int u] r kp qs ((if 200 < r 8 + u then 200 else r 8 + u)) (upd r 8 (if 200 < r 8 + u then 200 else r 8 + u)) (kK kp) (kQ kp qs r) := by
  intro σ τ hRl hRc
  refine Xw_mono (e_L_addFuel σ τ hRl hRc hk I u) (fun v σ1 τ1 q => ?_)
  rcases q with ⟨-, q2, q3, q4⟩ | ⟨q1, -⟩
  · exact ⟨q2, q3, q4⟩
  · exact absurd h q1
theorem n_addFuel {r : Rw} {R ns nr ne t kp : Nat} {qs : Nat → Rw} (I : Inv r R ns nr ne t (t + 1)) (hk : kp ≤ 4) (u : Int32) (h : ¬ kW u 1 200 = 0) : Xs mL_addFuel [.ref 0, .int u] r kp qs (cA (kW u 1 200)) r kp qs := by
  intro σ τ hRl hRc
  refine Xw_mono (e_L_addFuel σ τ hRl hRc hk I u) (fun v σ1 τ1 q => ?_)
  rcases q with ⟨q1, -⟩ | ⟨-, q2, q3⟩
  · exact absurd q1 h
  · exact ⟨q2, q3 ▸ hRl, q3 ▸ hRc⟩
set_option maxHeartbeats 4000000 in
set_option maxRecDepth 100000 in
theorem e_L_setTarget (σ : xS) (τ : xT) {r : Rw} {R ns nr ne t kp : Nat} {qs : Nat → Rw} (hR : Rel σ 1 r) (hC : Rc σ kp qs) (hk : kp ≤ 4) (I : Inv r R ns nr ne t (t + 1)) (u : Int32) : Xw mL_setTarget [.ref 0, .int u] σ τ (QP (kW u 0 8) (r 9) (cA (kW u 0 8)) (upd r 9 u) (kK kp) (kQ kp qs r) σ) := by
  refine Xw_mk (hh := [(0, 6, 9, 15)]) (L := [some (.ref 0), some (.int u), none, none]) (by decide) rfl (Nat.le_of_ble_eq_true rfl) rfl (fun x C0 => ?_)
  have C := C0.1
  refine y_aload_n C dL_setTarget_0 rfl ?_
  refine y_iload_n C dL_setTarget_1 rfl ?_
  refine y_callZ C0 (e_X8_setTarget _ _ hR hC hk I u) dL_setTarget_2 rfl gL_setTarget_X8_setTarget rfl is_X8 ⟨rfl, qX8_setTarget⟩ ⟨rfl, rfl⟩ ⟨Nat.le_of_ble_eq_true rfl, Nat.le_of_ble_eq_true rfl⟩ rfl (Nat.le_of_ble_eq_true rfl) ⟨Nat.le_of_ble_eq_true rfl, Nat.le_of_ble_eq_true rfl⟩ (fun E hE => ?_) (fun v9 σ1 τ1 hq => ?_)
  ·
    obtain ⟨rfl, hk1⟩ := hE
    exact ⟨9, ⟨[], ⟨0, 6, 9, 15⟩, [], rfl, fun z h => absurd h List.not_mem_nil, by decide, by decide, by decide +kernel, by decide, rfl⟩, yh_astore_n C dL_setTarget_9 (L' := [_, _, _, _]) (Nat.lt_of_lt_of_le (by decide : (3 : Nat) < 4) (Nat.le_refl _)) rfl (y_sipush (v := -2051) C dL_setTarget_10 (by decide) (w_iret C rfl dL_setTarget_13 (Or.inr ⟨fun z => absurd (hk1.symm.trans z) (by decide), by rw [hk1]; rfl, rfl⟩)))⟩
  ·
    obtain ⟨hk0, rfl, hR1, hC1, hF1, rfl⟩ := hq
    refine y_istore_n C dL_setTarget_5 (L' := [_, _, _, _]) (Nat.lt_of_lt_of_le (by decide : (2 : Nat) < 4) (Nat.le_refl _)) rfl ?_
    refine y_goto (t := 14) C dL_setTarget_6 (by decide) ?_
    refine y_iload_n C dL_setTarget_14 rfl ?_
    exact w_iret C rfl dL_setTarget_15 (Or.inl ⟨hk0, rfl, hR1, hC1⟩)
theorem s_setTarget {r : Rw} {R ns nr ne t kp : Nat} {qs : Nat → Rw} (I : Inv r R ns nr ne t (t + 1)) (hk : kp ≤ 4) (u : Int32) (h : kW u 0 8 = 0) : Xs mL_setTarget [.ref 0, .int u] r kp qs (r 9) (upd r 9 u) (kK kp) (kQ kp qs r) := by
  intro σ τ hRl hRc
  refine Xw_mono (e_L_setTarget σ τ hRl hRc hk I u) (fun v σ1 τ1 q => ?_)
  rcases q with ⟨-, q2, q3, q4⟩ | ⟨q1, -⟩
  · exact ⟨q2, q3, q4⟩
  · exact absurd h q1
theorem n_setTarget {r : Rw} {R ns nr ne t kp : Nat} {qs : Nat → Rw} (I : Inv r R ns nr ne t (t + 1)) (hk : kp ≤ 4) (u : Int32) (h : ¬ kW u 0 8 = 0) : Xs mL_setTarget [.ref 0, .int u] r kp qs (cA (kW u 0 8)) r kp qs := by
  intro σ τ hRl hRc
  refine Xw_mono (e_L_setTarget σ τ hRl hRc hk I u) (fun v σ1 τ1 q => ?_)
  rcases q with ⟨q1, -⟩ | ⟨-, q2, q3⟩
  · exact absurd q1 h
  · exact ⟨q2, q3 ▸ hRl, q3 ▸ hRc⟩
set_option maxHeartbeats 4000000 in
set_option maxRecDepth 100000 in
theorem e_L_set (σ : xS) (τ : xT) {r : Rw} {R ns nr ne t kp : Nat} {qs : Nat → Rw} (hR : Rel σ 1 r) (hC : Rc σ kp qs) (hk : kp ≤ 4) (I : Inv r R ns nr ne t (t + 1)) (u v : Int32) : Xw mL_set [.ref 0, .int u, .int v] σ τ (QP (kSet u v) (mNum r u) (cA (kSet u v)) (upd r (cN u) v) (kK kp) (kQ kp qs r) σ) := by
  refine Xw_mk (hh := [(0, 7, 10, 15)]) (L := [some (.ref 0), some (.int u), some (.int v), none, none]) (by decide) rfl (Nat.le_of_ble_eq_true rfl) rfl (fun x C0 => ?_)
  have C := C0.1
  refine y_aload_n C dL_set_0 rfl ?_
  refine y_iload_n C dL_set_1 rfl ?_
  refine y_iload_n C dL_set_2 rfl ?_
  refine y_callZ C0 (e_X8_set _ _ hR hC hk I u v) dL_set_3 rfl gL_set_X8_set rfl is_X8 ⟨rfl, qX8_set⟩ ⟨rfl, rfl⟩ ⟨Nat.le_of_ble_eq_true rfl, Nat.le_of_ble_eq_true rfl⟩ rfl (Nat.le_of_ble_eq_true rfl) ⟨Nat.le_of_ble_eq_true rfl, Nat.le_of_ble_eq_true rfl⟩ (fun E hE => ?_) (fun v9 σ1 τ1 hq => ?_)
  ·
    obtain ⟨rfl, hk1⟩ := hE
    exact ⟨10, ⟨[], ⟨0, 7, 10, 15⟩, [], rfl, fun z h => absurd h List.not_mem_nil, by decide, by decide, by decide +kernel, by decide, rfl⟩, yh_astore C dL_set_10 (L' := [_, _, _, _, _]) (Nat.lt_of_lt_of_le (by decide : (4 : Nat) < 5) (Nat.le_refl _)) rfl (y_sipush (v := -2051) C dL_set_12 (by decide) (w_iret C rfl dL_set_15 (Or.inr ⟨fun z => absurd (hk1.symm.trans z) (by decide), by rw [hk1]; rfl, rfl⟩)))⟩
  ·
    obtain ⟨hk0, rfl, hR1, hC1, hF1, rfl⟩ := hq
    refine y_istore_n C dL_set_6 (L' := [_, _, _, _, _]) (Nat.lt_of_lt_of_le (by decide : (3 : Nat) < 5) (Nat.le_refl _)) rfl ?_
    refine y_goto (t := 16) C dL_set_7 (by decide) ?_
    refine y_iload_n C dL_set_16 rfl ?_
    exact w_iret C rfl dL_set_17 (Or.inl ⟨hk0, rfl, hR1, hC1⟩)
theorem s_set {r : Rw} {R ns nr ne t kp : Nat} {qs : Nat → Rw} (I : Inv r R ns nr ne t (t + 1)) (hk : kp ≤ 4) (u v : Int32) (h : kSet u v = 0) : Xs mL_set [.ref 0, .int u, .int v] r kp qs (mNum r u) (upd r (cN u) v) (kK kp) (kQ kp qs r) := by
  intro σ τ hRl hRc
  refine Xw_mono (e_L_set σ τ hRl hRc hk I u v) (fun v σ1 τ1 q => ?_)
  rcases q with ⟨-, q2, q3, q4⟩ | ⟨q1, -⟩
  · exact ⟨q2, q3, q4⟩
  · exact absurd h q1
theorem n_set {r : Rw} {R ns nr ne t kp : Nat} {qs : Nat → Rw} (I : Inv r R ns nr ne t (t + 1)) (hk : kp ≤ 4) (u v : Int32) (h : ¬ kSet u v = 0) : Xs mL_set [.ref 0, .int u, .int v] r kp qs (cA (kSet u v)) r kp qs := by
  intro σ τ hRl hRc
  refine Xw_mono (e_L_set σ τ hRl hRc hk I u v) (fun v σ1 τ1 q => ?_)
  rcases q with ⟨q1, -⟩ | ⟨-, q2, q3⟩
  · exact absurd q1 h
  · exact ⟨q2, q3 ▸ hRl, q3 ▸ hRc⟩
set_option maxHeartbeats 4000000 in
set_option maxRecDepth 100000 in
theorem e_L_setSmoke (σ : xS) (τ : xT) {r : Rw} {R ns nr ne t kp : Nat} {qs : Nat → Rw} (hR : Rel σ 1 r) (hC : Rc σ kp qs) (hk : kp ≤ 4) (I : Inv r R ns nr ne t (t + 1)) (u v : Int32) : Xw mL_setSmoke [.ref 0, .int u, .int v] σ τ (QP (kRW r u v 0 99999) (r (20 + cN u)) (cOA (kRW r u v 0 99999)) (upd r (20 + cN u) v) (kK kp) (kQ kp qs r) σ) := by
  refine Xw_mk (hh := [(0, 7, 10, 21), (0, 7, 16, 15)]) (L := [some (.ref 0), some (.int u), some (.int v), none, none]) (by decide) rfl (Nat.le_of_ble_eq_true rfl) rfl (fun x C0 => ?_)
  have C := C0.1
  refine y_aload_n C dL_setSmoke_0 rfl ?_
  refine y_iload_n C dL_setSmoke_1 rfl ?_
  refine y_iload_n C dL_setSmoke_2 rfl ?_
  refine y_callZ C0 (e_X8_setSmoke _ _ hR hC hk I u v) dL_setSmoke_3 rfl gL_setSmoke_X8_setSmoke rfl is_X8 ⟨rfl, qX8_setSmoke⟩ ⟨rfl, rfl⟩ ⟨Nat.le_of_ble_eq_true rfl, Nat.le_of_ble_eq_true rfl⟩ rfl (Nat.le_of_ble_eq_true rfl) ⟨Nat.le_of_ble_eq_true rfl, Nat.le_of_ble_eq_true rfl⟩ (fun E hE => ?_) (fun v9 σ1 τ1 hq => ?_)
  ·
    rcases hE with ⟨rfl, hk1⟩ | ⟨rfl, hk1⟩
    · exact ⟨10, ⟨[], ⟨0, 7, 10, 21⟩, [⟨0, 7, 16, 15⟩], rfl, fun z h => absurd h List.not_mem_nil, by decide, by decide, by decide +kernel, by decide, rfl⟩, yh_astore C dL_setSmoke_10 (L' := [_, _, _, _, _]) (Nat.lt_of_lt_of_le (by decide : (4 : Nat) < 5) (Nat.le_refl _)) rfl (y_sipush (v := -2053) C dL_setSmoke_12 (by decide) (w_iret C rfl dL_setSmoke_15 (Or.inr ⟨fun z => absurd (hk1.symm.trans z) (by decide), by rw [hk1]; rfl, rfl⟩)))⟩
    · exact ⟨16, ⟨[⟨0, 7, 10, 21⟩], ⟨0, 7, 16, 15⟩, [], rfl, fun z h => by obtain rfl := List.mem_singleton.mp h; exact ⟨by decide, eIO, by decide, by decide, by decide +kernel⟩, by decide, by decide, by decide +kernel, by decide, rfl⟩, yh_astore C dL_setSmoke_16 (L' := [_, _, _, _, _]) (Nat.lt_of_lt_of_le (by decide : (4 : Nat) < 5) (Nat.le_refl _)) rfl (y_sipush (v := -2051) C dL_setSmoke_18 (by decide) (w_iret C rfl dL_setSmoke_21 (Or.inr ⟨fun z => absurd (hk1.symm.trans z) (by decide), by rw [hk1]; rfl, rfl⟩)))⟩
  ·
    obtain ⟨hk0, rfl, hR1, hC1, hF1, rfl⟩ := hq
    refine y_istore_n C dL_setSmoke_6 (L' := [_, _, _, _, _]) (Nat.lt_of_lt_of_le (by decide : (3 : Nat) < 5) (Nat.le_refl _)) rfl ?_
    refine y_goto (t := 22) C dL_setSmoke_7 (by decide) ?_
    refine y_iload_n C dL_setSmoke_22 rfl ?_
    exact w_iret C rfl dL_setSmoke_23 (Or.inl ⟨hk0, rfl, hR1, hC1⟩)
theorem s_setSmoke {r : Rw} {R ns nr ne t kp : Nat} {qs : Nat → Rw} (I : Inv r R ns nr ne t (t + 1)) (hk : kp ≤ 4) (u v : Int32) (h : kRW r u v 0 99999 = 0) : Xs mL_setSmoke [.ref 0, .int u, .int v] r kp qs (r (20 + cN u)) (upd r (20 + cN u) v) (kK kp) (kQ kp qs r) := by
  intro σ τ hRl hRc
  refine Xw_mono (e_L_setSmoke σ τ hRl hRc hk I u v) (fun v σ1 τ1 q => ?_)
  rcases q with ⟨-, q2, q3, q4⟩ | ⟨q1, -⟩
  · exact ⟨q2, q3, q4⟩
  · exact absurd h q1
theorem n_setSmoke {r : Rw} {R ns nr ne t kp : Nat} {qs : Nat → Rw} (I : Inv r R ns nr ne t (t + 1)) (hk : kp ≤ 4) (u v : Int32) (h : ¬ kRW r u v 0 99999 = 0) : Xs mL_setSmoke [.ref 0, .int u, .int v] r kp qs (cOA (kRW r u v 0 99999)) r kp qs := by
  intro σ τ hRl hRc
  refine Xw_mono (e_L_setSmoke σ τ hRl hRc hk I u v) (fun v σ1 τ1 q => ?_)
  rcases q with ⟨q1, -⟩ | ⟨-, q2, q3⟩
  · exact absurd q1 h
  · exact ⟨q2, q3 ▸ hRl, q3 ▸ hRc⟩
set_option maxHeartbeats 4000000 in
set_option maxRecDepth 100000 in
theorem e_L_info (σ : xS) (τ : xT) {r : Rw} {R ns nr ne t kp : Nat} {qs : Nat → Rw} (hR : Rel σ 1 r) (hC : Rc σ kp qs) (hk : kp ≤ 4) (I : Inv r R ns nr ne t (t + 1)) (u : Int32) : Xw mL_info [.ref 0, .int u] σ τ (QP (kW u 0 14) (mNum r u) (cA (kW u 0 14)) (r) (kp) (qs) σ) := by
  refine Xw_mk (hh := [(0, 6, 9, 15)]) (L := [some (.ref 0), some (.int u), none, none]) (by decide) rfl (Nat.le_of_ble_eq_true rfl) rfl (fun x C0 => ?_)
  have C := C0.1
  refine y_aload_n C dL_info_0 rfl ?_
  refine y_iload_n C dL_info_1 rfl ?_
  refine y_callZ C0 (e_X8_info _ _ hR hC hk I u) dL_info_2 rfl gL_info_X8_info rfl is_X8 ⟨rfl, qX8_info⟩ ⟨rfl, rfl⟩ ⟨Nat.le_of_ble_eq_true rfl, Nat.le_of_ble_eq_true rfl⟩ rfl (Nat.le_of_ble_eq_true rfl) ⟨Nat.le_of_ble_eq_true rfl, Nat.le_of_ble_eq_true rfl⟩ (fun E hE => ?_) (fun v9 σ1 τ1 hq => ?_)
  ·
    obtain ⟨rfl, hk1⟩ := hE
    exact ⟨9, ⟨[], ⟨0, 6, 9, 15⟩, [], rfl, fun z h => absurd h List.not_mem_nil, by decide, by decide, by decide +kernel, by decide, rfl⟩, yh_astore_n C dL_info_9 (L' := [_, _, _, _]) (Nat.lt_of_lt_of_le (by decide : (3 : Nat) < 4) (Nat.le_refl _)) rfl (y_sipush (v := -2051) C dL_info_10 (by decide) (w_iret C rfl dL_info_13 (Or.inr ⟨fun z => absurd (hk1.symm.trans z) (by decide), by rw [hk1]; rfl, rfl⟩)))⟩
  ·
    obtain ⟨hk0, rfl, hR1, hC1, hF1, rfl⟩ := hq
    refine y_istore_n C dL_info_5 (L' := [_, _, _, _]) (Nat.lt_of_lt_of_le (by decide : (2 : Nat) < 4) (Nat.le_refl _)) rfl ?_
    refine y_goto (t := 14) C dL_info_6 (by decide) ?_
    refine y_iload_n C dL_info_14 rfl ?_
    exact w_iret C rfl dL_info_15 (Or.inl ⟨hk0, rfl, hR1, hC1⟩)
theorem s_info {r : Rw} {R ns nr ne t kp : Nat} {qs : Nat → Rw} (I : Inv r R ns nr ne t (t + 1)) (hk : kp ≤ 4) (u : Int32) (h : kW u 0 14 = 0) : Xs mL_info [.ref 0, .int u] r kp qs (mNum r u) (r) (kp) (qs) := by
  intro σ τ hRl hRc
  refine Xw_mono (e_L_info σ τ hRl hRc hk I u) (fun v σ1 τ1 q => ?_)
  rcases q with ⟨-, q2, q3, q4⟩ | ⟨q1, -⟩
  · exact ⟨q2, q3, q4⟩
  · exact absurd h q1
theorem n_info {r : Rw} {R ns nr ne t kp : Nat} {qs : Nat → Rw} (I : Inv r R ns nr ne t (t + 1)) (hk : kp ≤ 4) (u : Int32) (h : ¬ kW u 0 14 = 0) : Xs mL_info [.ref 0, .int u] r kp qs (cA (kW u 0 14)) r kp qs := by
  intro σ τ hRl hRc
  refine Xw_mono (e_L_info σ τ hRl hRc hk I u) (fun v σ1 τ1 q => ?_)
  rcases q with ⟨q1, -⟩ | ⟨-, q2, q3⟩
  · exact absurd q1 h
  · exact ⟨q2, q3 ▸ hRl, q3 ▸ hRc⟩
set_option maxHeartbeats 4000000 in
set_option maxRecDepth 100000 in
theorem e_L_room (σ : xS) (τ : xT) {r : Rw} {R ns nr ne t kp : Nat} {qs : Nat → Rw} (hR : Rel σ 1 r) (hC : Rc σ kp qs) (hk : kp ≤ 4) (I : Inv r R ns nr ne t (t + 1)) (u v : Int32) : Xw mL_room [.ref 0, .int u, .int v] σ τ (QP (kRW r u v 0 6) (mRooT r (cN u) v) (cOA (kRW r u v 0 6)) (r) (kp) (qs) σ) := by
  refine Xw_mk (hh := [(0, 7, 10, 21), (0, 7, 16, 15)]) (L := [some (.ref 0), some (.int u), some (.int v), none, none]) (by decide) rfl (Nat.le_of_ble_eq_true rfl) rfl (fun x C0 => ?_)
  have C := C0.1
  refine y_aload_n C dL_room_0 rfl ?_
  refine y_iload_n C dL_room_1 rfl ?_
  refine y_iload_n C dL_room_2 rfl ?_
  refine y_callZ C0 (e_X8_room _ _ hR hC hk I u v) dL_room_3 rfl gL_room_X8_room rfl is_X8 ⟨rfl, qX8_room⟩ ⟨rfl, rfl⟩ ⟨Nat.le_of_ble_eq_true rfl, Nat.le_of_ble_eq_true rfl⟩ rfl (Nat.le_of_ble_eq_true rfl) ⟨Nat.le_of_ble_eq_true rfl, Nat.le_of_ble_eq_true rfl⟩ (fun E hE => ?_) (fun v9 σ1 τ1 hq => ?_)
  ·
    rcases hE with ⟨rfl, hk1⟩ | ⟨rfl, hk1⟩
    · exact ⟨10, ⟨[], ⟨0, 7, 10, 21⟩, [⟨0, 7, 16, 15⟩], rfl, fun z h => absurd h List.not_mem_nil, by decide, by decide, by decide +kernel, by decide, rfl⟩, yh_astore C dL_room_10 (L' := [_, _, _, _, _]) (Nat.lt_of_lt_of_le (by decide : (4 : Nat) < 5) (Nat.le_refl _)) rfl (y_sipush (v := -2053) C dL_room_12 (by decide) (w_iret C rfl dL_room_15 (Or.inr ⟨fun z => absurd (hk1.symm.trans z) (by decide), by rw [hk1]; rfl, rfl⟩)))⟩
    · exact ⟨16, ⟨[⟨0, 7, 10, 21⟩], ⟨0, 7, 16, 15⟩, [], rfl, fun z h => by obtain rfl := List.mem_singleton.mp h; exact ⟨by decide, eIO, by decide, by decide, by decide +kernel⟩, by decide, by decide, by decide +kernel, by decide, rfl⟩, yh_astore C dL_room_16 (L' := [_, _, _, _, _]) (Nat.lt_of_lt_of_le (by decide : (4 : Nat) < 5) (Nat.le_refl _)) rfl (y_sipush (v := -2051) C dL_room_18 (by decide) (w_iret C rfl dL_room_21 (Or.inr ⟨fun z => absurd (hk1.symm.trans z) (by decide), by rw [hk1]; rfl, rfl⟩)))⟩
  ·
    obtain ⟨hk0, rfl, hR1, hC1, hF1, rfl⟩ := hq
    refine y_istore_n C dL_room_6 (L' := [_, _, _, _, _]) (Nat.lt_of_lt_of_le (by decide : (3 : Nat) < 5) (Nat.le_refl _)) rfl ?_
    refine y_goto (t := 22) C dL_room_7 (by decide) ?_
    refine y_iload_n C dL_room_22 rfl ?_
    exact w_iret C rfl dL_room_23 (Or.inl ⟨hk0, rfl, hR1, hC1⟩)
theorem s_room {r : Rw} {R ns nr ne t kp : Nat} {qs : Nat → Rw} (I : Inv r R ns nr ne t (t + 1)) (hk : kp ≤ 4) (u v : Int32) (h : kRW r u v 0 6 = 0) : Xs mL_room [.ref 0, .int u, .int v] r kp qs (mRooT r (cN u) v) (r) (kp) (qs) := by
  intro σ τ hRl hRc
  refine Xw_mono (e_L_room σ τ hRl hRc hk I u v) (fun v σ1 τ1 q => ?_)
  rcases q with ⟨-, q2, q3, q4⟩ | ⟨q1, -⟩
  · exact ⟨q2, q3, q4⟩
  · exact absurd h q1
theorem n_room {r : Rw} {R ns nr ne t kp : Nat} {qs : Nat → Rw} (I : Inv r R ns nr ne t (t + 1)) (hk : kp ≤ 4) (u v : Int32) (h : ¬ kRW r u v 0 6 = 0) : Xs mL_room [.ref 0, .int u, .int v] r kp qs (cOA (kRW r u v 0 6)) r kp qs := by
  intro σ τ hRl hRc
  refine Xw_mono (e_L_room σ τ hRl hRc hk I u v) (fun v σ1 τ1 q => ?_)
  rcases q with ⟨q1, -⟩ | ⟨-, q2, q3⟩
  · exact absurd q1 h
  · exact ⟨q2, q3 ▸ hRl, q3 ▸ hRc⟩
set_option maxHeartbeats 4000000 in
set_option maxRecDepth 100000 in
theorem e_L_addSensor (σ : xS) (τ : xT) {r : Rw} {R ns nr ne t kp : Nat} {qs : Nat → Rw} (hR : Rel σ 1 r) (hC : Rc σ kp qs) (hk : kp ≤ 4) (I : Inv r R ns nr ne t (t + 1)) (a b c d e : Int32) : Xw mL_addSensor [.ref 0, .int a, .int b, .int c, .int d, .int e] σ τ (QP (kASe r a b c d e) (r 10) (cOAT (kASe r a b c d e)) (mASe r ns a b c d e) (kK kp) (kQ kp qs r) σ) := by
  refine Xw_mk (hh := [(0, 13, 16, 21), (0, 13, 22, 15), (0, 13, 28, 50)]) (L := [some (.ref 0), some (.int a), some (.int b), some (.int c), some (.int d), some (.int e), none, none]) (by decide) rfl (Nat.le_of_ble_eq_true rfl) rfl (fun x C0 => ?_)
  have C := C0.1
  refine y_aload_n C dL_addSensor_0 rfl ?_
  refine y_iload_n C dL_addSensor_1 rfl ?_
  refine y_iload_n C dL_addSensor_2 rfl ?_
  refine y_iload_n C dL_addSensor_3 rfl ?_
  refine y_iload C dL_addSensor_4 rfl ?_
  refine y_iload C dL_addSensor_6 rfl ?_
  refine y_callZ C0 (e_X8_addSensor _ _ hR hC hk I a b c d e) dL_addSensor_8 rfl gL_addSensor_X8_addSensor rfl is_X8 ⟨rfl, qX8_addSensor⟩ ⟨rfl, rfl⟩ ⟨Nat.le_of_ble_eq_true rfl, Nat.le_of_ble_eq_true rfl⟩ rfl (Nat.le_of_ble_eq_true rfl) ⟨Nat.le_of_ble_eq_true rfl, Nat.le_of_ble_eq_true rfl⟩ (fun E hE => ?_) (fun v9 σ1 τ1 hq => ?_)
  ·
    rcases hE with ⟨rfl, hk1⟩ | ⟨rfl, hk1⟩ | ⟨rfl, hk1⟩
    · exact ⟨16, ⟨[], ⟨0, 13, 16, 21⟩, [⟨0, 13, 22, 15⟩, ⟨0, 13, 28, 50⟩], rfl, fun z h => absurd h List.not_mem_nil, by decide, by decide, by decide +kernel, by decide, rfl⟩, yh_astore C dL_addSensor_16 (L' := [_, _, _, _, _, _, _, _]) (Nat.lt_of_lt_of_le (by decide : (7 : Nat) < 8) (Nat.le_refl _)) rfl (y_sipush (v := -2053) C dL_addSensor_18 (by decide) (w_iret C rfl dL_addSensor_21 (Or.inr ⟨fun z => absurd (hk1.symm.trans z) (by decide), by rw [hk1]; rfl, rfl⟩)))⟩
    · exact ⟨22, ⟨[⟨0, 13, 16, 21⟩], ⟨0, 13, 22, 15⟩, [⟨0, 13, 28, 50⟩], rfl, fun z h => by obtain rfl := List.mem_singleton.mp h; exact ⟨by decide, eIO, by decide, by decide, by decide +kernel⟩, by decide, by decide, by decide +kernel, by decide, rfl⟩, yh_astore C dL_addSensor_22 (L' := [_, _, _, _, _, _, _, _]) (Nat.lt_of_lt_of_le (by decide : (7 : Nat) < 8) (Nat.le_refl _)) rfl (y_sipush (v := -2051) C dL_addSensor_24 (by decide) (w_iret C rfl dL_addSensor_27 (Or.inr ⟨fun z => absurd (hk1.symm.trans z) (by decide), by rw [hk1]; rfl, rfl⟩)))⟩
    · exact ⟨28, ⟨[⟨0, 13, 16, 21⟩, ⟨0, 13, 22, 15⟩], ⟨0, 13, 28, 50⟩, [], rfl, fun z h => by rcases List.mem_cons.mp h with rfl | h; exact ⟨by decide, eIO, by decide, by decide, by decide +kernel⟩; obtain rfl := List.mem_singleton.mp h; exact ⟨by decide, eIA, by decide, by decide, by decide +kernel⟩, by decide, by decide, by decide +kernel, by decide, rfl⟩, yh_astore C dL_addSensor_28 (L' := [_, _, _, _, _, _, _, _]) (Nat.lt_of_lt_of_le (by decide : (7 : Nat) < 8) (Nat.le_refl _)) rfl (y_sipush (v := -2052) C dL_addSensor_30 (by decide) (w_iret C rfl dL_addSensor_33 (Or.inr ⟨fun z => absurd (hk1.symm.trans z) (by decide), by rw [hk1]; rfl, rfl⟩)))⟩
  ·
    obtain ⟨hk0, rfl, hR1, hC1, hF1, rfl⟩ := hq
    refine y_istore C dL_addSensor_11 (L' := [_, _, _, _, _, _, _, _]) (Nat.lt_of_lt_of_le (by decide : (6 : Nat) < 8) (Nat.le_refl _)) rfl ?_
    refine y_goto (t := 34) C dL_addSensor_13 (by decide) ?_
    refine y_iload C dL_addSensor_34 rfl ?_
    exact w_iret C rfl dL_addSensor_36 (Or.inl ⟨hk0, rfl, hR1, hC1⟩)
theorem s_addSensor {r : Rw} {R ns nr ne t kp : Nat} {qs : Nat → Rw} (I : Inv r R ns nr ne t (t + 1)) (hk : kp ≤ 4) (a b c d e : Int32) (h : kASe r a b c d e = 0) : Xs mL_addSensor [.ref 0, .int a, .int b, .int c, .int d, .int e] r kp qs (r 10) (mASe r ns a b c d e) (kK kp) (kQ kp qs r) := by
  intro σ τ hRl hRc
  refine Xw_mono (e_L_addSensor σ τ hRl hRc hk I a b c d e) (fun v σ1 τ1 q => ?_)
  rcases q with ⟨-, q2, q3, q4⟩ | ⟨q1, -⟩
  · exact ⟨q2, q3, q4⟩
  · exact absurd h q1
theorem n_addSensor {r : Rw} {R ns nr ne t kp : Nat} {qs : Nat → Rw} (I : Inv r R ns nr ne t (t + 1)) (hk : kp ≤ 4) (a b c d e : Int32) (h : ¬ kASe r a b c d e = 0) : Xs mL_addSensor [.ref 0, .int a, .int b, .int c, .int d, .int e] r kp qs (cOAT (kASe r a b c d e)) r kp qs := by
  intro σ τ hRl hRc
  refine Xw_mono (e_L_addSensor σ τ hRl hRc hk I a b c d e) (fun v σ1 τ1 q => ?_)
  rcases q with ⟨q1, -⟩ | ⟨-, q2, q3⟩
  · exact absurd q1 h
  · exact ⟨q2, q3 ▸ hRl, q3 ▸ hRc⟩
set_option maxHeartbeats 4000000 in
set_option maxRecDepth 100000 in
theorem e_L_setFault (σ : xS) (τ : xT) {r : Rw} {R ns nr ne t kp : Nat} {qs : Nat → Rw} (hR : Rel σ 1 r) (hC : Rc σ kp qs) (hk : kp ≤ 4) (I : Inv r R ns nr ne t (t + 1)) (u v : Int32) : Xw mL_setFault [.ref 0, .int u, .int v] σ τ (QP (kSW r u v 0 2) (r (57 + 7 * cN u + 5)) (cOA (kSW r u v 0 2)) (upd r (57 + 7 * cN u + 5) v) (kK kp) (kQ kp qs r) σ) := by
  refine Xw_mk (hh := [(0, 7, 10, 21), (0, 7, 16, 15)]) (L := [some (.ref 0), some (.int u), some (.int v), none, none]) (by decide) rfl (Nat.le_of_ble_eq_true rfl) rfl (fun x C0 => ?_)
  have C := C0.1
  refine y_aload_n C dL_setFault_0 rfl ?_
  refine y_iload_n C dL_setFault_1 rfl ?_
  refine y_iload_n C dL_setFault_2 rfl ?_
  refine y_callZ C0 (e_X8_setFault _ _ hR hC hk I u v) dL_setFault_3 rfl gL_setFault_X8_setFault rfl is_X8 ⟨rfl, qX8_setFault⟩ ⟨rfl, rfl⟩ ⟨Nat.le_of_ble_eq_true rfl, Nat.le_of_ble_eq_true rfl⟩ rfl (Nat.le_of_ble_eq_true rfl) ⟨Nat.le_of_ble_eq_true rfl, Nat.le_of_ble_eq_true rfl⟩ (fun E hE => ?_) (fun v9 σ1 τ1 hq => ?_)
  ·
    rcases hE with ⟨rfl, hk1⟩ | ⟨rfl, hk1⟩
    · exact ⟨10, ⟨[], ⟨0, 7, 10, 21⟩, [⟨0, 7, 16, 15⟩], rfl, fun z h => absurd h List.not_mem_nil, by decide, by decide, by decide +kernel, by decide, rfl⟩, yh_astore C dL_setFault_10 (L' := [_, _, _, _, _]) (Nat.lt_of_lt_of_le (by decide : (4 : Nat) < 5) (Nat.le_refl _)) rfl (y_sipush (v := -2053) C dL_setFault_12 (by decide) (w_iret C rfl dL_setFault_15 (Or.inr ⟨fun z => absurd (hk1.symm.trans z) (by decide), by rw [hk1]; rfl, rfl⟩)))⟩
    · exact ⟨16, ⟨[⟨0, 7, 10, 21⟩], ⟨0, 7, 16, 15⟩, [], rfl, fun z h => by obtain rfl := List.mem_singleton.mp h; exact ⟨by decide, eIO, by decide, by decide, by decide +kernel⟩, by decide, by decide, by decide +kernel, by decide, rfl⟩, yh_astore C dL_setFault_16 (L' := [_, _, _, _, _]) (Nat.lt_of_lt_of_le (by decide : (4 : Nat) < 5) (Nat.le_refl _)) rfl (y_sipush (v := -2051) C dL_setFault_18 (by decide) (w_iret C rfl dL_setFault_21 (Or.inr ⟨fun z => absurd (hk1.symm.trans z) (by decide), by rw [hk1]; rfl, rfl⟩)))⟩
  ·
    obtain ⟨hk0, rfl, hR1, hC1, hF1, rfl⟩ := hq
    refine y_istore_n C dL_setFault_6 (L' := [_, _, _, _, _]) (Nat.lt_of_lt_of_le (by decide : (3 : Nat) < 5) (Nat.le_refl _)) rfl ?_
    refine y_goto (t := 22) C dL_setFault_7 (by decide) ?_
    refine y_iload_n C dL_setFault_22 rfl ?_
    exact w_iret C rfl dL_setFault_23 (Or.inl ⟨hk0, rfl, hR1, hC1⟩)
theorem s_setFault {r : Rw} {R ns nr ne t kp : Nat} {qs : Nat → Rw} (I : Inv r R ns nr ne t (t + 1)) (hk : kp ≤ 4) (u v : Int32) (h : kSW r u v 0 2 = 0) : Xs mL_setFault [.ref 0, .int u, .int v] r kp qs (r (57 + 7 * cN u + 5)) (upd r (57 + 7 * cN u + 5) v) (kK kp) (kQ kp qs r) := by
  intro σ τ hRl hRc
  refine Xw_mono (e_L_setFault σ τ hRl hRc hk I u v) (fun v σ1 τ1 q => ?_)
  rcases q with ⟨-, q2, q3, q4⟩ | ⟨q1, -⟩
  · exact ⟨q2, q3, q4⟩
  · exact absurd h q1
theorem n_setFault {r : Rw} {R ns nr ne t kp : Nat} {qs : Nat → Rw} (I : Inv r R ns nr ne t (t + 1)) (hk : kp ≤ 4) (u v : Int32) (h : ¬ kSW r u v 0 2 = 0) : Xs mL_setFault [.ref 0, .int u, .int v] r kp qs (cOA (kSW r u v 0 2)) r kp qs := by
  intro σ τ hRl hRc
  refine Xw_mono (e_L_setFault σ τ hRl hRc hk I u v) (fun v σ1 τ1 q => ?_)
  rcases q with ⟨q1, -⟩ | ⟨-, q2, q3⟩
  · exact absurd q1 h
  · exact ⟨q2, q3 ▸ hRl, q3 ▸ hRc⟩
set_option maxHeartbeats 4000000 in
set_option maxRecDepth 100000 in
theorem e_L_sensor (σ : xS) (τ : xT) {r : Rw} {R ns nr ne t kp : Nat} {qs : Nat → Rw} (hR : Rel σ 1 r) (hC : Rc σ kp qs) (hk : kp ≤ 4) (I : Inv r R ns nr ne t (t + 1)) (u v : Int32) : Xw mL_sensor [.ref 0, .int u, .int v] σ τ (QP (kSW r u v 0 8) (mSenT r (cN u) v) (cOA (kSW r u v 0 8)) (r) (kp) (qs) σ) := by
  refine Xw_mk (hh := [(0, 7, 10, 21), (0, 7, 16, 15)]) (L := [some (.ref 0), some (.int u), some (.int v), none, none]) (by decide) rfl (Nat.le_of_ble_eq_true rfl) rfl (fun x C0 => ?_)
  have C := C0.1
  refine y_aload_n C dL_sensor_0 rfl ?_
  refine y_iload_n C dL_sensor_1 rfl ?_
  refine y_iload_n C dL_sensor_2 rfl ?_
  refine y_callZ C0 (e_X8_sensor _ _ hR hC hk I u v) dL_sensor_3 rfl gL_sensor_X8_sensor rfl is_X8 ⟨rfl, qX8_sensor⟩ ⟨rfl, rfl⟩ ⟨Nat.le_of_ble_eq_true rfl, Nat.le_of_ble_eq_true rfl⟩ rfl (Nat.le_of_ble_eq_true rfl) ⟨Nat.le_of_ble_eq_true rfl, Nat.le_of_ble_eq_true rfl⟩ (fun E hE => ?_) (fun v9 σ1 τ1 hq => ?_)
  ·
    rcases hE with ⟨rfl, hk1⟩ | ⟨rfl, hk1⟩
    · exact ⟨10, ⟨[], ⟨0, 7, 10, 21⟩, [⟨0, 7, 16, 15⟩], rfl, fun z h => absurd h List.not_mem_nil, by decide, by decide, by decide +kernel, by decide, rfl⟩, yh_astore C dL_sensor_10 (L' := [_, _, _, _, _]) (Nat.lt_of_lt_of_le (by decide : (4 : Nat) < 5) (Nat.le_refl _)) rfl (y_sipush (v := -2053) C dL_sensor_12 (by decide) (w_iret C rfl dL_sensor_15 (Or.inr ⟨fun z => absurd (hk1.symm.trans z) (by decide), by rw [hk1]; rfl, rfl⟩)))⟩
    · exact ⟨16, ⟨[⟨0, 7, 10, 21⟩], ⟨0, 7, 16, 15⟩, [], rfl, fun z h => by obtain rfl := List.mem_singleton.mp h; exact ⟨by decide, eIO, by decide, by decide, by decide +kernel⟩, by decide, by decide, by decide +kernel, by decide, rfl⟩, yh_astore C dL_sensor_16 (L' := [_, _, _, _, _]) (Nat.lt_of_lt_of_le (by decide : (4 : Nat) < 5) (Nat.le_refl _)) rfl (y_sipush (v := -2051) C dL_sensor_18 (by decide) (w_iret C rfl dL_sensor_21 (Or.inr ⟨fun z => absurd (hk1.symm.trans z) (by decide), by rw [hk1]; rfl, rfl⟩)))⟩
  ·
    obtain ⟨hk0, rfl, hR1, hC1, hF1, rfl⟩ := hq
    refine y_istore_n C dL_sensor_6 (L' := [_, _, _, _, _]) (Nat.lt_of_lt_of_le (by decide : (3 : Nat) < 5) (Nat.le_refl _)) rfl ?_
    refine y_goto (t := 22) C dL_sensor_7 (by decide) ?_
    refine y_iload_n C dL_sensor_22 rfl ?_
    exact w_iret C rfl dL_sensor_23 (Or.inl ⟨hk0, rfl, hR1, hC1⟩)
theorem s_sensor {r : Rw} {R ns nr ne t kp : Nat} {qs : Nat → Rw} (I : Inv r R ns nr ne t (t + 1)) (hk : kp ≤ 4) (u v : Int32) (h : kSW r u v 0 8 = 0) : Xs mL_sensor [.ref 0, .int u, .int v] r kp qs (mSenT r (cN u) v) (r) (kp) (qs) := by
  intro σ τ hRl hRc
  refine Xw_mono (e_L_sensor σ τ hRl hRc hk I u v) (fun v σ1 τ1 q => ?_)
  rcases q with ⟨-, q2, q3, q4⟩ | ⟨q1, -⟩
  · exact ⟨q2, q3, q4⟩
  · exact absurd h q1
theorem n_sensor {r : Rw} {R ns nr ne t kp : Nat} {qs : Nat → Rw} (I : Inv r R ns nr ne t (t + 1)) (hk : kp ≤ 4) (u v : Int32) (h : ¬ kSW r u v 0 8 = 0) : Xs mL_sensor [.ref 0, .int u, .int v] r kp qs (cOA (kSW r u v 0 8)) r kp qs := by
  intro σ τ hRl hRc
  refine Xw_mono (e_L_sensor σ τ hRl hRc hk I u v) (fun v σ1 τ1 q => ?_)
  rcases q with ⟨q1, -⟩ | ⟨-, q2, q3⟩
  · exact absurd q1 h
  · exact ⟨q2, q3 ▸ hRl, q3 ▸ hRc⟩
set_option maxHeartbeats 4000000 in
set_option maxRecDepth 100000 in
theorem e_L_addRule (σ : xS) (τ : xT) {r : Rw} {R ns nr ne t kp : Nat} {qs : Nat → Rw} (hR : Rel σ 1 r) (hC : Rc σ kp qs) (hk : kp ≤ 4) (I : Inv r R ns nr ne t (t + 1)) (k a b c : Int32) : Xw mL_addRule [.ref 0, .int k, .int a, .int b, .int c] σ τ (QP (kARu r k a b c) (r 11) (cOAT (kARu r k a b c)) (mARu r nr k a b c) (kK kp) (kQ kp qs r) σ) := by
  refine Xw_mk (hh := [(0, 11, 14, 21), (0, 11, 20, 15), (0, 11, 26, 50)]) (L := [some (.ref 0), some (.int k), some (.int a), some (.int b), some (.int c), none, none]) (by decide) rfl (Nat.le_of_ble_eq_true rfl) rfl (fun x C0 => ?_)
  have C := C0.1
  refine y_aload_n C dL_addRule_0 rfl ?_
  refine y_iload_n C dL_addRule_1 rfl ?_
  refine y_iload_n C dL_addRule_2 rfl ?_
  refine y_iload_n C dL_addRule_3 rfl ?_
  refine y_iload C dL_addRule_4 rfl ?_
  refine y_callZ C0 (e_X8_addRule _ _ hR hC hk I k a b c) dL_addRule_6 rfl gL_addRule_X8_addRule rfl is_X8 ⟨rfl, qX8_addRule⟩ ⟨rfl, rfl⟩ ⟨Nat.le_of_ble_eq_true rfl, Nat.le_of_ble_eq_true rfl⟩ rfl (Nat.le_of_ble_eq_true rfl) ⟨Nat.le_of_ble_eq_true rfl, Nat.le_of_ble_eq_true rfl⟩ (fun E hE => ?_) (fun v9 σ1 τ1 hq => ?_)
  ·
    rcases hE with ⟨rfl, hk1⟩ | ⟨rfl, hk1⟩ | ⟨rfl, hk1⟩
    · exact ⟨14, ⟨[], ⟨0, 11, 14, 21⟩, [⟨0, 11, 20, 15⟩, ⟨0, 11, 26, 50⟩], rfl, fun z h => absurd h List.not_mem_nil, by decide, by decide, by decide +kernel, by decide, rfl⟩, yh_astore C dL_addRule_14 (L' := [_, _, _, _, _, _, _]) (Nat.lt_of_lt_of_le (by decide : (6 : Nat) < 7) (Nat.le_refl _)) rfl (y_sipush (v := -2053) C dL_addRule_16 (by decide) (w_iret C rfl dL_addRule_19 (Or.inr ⟨fun z => absurd (hk1.symm.trans z) (by decide), by rw [hk1]; rfl, rfl⟩)))⟩
    · exact ⟨20, ⟨[⟨0, 11, 14, 21⟩], ⟨0, 11, 20, 15⟩, [⟨0, 11, 26, 50⟩], rfl, fun z h => by obtain rfl := List.mem_singleton.mp h; exact ⟨by decide, eIO, by decide, by decide, by decide +kernel⟩, by decide, by decide, by decide +kernel, by decide, rfl⟩, yh_astore C dL_addRule_20 (L' := [_, _, _, _, _, _, _]) (Nat.lt_of_lt_of_le (by decide : (6 : Nat) < 7) (Nat.le_refl _)) rfl (y_sipush (v := -2051) C dL_addRule_22 (by decide) (w_iret C rfl dL_addRule_25 (Or.inr ⟨fun z => absurd (hk1.symm.trans z) (by decide), by rw [hk1]; rfl, rfl⟩)))⟩
    · exact ⟨26, ⟨[⟨0, 11, 14, 21⟩, ⟨0, 11, 20, 15⟩], ⟨0, 11, 26, 50⟩, [], rfl, fun z h => by rcases List.mem_cons.mp h with rfl | h; exact ⟨by decide, eIO, by decide, by decide, by decide +kernel⟩; obtain rfl := List.mem_singleton.mp h; exact ⟨by decide, eIA, by decide, by decide, by decide +kernel⟩, by decide, by decide, by decide +kernel, by decide, rfl⟩, yh_astore C dL_addRule_26 (L' := [_, _, _, _, _, _, _]) (Nat.lt_of_lt_of_le (by decide : (6 : Nat) < 7) (Nat.le_refl _)) rfl (y_sipush (v := -2052) C dL_addRule_28 (by decide) (w_iret C rfl dL_addRule_31 (Or.inr ⟨fun z => absurd (hk1.symm.trans z) (by decide), by rw [hk1]; rfl, rfl⟩)))⟩
  ·
    obtain ⟨hk0, rfl, hR1, hC1, hF1, rfl⟩ := hq
    refine y_istore C dL_addRule_9 (L' := [_, _, _, _, _, _, _]) (Nat.lt_of_lt_of_le (by decide : (5 : Nat) < 7) (Nat.le_refl _)) rfl ?_
    refine y_goto (t := 32) C dL_addRule_11 (by decide) ?_
    refine y_iload C dL_addRule_32 rfl ?_
    exact w_iret C rfl dL_addRule_34 (Or.inl ⟨hk0, rfl, hR1, hC1⟩)
theorem s_addRule {r : Rw} {R ns nr ne t kp : Nat} {qs : Nat → Rw} (I : Inv r R ns nr ne t (t + 1)) (hk : kp ≤ 4) (k a b c : Int32) (h : kARu r k a b c = 0) : Xs mL_addRule [.ref 0, .int k, .int a, .int b, .int c] r kp qs (r 11) (mARu r nr k a b c) (kK kp) (kQ kp qs r) := by
  intro σ τ hRl hRc
  refine Xw_mono (e_L_addRule σ τ hRl hRc hk I k a b c) (fun v σ1 τ1 q => ?_)
  rcases q with ⟨-, q2, q3, q4⟩ | ⟨q1, -⟩
  · exact ⟨q2, q3, q4⟩
  · exact absurd h q1
theorem n_addRule {r : Rw} {R ns nr ne t kp : Nat} {qs : Nat → Rw} (I : Inv r R ns nr ne t (t + 1)) (hk : kp ≤ 4) (k a b c : Int32) (h : ¬ kARu r k a b c = 0) : Xs mL_addRule [.ref 0, .int k, .int a, .int b, .int c] r kp qs (cOAT (kARu r k a b c)) r kp qs := by
  intro σ τ hRl hRc
  refine Xw_mono (e_L_addRule σ τ hRl hRc hk I k a b c) (fun v σ1 τ1 q => ?_)
  rcases q with ⟨q1, -⟩ | ⟨-, q2, q3⟩
  · exact absurd q1 h
  · exact ⟨q2, q3 ▸ hRl, q3 ▸ hRc⟩
set_option maxHeartbeats 4000000 in
set_option maxRecDepth 100000 in
theorem e_L_removeRule (σ : xS) (τ : xT) {r : Rw} {R ns nr ne t kp : Nat} {qs : Nat → Rw} (hR : Rel σ 1 r) (hC : Rc σ kp qs) (hk : kp ≤ 4) (I : Inv r R ns nr ne t (t + 1)) (u : Int32) : Xw mL_removeRule [.ref 0, .int u] σ τ (QP (kRem r u) (r 11 - 1) (cO (kRem r u)) (mDro r (cN u) nr) (kK kp) (kQ kp qs r) σ) := by
  refine Xw_mk (hh := [(0, 6, 9, 21)]) (L := [some (.ref 0), some (.int u), none, none]) (by decide) rfl (Nat.le_of_ble_eq_true rfl) rfl (fun x C0 => ?_)
  have C := C0.1
  refine y_aload_n C dL_removeRule_0 rfl ?_
  refine y_iload_n C dL_removeRule_1 rfl ?_
  refine y_callZ C0 (e_X8_removeRule _ _ hR hC hk I u) dL_removeRule_2 rfl gL_removeRule_X8_removeRule rfl is_X8 ⟨rfl, qX8_removeRule⟩ ⟨rfl, rfl⟩ ⟨Nat.le_of_ble_eq_true rfl, Nat.le_of_ble_eq_true rfl⟩ rfl (Nat.le_of_ble_eq_true rfl) ⟨Nat.le_of_ble_eq_true rfl, Nat.le_of_ble_eq_true rfl⟩ (fun E hE => ?_) (fun v9 σ1 τ1 hq => ?_)
  ·
    obtain ⟨rfl, hk1⟩ := hE
    exact ⟨9, ⟨[], ⟨0, 6, 9, 21⟩, [], rfl, fun z h => absurd h List.not_mem_nil, by decide, by decide, by decide +kernel, by decide, rfl⟩, yh_astore_n C dL_removeRule_9 (L' := [_, _, _, _]) (Nat.lt_of_lt_of_le (by decide : (3 : Nat) < 4) (Nat.le_refl _)) rfl (y_sipush (v := -2053) C dL_removeRule_10 (by decide) (w_iret C rfl dL_removeRule_13 (Or.inr ⟨fun z => absurd (hk1.symm.trans z) (by decide), by rw [hk1]; rfl, rfl⟩)))⟩
  ·
    obtain ⟨hk0, rfl, hR1, hC1, hF1, rfl⟩ := hq
    refine y_istore_n C dL_removeRule_5 (L' := [_, _, _, _]) (Nat.lt_of_lt_of_le (by decide : (2 : Nat) < 4) (Nat.le_refl _)) rfl ?_
    refine y_goto (t := 14) C dL_removeRule_6 (by decide) ?_
    refine y_iload_n C dL_removeRule_14 rfl ?_
    exact w_iret C rfl dL_removeRule_15 (Or.inl ⟨hk0, rfl, hR1, hC1⟩)
theorem s_removeRule {r : Rw} {R ns nr ne t kp : Nat} {qs : Nat → Rw} (I : Inv r R ns nr ne t (t + 1)) (hk : kp ≤ 4) (u : Int32) (h : kRem r u = 0) : Xs mL_removeRule [.ref 0, .int u] r kp qs (r 11 - 1) (mDro r (cN u) nr) (kK kp) (kQ kp qs r) := by
  intro σ τ hRl hRc
  refine Xw_mono (e_L_removeRule σ τ hRl hRc hk I u) (fun v σ1 τ1 q => ?_)
  rcases q with ⟨-, q2, q3, q4⟩ | ⟨q1, -⟩
  · exact ⟨q2, q3, q4⟩
  · exact absurd h q1
theorem n_removeRule {r : Rw} {R ns nr ne t kp : Nat} {qs : Nat → Rw} (I : Inv r R ns nr ne t (t + 1)) (hk : kp ≤ 4) (u : Int32) (h : ¬ kRem r u = 0) : Xs mL_removeRule [.ref 0, .int u] r kp qs (cO (kRem r u)) r kp qs := by
  intro σ τ hRl hRc
  refine Xw_mono (e_L_removeRule σ τ hRl hRc hk I u) (fun v σ1 τ1 q => ?_)
  rcases q with ⟨q1, -⟩ | ⟨-, q2, q3⟩
  · exact absurd q1 h
  · exact ⟨q2, q3 ▸ hRl, q3 ▸ hRc⟩
set_option maxHeartbeats 4000000 in
set_option maxRecDepth 100000 in
theorem e_L_addEvent (σ : xS) (τ : xT) {r : Rw} {R ns nr ne t kp : Nat} {qs : Nat → Rw} (hR : Rel σ 1 r) (hC : Rc σ kp qs) (hk : kp ≤ 4) (I : Inv r R ns nr ne t (t + 1)) (m k a b : Int32) : Xw mL_addEvent [.ref 0, .int m, .int k, .int a, .int b] σ τ (QP (kAEv r m k a b) (r 12 + 1) (cAT (kAEv r m k a b)) (mIns r (mPlF r m ne) ne m k a b) (kK kp) (kQ kp qs r) σ) := by
  refine Xw_mk (hh := [(0, 11, 14, 15), (0, 11, 20, 50)]) (L := [some (.ref 0), some (.int m), some (.int k), some (.int a), some (.int b), none, none]) (by decide) rfl (Nat.le_of_ble_eq_true rfl) rfl (fun x C0 => ?_)
  have C := C0.1
  refine y_aload_n C dL_addEvent_0 rfl ?_
  refine y_iload_n C dL_addEvent_1 rfl ?_
  refine y_iload_n C dL_addEvent_2 rfl ?_
  refine y_iload_n C dL_addEvent_3 rfl ?_
  refine y_iload C dL_addEvent_4 rfl ?_
  refine y_callZ C0 (e_X8_addEvent _ _ hR hC hk I m k a b) dL_addEvent_6 rfl gL_addEvent_X8_addEvent rfl is_X8 ⟨rfl, qX8_addEvent⟩ ⟨rfl, rfl⟩ ⟨Nat.le_of_ble_eq_true rfl, Nat.le_of_ble_eq_true rfl⟩ rfl (Nat.le_of_ble_eq_true rfl) ⟨Nat.le_of_ble_eq_true rfl, Nat.le_of_ble_eq_true rfl⟩ (fun E hE => ?_) (fun v9 σ1 τ1 hq => ?_)
  ·
    rcases hE with ⟨rfl, hk1⟩ | ⟨rfl, hk1⟩
    · exact ⟨14, ⟨[], ⟨0, 11, 14, 15⟩, [⟨0, 11, 20, 50⟩], rfl, fun z h => absurd h List.not_mem_nil, by decide, by decide, by decide +kernel, by decide, rfl⟩, yh_astore C dL_addEvent_14 (L' := [_, _, _, _, _, _, _]) (Nat.lt_of_lt_of_le (by decide : (6 : Nat) < 7) (Nat.le_refl _)) rfl (y_sipush (v := -2051) C dL_addEvent_16 (by decide) (w_iret C rfl dL_addEvent_19 (Or.inr ⟨fun z => absurd (hk1.symm.trans z) (by decide), by rw [hk1]; rfl, rfl⟩)))⟩
    · exact ⟨20, ⟨[⟨0, 11, 14, 15⟩], ⟨0, 11, 20, 50⟩, [], rfl, fun z h => by obtain rfl := List.mem_singleton.mp h; exact ⟨by decide, eIA, by decide, by decide, by decide +kernel⟩, by decide, by decide, by decide +kernel, by decide, rfl⟩, yh_astore C dL_addEvent_20 (L' := [_, _, _, _, _, _, _]) (Nat.lt_of_lt_of_le (by decide : (6 : Nat) < 7) (Nat.le_refl _)) rfl (y_sipush (v := -2052) C dL_addEvent_22 (by decide) (w_iret C rfl dL_addEvent_25 (Or.inr ⟨fun z => absurd (hk1.symm.trans z) (by decide), by rw [hk1]; rfl, rfl⟩)))⟩
  ·
    obtain ⟨hk0, rfl, hR1, hC1, hF1, rfl⟩ := hq
    refine y_istore C dL_addEvent_9 (L' := [_, _, _, _, _, _, _]) (Nat.lt_of_lt_of_le (by decide : (5 : Nat) < 7) (Nat.le_refl _)) rfl ?_
    refine y_goto (t := 26) C dL_addEvent_11 (by decide) ?_
    refine y_iload C dL_addEvent_26 rfl ?_
    exact w_iret C rfl dL_addEvent_28 (Or.inl ⟨hk0, rfl, hR1, hC1⟩)
theorem s_addEvent {r : Rw} {R ns nr ne t kp : Nat} {qs : Nat → Rw} (I : Inv r R ns nr ne t (t + 1)) (hk : kp ≤ 4) (m k a b : Int32) (h : kAEv r m k a b = 0) : Xs mL_addEvent [.ref 0, .int m, .int k, .int a, .int b] r kp qs (r 12 + 1) (mIns r (mPlF r m ne) ne m k a b) (kK kp) (kQ kp qs r) := by
  intro σ τ hRl hRc
  refine Xw_mono (e_L_addEvent σ τ hRl hRc hk I m k a b) (fun v σ1 τ1 q => ?_)
  rcases q with ⟨-, q2, q3, q4⟩ | ⟨q1, -⟩
  · exact ⟨q2, q3, q4⟩
  · exact absurd h q1
theorem n_addEvent {r : Rw} {R ns nr ne t kp : Nat} {qs : Nat → Rw} (I : Inv r R ns nr ne t (t + 1)) (hk : kp ≤ 4) (m k a b : Int32) (h : ¬ kAEv r m k a b = 0) : Xs mL_addEvent [.ref 0, .int m, .int k, .int a, .int b] r kp qs (cAT (kAEv r m k a b)) r kp qs := by
  intro σ τ hRl hRc
  refine Xw_mono (e_L_addEvent σ τ hRl hRc hk I m k a b) (fun v σ1 τ1 q => ?_)
  rcases q with ⟨q1, -⟩ | ⟨-, q2, q3⟩
  · exact absurd q1 h
  · exact ⟨q2, q3 ▸ hRl, q3 ▸ hRc⟩
set_option maxHeartbeats 4000000 in
set_option maxRecDepth 100000 in
theorem e_L_event (σ : xS) (τ : xT) {r : Rw} {R ns nr ne t kp : Nat} {qs : Nat → Rw} (hR : Rel σ 1 r) (hC : Rc σ kp qs) (hk : kp ≤ 4) (I : Inv r R ns nr ne t (t + 1)) (u v : Int32) : Xw mL_event [.ref 0, .int u, .int v] σ τ (QP (kW v 0 3) ((if 0 ≤ u ∧ u < r 12 then r (145 + 4 * cN u + cN v) else -1)) (cA (kW v 0 3)) (r) (kp) (qs) σ) := by
  refine Xw_mk (hh := [(0, 7, 10, 15)]) (L := [some (.ref 0), some (.int u), some (.int v), none, none]) (by decide) rfl (Nat.le_of_ble_eq_true rfl) rfl (fun x C0 => ?_)
  have C := C0.1
  refine y_aload_n C dL_event_0 rfl ?_
  refine y_iload_n C dL_event_1 rfl ?_
  refine y_iload_n C dL_event_2 rfl ?_
  refine y_callZ C0 (e_X8_event _ _ hR hC hk I u v) dL_event_3 rfl gL_event_X8_event rfl is_X8 ⟨rfl, qX8_event⟩ ⟨rfl, rfl⟩ ⟨Nat.le_of_ble_eq_true rfl, Nat.le_of_ble_eq_true rfl⟩ rfl (Nat.le_of_ble_eq_true rfl) ⟨Nat.le_of_ble_eq_true rfl, Nat.le_of_ble_eq_true rfl⟩ (fun E hE => ?_) (fun v9 σ1 τ1 hq => ?_)
  ·
    obtain ⟨rfl, hk1⟩ := hE
    exact ⟨10, ⟨[], ⟨0, 7, 10, 15⟩, [], rfl, fun z h => absurd h List.not_mem_nil, by decide, by decide, by decide +kernel, by decide, rfl⟩, yh_astore C dL_event_10 (L' := [_, _, _, _, _]) (Nat.lt_of_lt_of_le (by decide : (4 : Nat) < 5) (Nat.le_refl _)) rfl (y_sipush (v := -2051) C dL_event_12 (by decide) (w_iret C rfl dL_event_15 (Or.inr ⟨fun z => absurd (hk1.symm.trans z) (by decide), by rw [hk1]; rfl, rfl⟩)))⟩
  ·
    obtain ⟨hk0, rfl, hR1, hC1, hF1, rfl⟩ := hq
    refine y_istore_n C dL_event_6 (L' := [_, _, _, _, _]) (Nat.lt_of_lt_of_le (by decide : (3 : Nat) < 5) (Nat.le_refl _)) rfl ?_
    refine y_goto (t := 16) C dL_event_7 (by decide) ?_
    refine y_iload_n C dL_event_16 rfl ?_
    exact w_iret C rfl dL_event_17 (Or.inl ⟨hk0, rfl, hR1, hC1⟩)
theorem s_event {r : Rw} {R ns nr ne t kp : Nat} {qs : Nat → Rw} (I : Inv r R ns nr ne t (t + 1)) (hk : kp ≤ 4) (u v : Int32) (h : kW v 0 3 = 0) : Xs mL_event [.ref 0, .int u, .int v] r kp qs ((if 0 ≤ u ∧ u < r 12 then r (145 + 4 * cN u + cN v) else -1)) (r) (kp) (qs) := by
  intro σ τ hRl hRc
  refine Xw_mono (e_L_event σ τ hRl hRc hk I u v) (fun v σ1 τ1 q => ?_)
  rcases q with ⟨-, q2, q3, q4⟩ | ⟨q1, -⟩
  · exact ⟨q2, q3, q4⟩
  · exact absurd h q1
theorem n_event {r : Rw} {R ns nr ne t kp : Nat} {qs : Nat → Rw} (I : Inv r R ns nr ne t (t + 1)) (hk : kp ≤ 4) (u v : Int32) (h : ¬ kW v 0 3 = 0) : Xs mL_event [.ref 0, .int u, .int v] r kp qs (cA (kW v 0 3)) r kp qs := by
  intro σ τ hRl hRc
  refine Xw_mono (e_L_event σ τ hRl hRc hk I u v) (fun v σ1 τ1 q => ?_)
  rcases q with ⟨q1, -⟩ | ⟨-, q2, q3⟩
  · exact absurd q1 h
  · exact ⟨q2, q3 ▸ hRl, q3 ▸ hRc⟩
set_option maxHeartbeats 4000000 in
set_option maxRecDepth 100000 in
theorem e_L_mute (σ : xS) (τ : xT) {r : Rw} {R ns nr ne t kp : Nat} {qs : Nat → Rw} (hR : Rel σ 1 r) (hC : Rc σ kp qs) (hk : kp ≤ 4) (I : Inv r R ns nr ne t (t + 1)) (u v : Int32) : Xw mL_mute [.ref 0, .int u, .int v] σ τ (QP (kRW r u v 0 60) (r (28 + cN u)) (cOA (kRW r u v 0 60)) (upd r (28 + cN u) v) (kK kp) (kQ kp qs r) σ) := by
  refine Xw_mk (hh := [(0, 7, 10, 21), (0, 7, 16, 15)]) (L := [some (.ref 0), some (.int u), some (.int v), none, none]) (by decide) rfl (Nat.le_of_ble_eq_true rfl) rfl (fun x C0 => ?_)
  have C := C0.1
  refine y_aload_n C dL_mute_0 rfl ?_
  refine y_iload_n C dL_mute_1 rfl ?_
  refine y_iload_n C dL_mute_2 rfl ?_
  refine y_callZ C0 (e_X8_mute _ _ hR hC hk I u v) dL_mute_3 rfl gL_mute_X8_mute rfl is_X8 ⟨rfl, qX8_mute⟩ ⟨rfl, rfl⟩ ⟨Nat.le_of_ble_eq_true rfl, Nat.le_of_ble_eq_true rfl⟩ rfl (Nat.le_of_ble_eq_true rfl) ⟨Nat.le_of_ble_eq_true rfl, Nat.le_of_ble_eq_true rfl⟩ (fun E hE => ?_) (fun v9 σ1 τ1 hq => ?_)
  ·
    rcases hE with ⟨rfl, hk1⟩ | ⟨rfl, hk1⟩
    · exact ⟨10, ⟨[], ⟨0, 7, 10, 21⟩, [⟨0, 7, 16, 15⟩], rfl, fun z h => absurd h List.not_mem_nil, by decide, by decide, by decide +kernel, by decide, rfl⟩, yh_astore C dL_mute_10 (L' := [_, _, _, _, _]) (Nat.lt_of_lt_of_le (by decide : (4 : Nat) < 5) (Nat.le_refl _)) rfl (y_sipush (v := -2053) C dL_mute_12 (by decide) (w_iret C rfl dL_mute_15 (Or.inr ⟨fun z => absurd (hk1.symm.trans z) (by decide), by rw [hk1]; rfl, rfl⟩)))⟩
    · exact ⟨16, ⟨[⟨0, 7, 10, 21⟩], ⟨0, 7, 16, 15⟩, [], rfl, fun z h => by obtain rfl := List.mem_singleton.mp h; exact ⟨by decide, eIO, by decide, by decide, by decide +kernel⟩, by decide, by decide, by decide +kernel, by decide, rfl⟩, yh_astore C dL_mute_16 (L' := [_, _, _, _, _]) (Nat.lt_of_lt_of_le (by decide : (4 : Nat) < 5) (Nat.le_refl _)) rfl (y_sipush (v := -2051) C dL_mute_18 (by decide) (w_iret C rfl dL_mute_21 (Or.inr ⟨fun z => absurd (hk1.symm.trans z) (by decide), by rw [hk1]; rfl, rfl⟩)))⟩
  ·
    obtain ⟨hk0, rfl, hR1, hC1, hF1, rfl⟩ := hq
    refine y_istore_n C dL_mute_6 (L' := [_, _, _, _, _]) (Nat.lt_of_lt_of_le (by decide : (3 : Nat) < 5) (Nat.le_refl _)) rfl ?_
    refine y_goto (t := 22) C dL_mute_7 (by decide) ?_
    refine y_iload_n C dL_mute_22 rfl ?_
    exact w_iret C rfl dL_mute_23 (Or.inl ⟨hk0, rfl, hR1, hC1⟩)
theorem s_mute {r : Rw} {R ns nr ne t kp : Nat} {qs : Nat → Rw} (I : Inv r R ns nr ne t (t + 1)) (hk : kp ≤ 4) (u v : Int32) (h : kRW r u v 0 60 = 0) : Xs mL_mute [.ref 0, .int u, .int v] r kp qs (r (28 + cN u)) (upd r (28 + cN u) v) (kK kp) (kQ kp qs r) := by
  intro σ τ hRl hRc
  refine Xw_mono (e_L_mute σ τ hRl hRc hk I u v) (fun v σ1 τ1 q => ?_)
  rcases q with ⟨-, q2, q3, q4⟩ | ⟨q1, -⟩
  · exact ⟨q2, q3, q4⟩
  · exact absurd h q1
theorem n_mute {r : Rw} {R ns nr ne t kp : Nat} {qs : Nat → Rw} (I : Inv r R ns nr ne t (t + 1)) (hk : kp ≤ 4) (u v : Int32) (h : ¬ kRW r u v 0 60 = 0) : Xs mL_mute [.ref 0, .int u, .int v] r kp qs (cOA (kRW r u v 0 60)) r kp qs := by
  intro σ τ hRl hRc
  refine Xw_mono (e_L_mute σ τ hRl hRc hk I u v) (fun v σ1 τ1 q => ?_)
  rcases q with ⟨q1, -⟩ | ⟨-, q2, q3⟩
  · exact absurd q1 h
  · exact ⟨q2, q3 ▸ hRl, q3 ▸ hRc⟩
set_option maxHeartbeats 4000000 in
set_option maxRecDepth 100000 in
theorem e_L_pass (σ : xS) (τ : xT) {r : Rw} {R ns nr ne t kp : Nat} {qs : Nat → Rw} (hR : Rel σ 1 r) (hC : Rc σ kp qs) (hk : kp ≤ 4) (I : Inv r R ns nr ne t (t + 1)) (hs : Sk r) (ht : t + 200 ≤ 1000000) (u : Int32) : Xw mL_pass [.ref 0, .int u] σ τ (QP (kW u 1 60) (mNewN r (cN u) 0) (cA (kW u 1 60)) (mMinN r (cN u)) (kK kp) (kQ kp qs r) σ) := by
  refine Xw_mk (hh := [(0, 6, 9, 15)]) (L := [some (.ref 0), some (.int u), none, none]) (by decide) rfl (Nat.le_of_ble_eq_true rfl) rfl (fun x C0 => ?_)
  have C := C0.1
  refine y_aload_n C dL_pass_0 rfl ?_
  refine y_iload_n C dL_pass_1 rfl ?_
  refine y_callZ C0 (e_X8_pass _ _ hR hC hk I hs ht u) dL_pass_2 rfl gL_pass_X8_pass rfl is_X8 ⟨rfl, qX8_pass⟩ ⟨rfl, rfl⟩ ⟨Nat.le_of_ble_eq_true rfl, Nat.le_of_ble_eq_true rfl⟩ rfl (Nat.le_of_ble_eq_true rfl) ⟨Nat.le_of_ble_eq_true rfl, Nat.le_of_ble_eq_true rfl⟩ (fun E hE => ?_) (fun v9 σ1 τ1 hq => ?_)
  ·
    obtain ⟨rfl, hk1⟩ := hE
    exact ⟨9, ⟨[], ⟨0, 6, 9, 15⟩, [], rfl, fun z h => absurd h List.not_mem_nil, by decide, by decide, by decide +kernel, by decide, rfl⟩, yh_astore_n C dL_pass_9 (L' := [_, _, _, _]) (Nat.lt_of_lt_of_le (by decide : (3 : Nat) < 4) (Nat.le_refl _)) rfl (y_sipush (v := -2051) C dL_pass_10 (by decide) (w_iret C rfl dL_pass_13 (Or.inr ⟨fun z => absurd (hk1.symm.trans z) (by decide), by rw [hk1]; rfl, rfl⟩)))⟩
  ·
    obtain ⟨hk0, rfl, hR1, hC1, hF1, rfl⟩ := hq
    refine y_istore_n C dL_pass_5 (L' := [_, _, _, _]) (Nat.lt_of_lt_of_le (by decide : (2 : Nat) < 4) (Nat.le_refl _)) rfl ?_
    refine y_goto (t := 14) C dL_pass_6 (by decide) ?_
    refine y_iload_n C dL_pass_14 rfl ?_
    exact w_iret C rfl dL_pass_15 (Or.inl ⟨hk0, rfl, hR1, hC1⟩)
theorem s_pass {r : Rw} {R ns nr ne t kp : Nat} {qs : Nat → Rw} (I : Inv r R ns nr ne t (t + 1)) (hk : kp ≤ 4) (hs : Sk r) (ht : t + 200 ≤ 1000000) (u : Int32) (h : kW u 1 60 = 0) : Xs mL_pass [.ref 0, .int u] r kp qs (mNewN r (cN u) 0) (mMinN r (cN u)) (kK kp) (kQ kp qs r) := by
  intro σ τ hRl hRc
  refine Xw_mono (e_L_pass σ τ hRl hRc hk I hs ht u) (fun v σ1 τ1 q => ?_)
  rcases q with ⟨-, q2, q3, q4⟩ | ⟨q1, -⟩
  · exact ⟨q2, q3, q4⟩
  · exact absurd h q1
theorem n_pass {r : Rw} {R ns nr ne t kp : Nat} {qs : Nat → Rw} (I : Inv r R ns nr ne t (t + 1)) (hk : kp ≤ 4) (hs : Sk r) (ht : t + 200 ≤ 1000000) (u : Int32) (h : ¬ kW u 1 60 = 0) : Xs mL_pass [.ref 0, .int u] r kp qs (cA (kW u 1 60)) r kp qs := by
  intro σ τ hRl hRc
  refine Xw_mono (e_L_pass σ τ hRl hRc hk I hs ht u) (fun v σ1 τ1 q => ?_)
  rcases q with ⟨q1, -⟩ | ⟨-, q2, q3⟩
  · exact absurd q1 h
  · exact ⟨q2, q3 ▸ hRl, q3 ▸ hRc⟩
set_option maxHeartbeats 4000000 in
set_option maxRecDepth 100000 in
theorem e_L_told (σ : xS) (τ : xT) {r : Rw} {R ns nr ne t kp : Nat} {qs : Nat → Rw} (hR : Rel σ 1 r) (hC : Rc σ kp qs) (hk : kp ≤ 4) (I : Inv r R ns nr ne t (t + 1)) (u : Int32) : Xw mL_told [.ref 0, .int u] σ τ (QP (kW u 0 5) (r (13 + cN u)) (cA (kW u 0 5)) (r) (kp) (qs) σ) := by
  refine Xw_mk (hh := [(0, 6, 9, 15)]) (L := [some (.ref 0), some (.int u), none, none]) (by decide) rfl (Nat.le_of_ble_eq_true rfl) rfl (fun x C0 => ?_)
  have C := C0.1
  refine y_aload_n C dL_told_0 rfl ?_
  refine y_iload_n C dL_told_1 rfl ?_
  refine y_callZ C0 (e_X8_told _ _ hR hC hk I u) dL_told_2 rfl gL_told_X8_told rfl is_X8 ⟨rfl, qX8_told⟩ ⟨rfl, rfl⟩ ⟨Nat.le_of_ble_eq_true rfl, Nat.le_of_ble_eq_true rfl⟩ rfl (Nat.le_of_ble_eq_true rfl) ⟨Nat.le_of_ble_eq_true rfl, Nat.le_of_ble_eq_true rfl⟩ (fun E hE => ?_) (fun v9 σ1 τ1 hq => ?_)
  ·
    obtain ⟨rfl, hk1⟩ := hE
    exact ⟨9, ⟨[], ⟨0, 6, 9, 15⟩, [], rfl, fun z h => absurd h List.not_mem_nil, by decide, by decide, by decide +kernel, by decide, rfl⟩, yh_astore_n C dL_told_9 (L' := [_, _, _, _]) (Nat.lt_of_lt_of_le (by decide : (3 : Nat) < 4) (Nat.le_refl _)) rfl (y_sipush (v := -2051) C dL_told_10 (by decide) (w_iret C rfl dL_told_13 (Or.inr ⟨fun z => absurd (hk1.symm.trans z) (by decide), by rw [hk1]; rfl, rfl⟩)))⟩
  ·
    obtain ⟨hk0, rfl, hR1, hC1, hF1, rfl⟩ := hq
    refine y_istore_n C dL_told_5 (L' := [_, _, _, _]) (Nat.lt_of_lt_of_le (by decide : (2 : Nat) < 4) (Nat.le_refl _)) rfl ?_
    refine y_goto (t := 14) C dL_told_6 (by decide) ?_
    refine y_iload_n C dL_told_14 rfl ?_
    exact w_iret C rfl dL_told_15 (Or.inl ⟨hk0, rfl, hR1, hC1⟩)
theorem s_told {r : Rw} {R ns nr ne t kp : Nat} {qs : Nat → Rw} (I : Inv r R ns nr ne t (t + 1)) (hk : kp ≤ 4) (u : Int32) (h : kW u 0 5 = 0) : Xs mL_told [.ref 0, .int u] r kp qs (r (13 + cN u)) (r) (kp) (qs) := by
  intro σ τ hRl hRc
  refine Xw_mono (e_L_told σ τ hRl hRc hk I u) (fun v σ1 τ1 q => ?_)
  rcases q with ⟨-, q2, q3, q4⟩ | ⟨q1, -⟩
  · exact ⟨q2, q3, q4⟩
  · exact absurd h q1
theorem n_told {r : Rw} {R ns nr ne t kp : Nat} {qs : Nat → Rw} (I : Inv r R ns nr ne t (t + 1)) (hk : kp ≤ 4) (u : Int32) (h : ¬ kW u 0 5 = 0) : Xs mL_told [.ref 0, .int u] r kp qs (cA (kW u 0 5)) r kp qs := by
  intro σ τ hRl hRc
  refine Xw_mono (e_L_told σ τ hRl hRc hk I u) (fun v σ1 τ1 q => ?_)
  rcases q with ⟨q1, -⟩ | ⟨-, q2, q3⟩
  · exact absurd q1 h
  · exact ⟨q2, q3 ▸ hRl, q3 ▸ hRc⟩
set_option maxHeartbeats 4000000 in
set_option maxRecDepth 100000 in
theorem e_L_alarmIn (σ : xS) (τ : xT) {r : Rw} {R ns nr ne t kp : Nat} {qs : Nat → Rw} (hR : Rel σ 1 r) (hC : Rc σ kp qs) (hk : kp ≤ 4) (I : Inv r R ns nr ne t (t + 1)) (hs : Sk r) (ht : t + 200 ≤ 1000000) (u v : Int32) : Xw mL_alarmIn [.ref 0, .int u, .int v] σ τ (QP (kRW r u v 1 200) (mAIn r (cN u) (cN v)) (cOA (kRW r u v 1 200)) (r) (kp) (qs) σ) := by
  refine Xw_mk (hh := [(0, 7, 10, 21), (0, 7, 16, 15)]) (L := [some (.ref 0), some (.int u), some (.int v), none, none]) (by decide) rfl (Nat.le_of_ble_eq_true rfl) rfl (fun x C0 => ?_)
  have C := C0.1
  refine y_aload_n C dL_alarmIn_0 rfl ?_
  refine y_iload_n C dL_alarmIn_1 rfl ?_
  refine y_iload_n C dL_alarmIn_2 rfl ?_
  refine y_callZ C0 (e_X8_alarmIn _ _ hR hC hk I hs ht u v) dL_alarmIn_3 rfl gL_alarmIn_X8_alarmIn rfl is_X8 ⟨rfl, qX8_alarmIn⟩ ⟨rfl, rfl⟩ ⟨Nat.le_of_ble_eq_true rfl, Nat.le_of_ble_eq_true rfl⟩ rfl (Nat.le_of_ble_eq_true rfl) ⟨Nat.le_of_ble_eq_true rfl, Nat.le_of_ble_eq_true rfl⟩ (fun E hE => ?_) (fun v9 σ1 τ1 hq => ?_)
  ·
    rcases hE with ⟨rfl, hk1⟩ | ⟨rfl, hk1⟩
    · exact ⟨10, ⟨[], ⟨0, 7, 10, 21⟩, [⟨0, 7, 16, 15⟩], rfl, fun z h => absurd h List.not_mem_nil, by decide, by decide, by decide +kernel, by decide, rfl⟩, yh_astore C dL_alarmIn_10 (L' := [_, _, _, _, _]) (Nat.lt_of_lt_of_le (by decide : (4 : Nat) < 5) (Nat.le_refl _)) rfl (y_sipush (v := -2053) C dL_alarmIn_12 (by decide) (w_iret C rfl dL_alarmIn_15 (Or.inr ⟨fun z => absurd (hk1.symm.trans z) (by decide), by rw [hk1]; rfl, rfl⟩)))⟩
    · exact ⟨16, ⟨[⟨0, 7, 10, 21⟩], ⟨0, 7, 16, 15⟩, [], rfl, fun z h => by obtain rfl := List.mem_singleton.mp h; exact ⟨by decide, eIO, by decide, by decide, by decide +kernel⟩, by decide, by decide, by decide +kernel, by decide, rfl⟩, yh_astore C dL_alarmIn_16 (L' := [_, _, _, _, _]) (Nat.lt_of_lt_of_le (by decide : (4 : Nat) < 5) (Nat.le_refl _)) rfl (y_sipush (v := -2051) C dL_alarmIn_18 (by decide) (w_iret C rfl dL_alarmIn_21 (Or.inr ⟨fun z => absurd (hk1.symm.trans z) (by decide), by rw [hk1]; rfl, rfl⟩)))⟩
  ·
    obtain ⟨hk0, rfl, hR1, hC1, hF1, rfl⟩ := hq
    refine y_istore_n C dL_alarmIn_6 (L' := [_, _, _, _, _]) (Nat.lt_of_lt_of_le (by decide : (3 : Nat) < 5) (Nat.le_refl _)) rfl ?_
    refine y_goto (t := 22) C dL_alarmIn_7 (by decide) ?_
    refine y_iload_n C dL_alarmIn_22 rfl ?_
    exact w_iret C rfl dL_alarmIn_23 (Or.inl ⟨hk0, rfl, hR1, hC1⟩)
theorem s_alarmIn {r : Rw} {R ns nr ne t kp : Nat} {qs : Nat → Rw} (I : Inv r R ns nr ne t (t + 1)) (hk : kp ≤ 4) (hs : Sk r) (ht : t + 200 ≤ 1000000) (u v : Int32) (h : kRW r u v 1 200 = 0) : Xs mL_alarmIn [.ref 0, .int u, .int v] r kp qs (mAIn r (cN u) (cN v)) (r) (kp) (qs) := by
  intro σ τ hRl hRc
  refine Xw_mono (e_L_alarmIn σ τ hRl hRc hk I hs ht u v) (fun v σ1 τ1 q => ?_)
  rcases q with ⟨-, q2, q3, q4⟩ | ⟨q1, -⟩
  · exact ⟨q2, q3, q4⟩
  · exact absurd h q1
theorem n_alarmIn {r : Rw} {R ns nr ne t kp : Nat} {qs : Nat → Rw} (I : Inv r R ns nr ne t (t + 1)) (hk : kp ≤ 4) (hs : Sk r) (ht : t + 200 ≤ 1000000) (u v : Int32) (h : ¬ kRW r u v 1 200 = 0) : Xs mL_alarmIn [.ref 0, .int u, .int v] r kp qs (cOA (kRW r u v 1 200)) r kp qs := by
  intro σ τ hRl hRc
  refine Xw_mono (e_L_alarmIn σ τ hRl hRc hk I hs ht u v) (fun v σ1 τ1 q => ?_)
  rcases q with ⟨q1, -⟩ | ⟨-, q2, q3⟩
  · exact absurd q1 h
  · exact ⟨q2, q3 ▸ hRl, q3 ▸ hRc⟩
set_option maxHeartbeats 4000000 in
set_option maxRecDepth 100000 in
theorem e_L_smokeAfter (σ : xS) (τ : xT) {r : Rw} {R ns nr ne t kp : Nat} {qs : Nat → Rw} (hR : Rel σ 1 r) (hC : Rc σ kp qs) (hk : kp ≤ 4) (I : Inv r R ns nr ne t (t + 1)) (hs : Sk r) (ht : t + 200 ≤ 1000000) (u v : Int32) : Xw mL_smokeAfter [.ref 0, .int u, .int v] σ τ (QP (kRW r u v 1 200) (mMinN r (cN v) (20 + cN u)) (cOA (kRW r u v 1 200)) (r) (kp) (qs) σ) := by
  refine Xw_mk (hh := [(0, 7, 10, 21), (0, 7, 16, 15)]) (L := [some (.ref 0), some (.int u), some (.int v), none, none]) (by decide) rfl (Nat.le_of_ble_eq_true rfl) rfl (fun x C0 => ?_)
  have C := C0.1
  refine y_aload_n C dL_smokeAfter_0 rfl ?_
  refine y_iload_n C dL_smokeAfter_1 rfl ?_
  refine y_iload_n C dL_smokeAfter_2 rfl ?_
  refine y_callZ C0 (e_X8_smokeAfter _ _ hR hC hk I hs ht u v) dL_smokeAfter_3 rfl gL_smokeAfter_X8_smokeAfter rfl is_X8 ⟨rfl, qX8_smokeAfter⟩ ⟨rfl, rfl⟩ ⟨Nat.le_of_ble_eq_true rfl, Nat.le_of_ble_eq_true rfl⟩ rfl (Nat.le_of_ble_eq_true rfl) ⟨Nat.le_of_ble_eq_true rfl, Nat.le_of_ble_eq_true rfl⟩ (fun E hE => ?_) (fun v9 σ1 τ1 hq => ?_)
  ·
    rcases hE with ⟨rfl, hk1⟩ | ⟨rfl, hk1⟩
    · exact ⟨10, ⟨[], ⟨0, 7, 10, 21⟩, [⟨0, 7, 16, 15⟩], rfl, fun z h => absurd h List.not_mem_nil, by decide, by decide, by decide +kernel, by decide, rfl⟩, yh_astore C dL_smokeAfter_10 (L' := [_, _, _, _, _]) (Nat.lt_of_lt_of_le (by decide : (4 : Nat) < 5) (Nat.le_refl _)) rfl (y_sipush (v := -2053) C dL_smokeAfter_12 (by decide) (w_iret C rfl dL_smokeAfter_15 (Or.inr ⟨fun z => absurd (hk1.symm.trans z) (by decide), by rw [hk1]; rfl, rfl⟩)))⟩
    · exact ⟨16, ⟨[⟨0, 7, 10, 21⟩], ⟨0, 7, 16, 15⟩, [], rfl, fun z h => by obtain rfl := List.mem_singleton.mp h; exact ⟨by decide, eIO, by decide, by decide, by decide +kernel⟩, by decide, by decide, by decide +kernel, by decide, rfl⟩, yh_astore C dL_smokeAfter_16 (L' := [_, _, _, _, _]) (Nat.lt_of_lt_of_le (by decide : (4 : Nat) < 5) (Nat.le_refl _)) rfl (y_sipush (v := -2051) C dL_smokeAfter_18 (by decide) (w_iret C rfl dL_smokeAfter_21 (Or.inr ⟨fun z => absurd (hk1.symm.trans z) (by decide), by rw [hk1]; rfl, rfl⟩)))⟩
  ·
    obtain ⟨hk0, rfl, hR1, hC1, hF1, rfl⟩ := hq
    refine y_istore_n C dL_smokeAfter_6 (L' := [_, _, _, _, _]) (Nat.lt_of_lt_of_le (by decide : (3 : Nat) < 5) (Nat.le_refl _)) rfl ?_
    refine y_goto (t := 22) C dL_smokeAfter_7 (by decide) ?_
    refine y_iload_n C dL_smokeAfter_22 rfl ?_
    exact w_iret C rfl dL_smokeAfter_23 (Or.inl ⟨hk0, rfl, hR1, hC1⟩)
theorem s_smokeAfter {r : Rw} {R ns nr ne t kp : Nat} {qs : Nat → Rw} (I : Inv r R ns nr ne t (t + 1)) (hk : kp ≤ 4) (hs : Sk r) (ht : t + 200 ≤ 1000000) (u v : Int32) (h : kRW r u v 1 200 = 0) : Xs mL_smokeAfter [.ref 0, .int u, .int v] r kp qs (mMinN r (cN v) (20 + cN u)) (r) (kp) (qs) := by
  intro σ τ hRl hRc
  refine Xw_mono (e_L_smokeAfter σ τ hRl hRc hk I hs ht u v) (fun v σ1 τ1 q => ?_)
  rcases q with ⟨-, q2, q3, q4⟩ | ⟨q1, -⟩
  · exact ⟨q2, q3, q4⟩
  · exact absurd h q1
theorem n_smokeAfter {r : Rw} {R ns nr ne t kp : Nat} {qs : Nat → Rw} (I : Inv r R ns nr ne t (t + 1)) (hk : kp ≤ 4) (hs : Sk r) (ht : t + 200 ≤ 1000000) (u v : Int32) (h : ¬ kRW r u v 1 200 = 0) : Xs mL_smokeAfter [.ref 0, .int u, .int v] r kp qs (cOA (kRW r u v 1 200)) r kp qs := by
  intro σ τ hRl hRc
  refine Xw_mono (e_L_smokeAfter σ τ hRl hRc hk I hs ht u v) (fun v σ1 τ1 q => ?_)
  rcases q with ⟨q1, -⟩ | ⟨-, q2, q3⟩
  · exact absurd q1 h
  · exact ⟨q2, q3 ▸ hRl, q3 ▸ hRc⟩
set_option maxHeartbeats 4000000 in
set_option maxRecDepth 100000 in
theorem e_L_peak (σ : xS) (τ : xT) {r : Rw} {R ns nr ne t kp : Nat} {qs : Nat → Rw} (hR : Rel σ 1 r) (hC : Rc σ kp qs) (hk : kp ≤ 4) (I : Inv r R ns nr ne t (t + 1)) (hs : Sk r) (ht : t + 200 ≤ 1000000) (u o v : Int32) : Xw mL_peak [.ref 0, .int u, .int o, .int v] σ τ (QP (kPeak r u o v) (mPk r (cN u) o (cN v)) (cOA (kPeak r u o v)) (r) (kp) (qs) σ) := by
  refine Xw_mk (hh := [(0, 9, 12, 21), (0, 9, 18, 15)]) (L := [some (.ref 0), some (.int u), some (.int o), some (.int v), none, none]) (by decide) rfl (Nat.le_of_ble_eq_true rfl) rfl (fun x C0 => ?_)
  have C := C0.1
  refine y_aload_n C dL_peak_0 rfl ?_
  refine y_iload_n C dL_peak_1 rfl ?_
  refine y_iload_n C dL_peak_2 rfl ?_
  refine y_iload_n C dL_peak_3 rfl ?_
  refine y_callZ C0 (e_X8_peak _ _ hR hC hk I hs ht u o v) dL_peak_4 rfl gL_peak_X8_peak rfl is_X8 ⟨rfl, qX8_peak⟩ ⟨rfl, rfl⟩ ⟨Nat.le_of_ble_eq_true rfl, Nat.le_of_ble_eq_true rfl⟩ rfl (Nat.le_of_ble_eq_true rfl) ⟨Nat.le_of_ble_eq_true rfl, Nat.le_of_ble_eq_true rfl⟩ (fun E hE => ?_) (fun v9 σ1 τ1 hq => ?_)
  ·
    rcases hE with ⟨rfl, hk1⟩ | ⟨rfl, hk1⟩
    · exact ⟨12, ⟨[], ⟨0, 9, 12, 21⟩, [⟨0, 9, 18, 15⟩], rfl, fun z h => absurd h List.not_mem_nil, by decide, by decide, by decide +kernel, by decide, rfl⟩, yh_astore C dL_peak_12 (L' := [_, _, _, _, _, _]) (Nat.lt_of_lt_of_le (by decide : (5 : Nat) < 6) (Nat.le_refl _)) rfl (y_sipush (v := -2053) C dL_peak_14 (by decide) (w_iret C rfl dL_peak_17 (Or.inr ⟨fun z => absurd (hk1.symm.trans z) (by decide), by rw [hk1]; rfl, rfl⟩)))⟩
    · exact ⟨18, ⟨[⟨0, 9, 12, 21⟩], ⟨0, 9, 18, 15⟩, [], rfl, fun z h => by obtain rfl := List.mem_singleton.mp h; exact ⟨by decide, eIO, by decide, by decide, by decide +kernel⟩, by decide, by decide, by decide +kernel, by decide, rfl⟩, yh_astore C dL_peak_18 (L' := [_, _, _, _, _, _]) (Nat.lt_of_lt_of_le (by decide : (5 : Nat) < 6) (Nat.le_refl _)) rfl (y_sipush (v := -2051) C dL_peak_20 (by decide) (w_iret C rfl dL_peak_23 (Or.inr ⟨fun z => absurd (hk1.symm.trans z) (by decide), by rw [hk1]; rfl, rfl⟩)))⟩
  ·
    obtain ⟨hk0, rfl, hR1, hC1, hF1, rfl⟩ := hq
    refine y_istore C dL_peak_7 (L' := [_, _, _, _, _, _]) (Nat.lt_of_lt_of_le (by decide : (4 : Nat) < 6) (Nat.le_refl _)) rfl ?_
    refine y_goto (t := 24) C dL_peak_9 (by decide) ?_
    refine y_iload C dL_peak_24 rfl ?_
    exact w_iret C rfl dL_peak_26 (Or.inl ⟨hk0, rfl, hR1, hC1⟩)
theorem s_peak {r : Rw} {R ns nr ne t kp : Nat} {qs : Nat → Rw} (I : Inv r R ns nr ne t (t + 1)) (hk : kp ≤ 4) (hs : Sk r) (ht : t + 200 ≤ 1000000) (u o v : Int32) (h : kPeak r u o v = 0) : Xs mL_peak [.ref 0, .int u, .int o, .int v] r kp qs (mPk r (cN u) o (cN v)) (r) (kp) (qs) := by
  intro σ τ hRl hRc
  refine Xw_mono (e_L_peak σ τ hRl hRc hk I hs ht u o v) (fun v σ1 τ1 q => ?_)
  rcases q with ⟨-, q2, q3, q4⟩ | ⟨q1, -⟩
  · exact ⟨q2, q3, q4⟩
  · exact absurd h q1
theorem n_peak {r : Rw} {R ns nr ne t kp : Nat} {qs : Nat → Rw} (I : Inv r R ns nr ne t (t + 1)) (hk : kp ≤ 4) (hs : Sk r) (ht : t + 200 ≤ 1000000) (u o v : Int32) (h : ¬ kPeak r u o v = 0) : Xs mL_peak [.ref 0, .int u, .int o, .int v] r kp qs (cOA (kPeak r u o v)) r kp qs := by
  intro σ τ hRl hRc
  refine Xw_mono (e_L_peak σ τ hRl hRc hk I hs ht u o v) (fun v σ1 τ1 q => ?_)
  rcases q with ⟨q1, -⟩ | ⟨-, q2, q3⟩
  · exact absurd q1 h
  · exact ⟨q2, q3 ▸ hRl, q3 ▸ hRc⟩
set_option maxHeartbeats 4000000 in
set_option maxRecDepth 100000 in
theorem e_L_bestOpening (σ : xS) (τ : xT) {r : Rw} {R ns nr ne t kp : Nat} {qs : Nat → Rw} (hR : Rel σ 1 r) (hC : Rc σ kp qs) (hk : kp ≤ 4) (I : Inv r R ns nr ne t (t + 1)) (hs : Sk r) (ht : t + 200 ≤ 1000000) (u : Int32) : Xw mL_bestOpening [.ref 0, .int u] σ τ (QP (kW u 1 200) (nI (mBe r (cN u) 8)) (cA (kW u 1 200)) (r) (kp) (qs) σ) := by
  refine Xw_mk (hh := [(0, 6, 9, 15)]) (L := [some (.ref 0), some (.int u), none, none]) (by decide) rfl (Nat.le_of_ble_eq_true rfl) rfl (fun x C0 => ?_)
  have C := C0.1
  refine y_aload_n C dL_bestOpening_0 rfl ?_
  refine y_iload_n C dL_bestOpening_1 rfl ?_
  refine y_callZ C0 (e_X8_bestOpening _ _ hR hC hk I hs ht u) dL_bestOpening_2 rfl gL_bestOpening_X8_bestOpening rfl is_X8 ⟨rfl, qX8_bestOpening⟩ ⟨rfl, rfl⟩ ⟨Nat.le_of_ble_eq_true rfl, Nat.le_of_ble_eq_true rfl⟩ rfl (Nat.le_of_ble_eq_true rfl) ⟨Nat.le_of_ble_eq_true rfl, Nat.le_of_ble_eq_true rfl⟩ (fun E hE => ?_) (fun v9 σ1 τ1 hq => ?_)
  ·
    obtain ⟨rfl, hk1⟩ := hE
    exact ⟨9, ⟨[], ⟨0, 6, 9, 15⟩, [], rfl, fun z h => absurd h List.not_mem_nil, by decide, by decide, by decide +kernel, by decide, rfl⟩, yh_astore_n C dL_bestOpening_9 (L' := [_, _, _, _]) (Nat.lt_of_lt_of_le (by decide : (3 : Nat) < 4) (Nat.le_refl _)) rfl (y_sipush (v := -2051) C dL_bestOpening_10 (by decide) (w_iret C rfl dL_bestOpening_13 (Or.inr ⟨fun z => absurd (hk1.symm.trans z) (by decide), by rw [hk1]; rfl, rfl⟩)))⟩
  ·
    obtain ⟨hk0, rfl, hR1, hC1, hF1, rfl⟩ := hq
    refine y_istore_n C dL_bestOpening_5 (L' := [_, _, _, _]) (Nat.lt_of_lt_of_le (by decide : (2 : Nat) < 4) (Nat.le_refl _)) rfl ?_
    refine y_goto (t := 14) C dL_bestOpening_6 (by decide) ?_
    refine y_iload_n C dL_bestOpening_14 rfl ?_
    exact w_iret C rfl dL_bestOpening_15 (Or.inl ⟨hk0, rfl, hR1, hC1⟩)
theorem s_bestOpening {r : Rw} {R ns nr ne t kp : Nat} {qs : Nat → Rw} (I : Inv r R ns nr ne t (t + 1)) (hk : kp ≤ 4) (hs : Sk r) (ht : t + 200 ≤ 1000000) (u : Int32) (h : kW u 1 200 = 0) : Xs mL_bestOpening [.ref 0, .int u] r kp qs (nI (mBe r (cN u) 8)) (r) (kp) (qs) := by
  intro σ τ hRl hRc
  refine Xw_mono (e_L_bestOpening σ τ hRl hRc hk I hs ht u) (fun v σ1 τ1 q => ?_)
  rcases q with ⟨-, q2, q3, q4⟩ | ⟨q1, -⟩
  · exact ⟨q2, q3, q4⟩
  · exact absurd h q1
theorem n_bestOpening {r : Rw} {R ns nr ne t kp : Nat} {qs : Nat → Rw} (I : Inv r R ns nr ne t (t + 1)) (hk : kp ≤ 4) (hs : Sk r) (ht : t + 200 ≤ 1000000) (u : Int32) (h : ¬ kW u 1 200 = 0) : Xs mL_bestOpening [.ref 0, .int u] r kp qs (cA (kW u 1 200)) r kp qs := by
  intro σ τ hRl hRc
  refine Xw_mono (e_L_bestOpening σ τ hRl hRc hk I hs ht u) (fun v σ1 τ1 q => ?_)
  rcases q with ⟨q1, -⟩ | ⟨-, q2, q3⟩
  · exact absurd q1 h
  · exact ⟨q2, q3 ▸ hRl, q3 ▸ hRc⟩
set_option maxHeartbeats 4000000 in
set_option maxRecDepth 100000 in
theorem e_L_neededSensors (σ : xS) (τ : xT) {r : Rw} {R ns nr ne t kp : Nat} {qs : Nat → Rw} (hR : Rel σ 1 r) (hC : Rc σ kp qs) (hk : kp ≤ 4) (I : Inv r R ns nr ne t (t + 1)) (hs : Sk r) (ht : t + 200 ≤ 1000000) (u v : Int32) : Xw mL_neededSensors [.ref 0, .int u, .int v] σ τ (QP (kRW r u v 1 200) (mNee r (cN u) (cN v) ns) (cOA (kRW r u v 1 200)) (r) (kp) (qs) σ) := by
  refine Xw_mk (hh := [(0, 7, 10, 21), (0, 7, 16, 15)]) (L := [some (.ref 0), some (.int u), some (.int v), none, none]) (by decide) rfl (Nat.le_of_ble_eq_true rfl) rfl (fun x C0 => ?_)
  have C := C0.1
  refine y_aload_n C dL_neededSensors_0 rfl ?_
  refine y_iload_n C dL_neededSensors_1 rfl ?_
  refine y_iload_n C dL_neededSensors_2 rfl ?_
  refine y_callZ C0 (e_X8_neededSensors _ _ hR hC hk I hs ht u v) dL_neededSensors_3 rfl gL_neededSensors_X8_neededSensors rfl is_X8 ⟨rfl, qX8_neededSensors⟩ ⟨rfl, rfl⟩ ⟨Nat.le_of_ble_eq_true rfl, Nat.le_of_ble_eq_true rfl⟩ rfl (Nat.le_of_ble_eq_true rfl) ⟨Nat.le_of_ble_eq_true rfl, Nat.le_of_ble_eq_true rfl⟩ (fun E hE => ?_) (fun v9 σ1 τ1 hq => ?_)
  ·
    rcases hE with ⟨rfl, hk1⟩ | ⟨rfl, hk1⟩
    · exact ⟨10, ⟨[], ⟨0, 7, 10, 21⟩, [⟨0, 7, 16, 15⟩], rfl, fun z h => absurd h List.not_mem_nil, by decide, by decide, by decide +kernel, by decide, rfl⟩, yh_astore C dL_neededSensors_10 (L' := [_, _, _, _, _]) (Nat.lt_of_lt_of_le (by decide : (4 : Nat) < 5) (Nat.le_refl _)) rfl (y_sipush (v := -2053) C dL_neededSensors_12 (by decide) (w_iret C rfl dL_neededSensors_15 (Or.inr ⟨fun z => absurd (hk1.symm.trans z) (by decide), by rw [hk1]; rfl, rfl⟩)))⟩
    · exact ⟨16, ⟨[⟨0, 7, 10, 21⟩], ⟨0, 7, 16, 15⟩, [], rfl, fun z h => by obtain rfl := List.mem_singleton.mp h; exact ⟨by decide, eIO, by decide, by decide, by decide +kernel⟩, by decide, by decide, by decide +kernel, by decide, rfl⟩, yh_astore C dL_neededSensors_16 (L' := [_, _, _, _, _]) (Nat.lt_of_lt_of_le (by decide : (4 : Nat) < 5) (Nat.le_refl _)) rfl (y_sipush (v := -2051) C dL_neededSensors_18 (by decide) (w_iret C rfl dL_neededSensors_21 (Or.inr ⟨fun z => absurd (hk1.symm.trans z) (by decide), by rw [hk1]; rfl, rfl⟩)))⟩
  ·
    obtain ⟨hk0, rfl, hR1, hC1, hF1, rfl⟩ := hq
    refine y_istore_n C dL_neededSensors_6 (L' := [_, _, _, _, _]) (Nat.lt_of_lt_of_le (by decide : (3 : Nat) < 5) (Nat.le_refl _)) rfl ?_
    refine y_goto (t := 22) C dL_neededSensors_7 (by decide) ?_
    refine y_iload_n C dL_neededSensors_22 rfl ?_
    exact w_iret C rfl dL_neededSensors_23 (Or.inl ⟨hk0, rfl, hR1, hC1⟩)
theorem s_neededSensors {r : Rw} {R ns nr ne t kp : Nat} {qs : Nat → Rw} (I : Inv r R ns nr ne t (t + 1)) (hk : kp ≤ 4) (hs : Sk r) (ht : t + 200 ≤ 1000000) (u v : Int32) (h : kRW r u v 1 200 = 0) : Xs mL_neededSensors [.ref 0, .int u, .int v] r kp qs (mNee r (cN u) (cN v) ns) (r) (kp) (qs) := by
  intro σ τ hRl hRc
  refine Xw_mono (e_L_neededSensors σ τ hRl hRc hk I hs ht u v) (fun v σ1 τ1 q => ?_)
  rcases q with ⟨-, q2, q3, q4⟩ | ⟨q1, -⟩
  · exact ⟨q2, q3, q4⟩
  · exact absurd h q1
theorem n_neededSensors {r : Rw} {R ns nr ne t kp : Nat} {qs : Nat → Rw} (I : Inv r R ns nr ne t (t + 1)) (hk : kp ≤ 4) (hs : Sk r) (ht : t + 200 ≤ 1000000) (u v : Int32) (h : ¬ kRW r u v 1 200 = 0) : Xs mL_neededSensors [.ref 0, .int u, .int v] r kp qs (cOA (kRW r u v 1 200)) r kp qs := by
  intro σ τ hRl hRc
  refine Xw_mono (e_L_neededSensors σ τ hRl hRc hk I hs ht u v) (fun v σ1 τ1 q => ?_)
  rcases q with ⟨q1, -⟩ | ⟨-, q2, q3⟩
  · exact absurd q1 h
  · exact ⟨q2, q3 ▸ hRl, q3 ▸ hRc⟩
set_option maxHeartbeats 4000000 in
set_option maxRecDepth 100000 in
theorem e_L_burnsFor (σ : xS) (τ : xT) {r : Rw} {R ns nr ne t kp : Nat} {qs : Nat → Rw} (hR : Rel σ 1 r) (hC : Rc σ kp qs) (hk : kp ≤ 4) (I : Inv r R ns nr ne t (t + 1)) (hs : Sk r) (ht : t + 200 ≤ 1000000) (u : Int32) : Xw mL_burnsFor [.ref 0, .int u] σ τ (QP (kW u 1 200) (mBFo r (cN u)) (cA (kW u 1 200)) (r) (kp) (qs) σ) := by
  refine Xw_mk (hh := [(0, 6, 9, 15)]) (L := [some (.ref 0), some (.int u), none, none]) (by decide) rfl (Nat.le_of_ble_eq_true rfl) rfl (fun x C0 => ?_)
  have C := C0.1
  refine y_aload_n C dL_burnsFor_0 rfl ?_
  refine y_iload_n C dL_burnsFor_1 rfl ?_
  refine y_callZ C0 (e_X8_burnsFor _ _ hR hC hk I hs ht u) dL_burnsFor_2 rfl gL_burnsFor_X8_burnsFor rfl is_X8 ⟨rfl, qX8_burnsFor⟩ ⟨rfl, rfl⟩ ⟨Nat.le_of_ble_eq_true rfl, Nat.le_of_ble_eq_true rfl⟩ rfl (Nat.le_of_ble_eq_true rfl) ⟨Nat.le_of_ble_eq_true rfl, Nat.le_of_ble_eq_true rfl⟩ (fun E hE => ?_) (fun v9 σ1 τ1 hq => ?_)
  ·
    obtain ⟨rfl, hk1⟩ := hE
    exact ⟨9, ⟨[], ⟨0, 6, 9, 15⟩, [], rfl, fun z h => absurd h List.not_mem_nil, by decide, by decide, by decide +kernel, by decide, rfl⟩, yh_astore_n C dL_burnsFor_9 (L' := [_, _, _, _]) (Nat.lt_of_lt_of_le (by decide : (3 : Nat) < 4) (Nat.le_refl _)) rfl (y_sipush (v := -2051) C dL_burnsFor_10 (by decide) (w_iret C rfl dL_burnsFor_13 (Or.inr ⟨fun z => absurd (hk1.symm.trans z) (by decide), by rw [hk1]; rfl, rfl⟩)))⟩
  ·
    obtain ⟨hk0, rfl, hR1, hC1, hF1, rfl⟩ := hq
    refine y_istore_n C dL_burnsFor_5 (L' := [_, _, _, _]) (Nat.lt_of_lt_of_le (by decide : (2 : Nat) < 4) (Nat.le_refl _)) rfl ?_
    refine y_goto (t := 14) C dL_burnsFor_6 (by decide) ?_
    refine y_iload_n C dL_burnsFor_14 rfl ?_
    exact w_iret C rfl dL_burnsFor_15 (Or.inl ⟨hk0, rfl, hR1, hC1⟩)
theorem s_burnsFor {r : Rw} {R ns nr ne t kp : Nat} {qs : Nat → Rw} (I : Inv r R ns nr ne t (t + 1)) (hk : kp ≤ 4) (hs : Sk r) (ht : t + 200 ≤ 1000000) (u : Int32) (h : kW u 1 200 = 0) : Xs mL_burnsFor [.ref 0, .int u] r kp qs (mBFo r (cN u)) (r) (kp) (qs) := by
  intro σ τ hRl hRc
  refine Xw_mono (e_L_burnsFor σ τ hRl hRc hk I hs ht u) (fun v σ1 τ1 q => ?_)
  rcases q with ⟨-, q2, q3, q4⟩ | ⟨q1, -⟩
  · exact ⟨q2, q3, q4⟩
  · exact absurd h q1
theorem n_burnsFor {r : Rw} {R ns nr ne t kp : Nat} {qs : Nat → Rw} (I : Inv r R ns nr ne t (t + 1)) (hk : kp ≤ 4) (hs : Sk r) (ht : t + 200 ≤ 1000000) (u : Int32) (h : ¬ kW u 1 200 = 0) : Xs mL_burnsFor [.ref 0, .int u] r kp qs (cA (kW u 1 200)) r kp qs := by
  intro σ τ hRl hRc
  refine Xw_mono (e_L_burnsFor σ τ hRl hRc hk I hs ht u) (fun v σ1 τ1 q => ?_)
  rcases q with ⟨q1, -⟩ | ⟨-, q2, q3⟩
  · exact absurd q1 h
  · exact ⟨q2, q3 ▸ hRl, q3 ▸ hRc⟩
set_option maxHeartbeats 4000000 in
set_option maxRecDepth 100000 in
theorem e_L_undo (σ : xS) (τ : xT) {r : Rw} {R ns nr ne t kp : Nat} {qs : Nat → Rw} (hR : Rel σ 1 r) (hC : Rc σ kp qs) (hk : kp ≤ 4) (I : Inv r R ns nr ne t (t + 1)) (h3 : ∀ j, j < kp → qs j 3 = 0 ∨ qs j 3 = 1) : Xw mL_undo [.ref 0] σ τ (QP (kUnd kp) (nI (kp - 1)) (cT (kUnd kp)) (qs (kp - 1)) (kp - 1) (qs) σ) := by
  refine Xw_mk (hh := [(0, 5, 8, 50)]) (L := [some (.ref 0), none, none]) (by decide) rfl (Nat.le_of_ble_eq_true rfl) rfl (fun x C0 => ?_)
  have C := C0.1
  refine y_aload_n C dL_undo_0 rfl ?_
  refine y_callZ C0 (e_X8_undo _ _ hR hC hk I h3) dL_undo_1 rfl gL_undo_X8_undo rfl is_X8 ⟨rfl, qX8_undo⟩ ⟨rfl, rfl⟩ ⟨Nat.le_of_ble_eq_true rfl, Nat.le_of_ble_eq_true rfl⟩ rfl (Nat.le_of_ble_eq_true rfl) ⟨Nat.le_of_ble_eq_true rfl, Nat.le_of_ble_eq_true rfl⟩ (fun E hE => ?_) (fun v9 σ1 τ1 hq => ?_)
  ·
    obtain ⟨rfl, hk1⟩ := hE
    exact ⟨8, ⟨[], ⟨0, 5, 8, 50⟩, [], rfl, fun z h => absurd h List.not_mem_nil, by decide, by decide, by decide +kernel, by decide, rfl⟩, yh_astore_n C dL_undo_8 (L' := [_, _, _]) (Nat.lt_of_lt_of_le (by decide : (2 : Nat) < 3) (Nat.le_refl _)) rfl (y_sipush (v := -2052) C dL_undo_9 (by decide) (w_iret C rfl dL_undo_12 (Or.inr ⟨fun z => absurd (hk1.symm.trans z) (by decide), by rw [hk1]; rfl, rfl⟩)))⟩
  ·
    obtain ⟨hk0, rfl, hR1, hC1, hF1, rfl⟩ := hq
    refine y_istore_n C dL_undo_4 (L' := [_, _, _]) (Nat.lt_of_lt_of_le (by decide : (1 : Nat) < 3) (Nat.le_refl _)) rfl ?_
    refine y_goto (t := 13) C dL_undo_5 (by decide) ?_
    refine y_iload_n C dL_undo_13 rfl ?_
    exact w_iret C rfl dL_undo_14 (Or.inl ⟨hk0, rfl, hR1, hC1⟩)
theorem s_undo {r : Rw} {R ns nr ne t kp : Nat} {qs : Nat → Rw} (I : Inv r R ns nr ne t (t + 1)) (hk : kp ≤ 4) (h3 : ∀ j, j < kp → qs j 3 = 0 ∨ qs j 3 = 1) (h : kUnd kp = 0) : Xs mL_undo [.ref 0] r kp qs (nI (kp - 1)) (qs (kp - 1)) (kp - 1) (qs) := by
  intro σ τ hRl hRc
  refine Xw_mono (e_L_undo σ τ hRl hRc hk I h3) (fun v σ1 τ1 q => ?_)
  rcases q with ⟨-, q2, q3, q4⟩ | ⟨q1, -⟩
  · exact ⟨q2, q3, q4⟩
  · exact absurd h q1
theorem n_undo {r : Rw} {R ns nr ne t kp : Nat} {qs : Nat → Rw} (I : Inv r R ns nr ne t (t + 1)) (hk : kp ≤ 4) (h3 : ∀ j, j < kp → qs j 3 = 0 ∨ qs j 3 = 1) (h : ¬ kUnd kp = 0) : Xs mL_undo [.ref 0] r kp qs (cT (kUnd kp)) r kp qs := by
  intro σ τ hRl hRc
  refine Xw_mono (e_L_undo σ τ hRl hRc hk I h3) (fun v σ1 τ1 q => ?_)
  rcases q with ⟨q1, -⟩ | ⟨-, q2, q3⟩
  · exact absurd q1 h
  · exact ⟨q2, q3 ▸ hRl, q3 ▸ hRc⟩
