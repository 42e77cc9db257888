abbrev mL_begin : xM := (yL_begin, cL_begin, 4, (some .int), wsL_begin, { frames := 7, cells := 1, slots := 6, locals := 147 })
theorem qL_begin : yL_begin.cls ≠ "java/lang/invoke/MethodHandle" ∧ yL_begin.cls ≠ "java/lang/invoke/VarHandle" ∧ (parseMethodDescriptor yL_begin.desc).map (fun d => d.parameters.length) = some 3 := by decide +kernel
abbrev mL_setDoor : xM := (yL_setDoor, cL_setDoor, 6, (some .int), wsL_setDoor, { frames := 7, cells := 1, slots := 6, locals := 149 })
theorem qL_setDoor : yL_setDoor.cls ≠ "java/lang/invoke/MethodHandle" ∧ yL_setDoor.cls ≠ "java/lang/invoke/VarHandle" ∧ (parseMethodDescriptor yL_setDoor.desc).map (fun d => d.parameters.length) = some 5 := by decide +kernel
abbrev mL_isOpen : xM := (yL_isOpen, cL_isOpen, 5, (some .int), wsL_isOpen, { frames := 7, cells := 1, slots := 6, locals := 104 })
theorem qL_isOpen : yL_isOpen.cls ≠ "java/lang/invoke/MethodHandle" ∧ yL_isOpen.cls ≠ "java/lang/invoke/VarHandle" ∧ (parseMethodDescriptor yL_isOpen.desc).map (fun d => d.parameters.length) = some 4 := by decide +kernel
abbrev mL_addFuel : xM := (yL_addFuel, cL_addFuel, 4, (some .int), wsL_addFuel, { frames := 7, cells := 1, slots := 6, locals := 146 })
theorem qL_addFuel : yL_addFuel.cls ≠ "java/lang/invoke/MethodHandle" ∧ yL_addFuel.cls ≠ "java/lang/invoke/VarHandle" ∧ (parseMethodDescriptor yL_addFuel.desc).map (fun d => d.parameters.length) = some 3 := by decide +kernel
abbrev mL_setTarget : xM := (yL_setTarget, cL_setTarget, 4, (some .int), wsL_setTarget, { frames := 7, cells := 1, slots := 6, locals := 147 })
theorem qL_setTarget : yL_setTarget.cls ≠ "java/lang/invoke/MethodHandle" ∧ yL_setTarget.cls ≠ "java/lang/invoke/VarHandle" ∧ (parseMethodDescriptor yL_setTarget.desc).map (fun d => d.parameters.length) = some 3 := by decide +kernel
abbrev mL_set : xM := (yL_set, cL_set, 5, (some .int), wsL_set, { frames := 7, cells := 1, slots := 6, locals := 148 })
theorem qL_set : yL_set.cls ≠ "java/lang/invoke/MethodHandle" ∧ yL_set.cls ≠ "java/lang/invoke/VarHandle" ∧ (parseMethodDescriptor yL_set.desc).map (fun d => d.parameters.length) = some 4 := by decide +kernel
abbrev mL_setSmoke : xM := (yL_setSmoke, cL_setSmoke, 5, (some .int), wsL_setSmoke, { frames := 7, cells := 1, slots := 6, locals := 148 })
theorem qL_setSmoke : yL_setSmoke.cls ≠ "java/lang/invoke/MethodHandle" ∧ yL_setSmoke.cls ≠ "java/lang/invoke/VarHandle" ∧ (parseMethodDescriptor yL_setSmoke.desc).map (fun d => d.parameters.length) = some 4 := by decide +kernel
abbrev mL_info : xM := (yL_info, cL_info, 4, (some .int), wsL_info, { frames := 7, cells := 1, slots := 6, locals := 103 })
theorem qL_info : yL_info.cls ≠ "java/lang/invoke/MethodHandle" ∧ yL_info.cls ≠ "java/lang/invoke/VarHandle" ∧ (parseMethodDescriptor yL_info.desc).map (fun d => d.parameters.length) = some 3 := by decide +kernel
abbrev mL_room : xM := (yL_room, cL_room, 5, (some .int), wsL_room, { frames := 7, cells := 1, slots := 6, locals := 110 })
theorem qL_room : yL_room.cls ≠ "java/lang/invoke/MethodHandle" ∧ yL_room.cls ≠ "java/lang/invoke/VarHandle" ∧ (parseMethodDescriptor yL_room.desc).map (fun d => d.parameters.length) = some 4 := by decide +kernel
abbrev mL_addSensor : xM := (yL_addSensor, cL_addSensor, 8, (some .int), wsL_addSensor, { frames := 7, cells := 1, slots := 6, locals := 150 })
theorem qL_addSensor : yL_addSensor.cls ≠ "java/lang/invoke/MethodHandle" ∧ yL_addSensor.cls ≠ "java/lang/invoke/VarHandle" ∧ (parseMethodDescriptor yL_addSensor.desc).map (fun d => d.parameters.length) = some 7 := by decide +kernel
abbrev mL_setFault : xM := (yL_setFault, cL_setFault, 5, (some .int), wsL_setFault, { frames := 7, cells := 1, slots := 6, locals := 148 })
theorem qL_setFault : yL_setFault.cls ≠ "java/lang/invoke/MethodHandle" ∧ yL_setFault.cls ≠ "java/lang/invoke/VarHandle" ∧ (parseMethodDescriptor yL_setFault.desc).map (fun d => d.parameters.length) = some 4 := by decide +kernel
abbrev mL_sensor : xM := (yL_sensor, cL_sensor, 5, (some .int), wsL_sensor, { frames := 7, cells := 1, slots := 6, locals := 104 })
theorem qL_sensor : yL_sensor.cls ≠ "java/lang/invoke/MethodHandle" ∧ yL_sensor.cls ≠ "java/lang/invoke/VarHandle" ∧ (parseMethodDescriptor yL_sensor.desc).map (fun d => d.parameters.length) = some 4 := by decide +kernel
abbrev mL_addRule : xM := (yL_addRule, cL_addRule, 7, (some .int), wsL_addRule, { frames := 7, cells := 1, slots := 6, locals := 149 })
theorem qL_addRule : yL_addRule.cls ≠ "java/lang/invoke/MethodHandle" ∧ yL_addRule.cls ≠ "java/lang/invoke/VarHandle" ∧ (parseMethodDescriptor yL_addRule.desc).map (fun d => d.parameters.length) = some 6 := by decide +kernel
abbrev mL_removeRule : xM := (yL_removeRule, cL_removeRule, 4, (some .int), wsL_removeRule, { frames := 7, cells := 1, slots := 6, locals := 146 })
theorem qL_removeRule : yL_removeRule.cls ≠ "java/lang/invoke/MethodHandle" ∧ yL_removeRule.cls ≠ "java/lang/invoke/VarHandle" ∧ (parseMethodDescriptor yL_removeRule.desc).map (fun d => d.parameters.length) = some 3 := by decide +kernel
abbrev mL_addEvent : xM := (yL_addEvent, cL_addEvent, 7, (some .int), wsL_addEvent, { frames := 7, cells := 1, slots := 6, locals := 149 })
theorem qL_addEvent : yL_addEvent.cls ≠ "java/lang/invoke/MethodHandle" ∧ yL_addEvent.cls ≠ "java/lang/invoke/VarHandle" ∧ (parseMethodDescriptor yL_addEvent.desc).map (fun d => d.parameters.length) = some 6 := by decide +kernel
abbrev mL_event : xM := (yL_event, cL_event, 5, (some .int), wsL_event, { frames := 7, cells := 1, slots := 6, locals := 104 })
theorem qL_event : yL_event.cls ≠ "java/lang/invoke/MethodHandle" ∧ yL_event.cls ≠ "java/lang/invoke/VarHandle" ∧ (parseMethodDescriptor yL_event.desc).map (fun d => d.parameters.length) = some 4 := by decide +kernel
abbrev mL_mute : xM := (yL_mute, cL_mute, 5, (some .int), wsL_mute, { frames := 7, cells := 1, slots := 6, locals := 148 })
theorem qL_mute : yL_mute.cls ≠ "java/lang/invoke/MethodHandle" ∧ yL_mute.cls ≠ "java/lang/invoke/VarHandle" ∧ (parseMethodDescriptor yL_mute.desc).map (fun d => d.parameters.length) = some 4 := by decide +kernel
abbrev mL_pass : xM := (yL_pass, cL_pass, 4, (some .int), wsL_pass, { frames := 7, cells := 1, slots := 6, locals := 148 })
theorem qL_pass : yL_pass.cls ≠ "java/lang/invoke/MethodHandle" ∧ yL_pass.cls ≠ "java/lang/invoke/VarHandle" ∧ (parseMethodDescriptor yL_pass.desc).map (fun d => d.parameters.length) = some 3 := by decide +kernel
abbrev mL_told : xM := (yL_told, cL_told, 4, (some .int), wsL_told, { frames := 7, cells := 1, slots := 6, locals := 103 })
theorem qL_told : yL_told.cls ≠ "java/lang/invoke/MethodHandle" ∧ yL_told.cls ≠ "java/lang/invoke/VarHandle" ∧ (parseMethodDescriptor yL_told.desc).map (fun d => d.parameters.length) = some 3 := by decide +kernel
abbrev mL_alarmIn : xM := (yL_alarmIn, cL_alarmIn, 5, (some .int), wsL_alarmIn, { frames := 7, cells := 1, slots := 6, locals := 158 })
theorem qL_alarmIn : yL_alarmIn.cls ≠ "java/lang/invoke/MethodHandle" ∧ yL_alarmIn.cls ≠ "java/lang/invoke/VarHandle" ∧ (parseMethodDescriptor yL_alarmIn.desc).map (fun d => d.parameters.length) = some 4 := by decide +kernel
abbrev mL_smokeAfter : xM := (yL_smokeAfter, cL_smokeAfter, 5, (some .int), wsL_smokeAfter, { frames := 7, cells := 1, slots := 6, locals := 136 })
theorem qL_smokeAfter : yL_smokeAfter.cls ≠ "java/lang/invoke/MethodHandle" ∧ yL_smokeAfter.cls ≠ "java/lang/invoke/VarHandle" ∧ (parseMethodDescriptor yL_smokeAfter.desc).map (fun d => d.parameters.length) = some 4 := by decide +kernel
abbrev mL_peak : xM := (yL_peak, cL_peak, 6, (some .int), wsL_peak, { frames := 7, cells := 1, slots := 6, locals := 161 })
theorem qL_peak : yL_peak.cls ≠ "java/lang/invoke/MethodHandle" ∧ yL_peak.cls ≠ "java/lang/invoke/VarHandle" ∧ (parseMethodDescriptor yL_peak.desc).map (fun d => d.parameters.length) = some 5 := by decide +kernel
abbrev mL_bestOpening : xM := (yL_bestOpening, cL_bestOpening, 4, (some .int), wsL_bestOpening, { frames := 7, cells := 1, slots := 6, locals := 163 })
theorem qL_bestOpening : yL_bestOpening.cls ≠ "java/lang/invoke/MethodHandle" ∧ yL_bestOpening.cls ≠ "java/lang/invoke/VarHandle" ∧ (parseMethodDescriptor yL_bestOpening.desc).map (fun d => d.parameters.length) = some 3 := by decide +kernel
abbrev mL_neededSensors : xM := (yL_neededSensors, cL_neededSensors, 5, (some .int), wsL_neededSensors, { frames := 7, cells := 1, slots := 6, locals := 160 })
theorem qL_neededSensors : yL_neededSensors.cls ≠ "java/lang/invoke/MethodHandle" ∧ yL_neededSensors.cls ≠ "java/lang/invoke/VarHandle" ∧ (parseMethodDescriptor yL_neededSensors.desc).map (fun d => d.parameters.length) = some 4 := by decide +kernel
abbrev mL_burnsFor : xM := (yL_burnsFor, cL_burnsFor, 4, (some .int), wsL_burnsFor, { frames := 7, cells := 1, slots := 6, locals := 135 })
theorem qL_burnsFor : yL_burnsFor.cls ≠ "java/lang/invoke/MethodHandle" ∧ yL_burnsFor.cls ≠ "java/lang/invoke/VarHandle" ∧ (parseMethodDescriptor yL_burnsFor.desc).map (fun d => d.parameters.length) = some 3 := by decide +kernel
abbrev mL_undo : xM := (yL_undo, cL_undo, 3, (some .int), wsL_undo, { frames := 7, cells := 1, slots := 6, locals := 145 })
theorem qL_undo : yL_undo.cls ≠ "java/lang/invoke/MethodHandle" ∧ yL_undo.cls ≠ "java/lang/invoke/VarHandle" ∧ (parseMethodDescriptor yL_undo.desc).map (fun d => d.parameters.length) = some 2 := by decide +kernel
theorem if01 {P : Prop} [Decidable P] (h : ¬ (if P then (0 : Int32) else 1) = 0) : (if P then (0 : Int32) else 1) = 1 := by
  by_cases z : P
  · exact absurd (if_pos z) h
  · exact if_neg z
def QL (k a : Int32) (σ : xS) (r1 : Rw) (kp1 : Nat) (qs1 : Nat → Rw) (v : Int32) (σ1 : xS) (τ1 : xT) : Prop := v = k ∧ ((k = 0 ∧ τ1 170 0 = a.toInt64 ∧ Rel σ1 1 r1 ∧ Rc σ1 kp1 qs1 ∧ Fr cS σ σ1) ∨ (¬ k = 0 ∧ σ1 = σ))
theorem upl {τ : xT} {u w : Int64} (h : u = w) : (upt τ 170 (vp_updL (τ 170) 0 u)) 170 0 = w := by
  rw [upt_eq]
  exact (if_pos rfl).trans h
set_option maxHeartbeats 4000000 in
set_option maxRecDepth 100000 in
theorem e_L_begin (σ : xS) (τ : xT) {r : Rw} {R ns nr ne t kp : Nat} {qs : Nat → Rw} (hR : Rel σ 1 r) (hC : Rc σ kp qs) (hk : kp ≤ 4) (I : Inv r R ns nr ne t (t + 1)) (u : Int32) : Xw mL_begin [.ref 0, .int u, .ref 170] σ τ (QL (kW u 1 4) (r 6) σ (mBeg u) (kK kp) (kQ kp qs r)) := by
  refine Xw_mk (hh := [(0, 9, 12, 13)]) (L := [some (.ref 0), some (.int u), some (.ref 170), none]) (by decide) rfl (Nat.le_of_ble_eq_true rfl) rfl (fun x C0 => ?_)
  have C := C0.1
  refine y_aload_n C dL_begin_0 rfl ?_
  refine y_iconst (v := 0) C dL_begin_1 (by decide) ?_
  refine y_aload_n C dL_begin_2 rfl ?_
  refine y_iload_n C dL_begin_3 rfl ?_
  refine y_callZ C0 (e_X8_begin _ _ hR hC hk I u) dL_begin_4 rfl gL_begin_X8_begin rfl is_X8 ⟨rfl, qX8_begin⟩ ⟨rfl, rfl⟩ ⟨Nat.le_of_ble_eq_true rfl, Nat.le_of_ble_eq_true rfl⟩ rfl (Nat.le_of_ble_eq_true rfl) ⟨Nat.le_of_ble_eq_true rfl, Nat.le_of_ble_eq_true rfl⟩ (fun E hE => ?_) (fun v9 σ1 τ1 hq => ?_)
  ·
    obtain ⟨rfl, hk1⟩ := hE
    exact ⟨12, ⟨[], ⟨0, 9, 12, 13⟩, [], rfl, fun z h => absurd h List.not_mem_nil, by decide, by decide, by decide +kernel, by decide, rfl⟩, yh_astore_n C dL_begin_12 (L' := [_, _, _, _]) (Nat.lt_of_lt_of_le (by decide : (3 : Nat) < 4) (Nat.le_refl _)) rfl (y_iconst (v := 1) C dL_begin_13 (by decide) (w_iret C rfl dL_begin_14 ⟨hk1.symm, Or.inr ⟨fun z => absurd (hk1.symm.trans z) (by decide), rfl⟩⟩))⟩
  ·
    obtain ⟨hk0, rfl, hR1, hC1, hF1, rfl⟩ := hq
    refine y_i2l C dL_begin_7 ?_
    refine y_ls (a := 170) (N := 1) C 0 dL_begin_8 (by decide) rfl (by decide) rfl (by decide) ?_
    refine y_goto (t := 15) C dL_begin_9 (by decide) ?_
    refine y_iconst (v := 0) C dL_begin_15 (by decide) ?_
    exact w_iret C rfl dL_begin_16 ⟨hk0.symm, Or.inl ⟨hk0, upl (rfl), hR1, hC1, hF1⟩⟩
set_option maxHeartbeats 4000000 in
set_option maxRecDepth 100000 in
theorem e_L_setDoor (σ : xS) (τ : xT) {r : Rw} {R ns nr ne t kp : Nat} {qs : Nat → Rw} (hR : Rel σ 1 r) (hC : Rc σ kp qs) (hk : kp ≤ 4) (I : Inv r R ns nr ne t (t + 1)) (u v o : Int32) (ho : o = 0 ∨ o = 1) : Xw mL_setDoor [.ref 0, .int u, .int v, .int o, .ref 170] σ τ (QL (kDoor r u v) (mDoorI r (cN u) (cN v)) σ (mSets r (cN u) (cN v) o) (kK kp) (kQ kp qs r)) := by
  refine Xw_mk (hh := [(0, 19, 22, 19), (0, 19, 26, 13)]) (L := [some (.ref 0), some (.int u), some (.int v), some (.int o), some (.ref 170), none]) (by decide) rfl (Nat.le_of_ble_eq_true rfl) rfl (fun x C0 => ?_)
  have C := C0.1
  refine y_aload C dL_setDoor_0 rfl ?_
  refine y_iconst (v := 0) C dL_setDoor_2 (by decide) ?_
  refine y_aload_n C dL_setDoor_3 rfl ?_
  refine y_iload_n C dL_setDoor_4 rfl ?_
  refine y_iload_n C dL_setDoor_5 rfl ?_
  refine y_iload_n C dL_setDoor_6 rfl ?_
  refine y_callZ C0 (e_X8_setDoor _ _ hR hC hk I u v o ho) dL_setDoor_7 rfl gL_setDoor_X8_setDoor rfl is_X8 ⟨rfl, qX8_setDoor⟩ ⟨rfl, rfl⟩ ⟨Nat.le_of_ble_eq_true rfl, Nat.le_of_ble_eq_true rfl⟩ rfl (Nat.le_of_ble_eq_true rfl) ⟨Nat.le_of_ble_eq_true rfl, Nat.le_of_ble_eq_true rfl⟩ (fun E hE => ?_) (fun v9 σ1 τ1 hq => ?_)
  ·
    rcases hE with ⟨rfl, hk1⟩ | ⟨rfl, hk1⟩
    · exact ⟨22, ⟨[], ⟨0, 19, 22, 19⟩, [⟨0, 19, 26, 13⟩], rfl, fun z h => absurd h List.not_mem_nil, by decide, by decide, by decide +kernel, by decide, rfl⟩, yh_astore C dL_setDoor_22 (L' := [_, _, _, _, _, _]) (Nat.lt_of_lt_of_le (by decide : (5 : Nat) < 6) (Nat.le_refl _)) rfl (y_iconst (v := 1) C dL_setDoor_24 (by decide) (w_iret C rfl dL_setDoor_25 ⟨hk1.symm, Or.inr ⟨fun z => absurd (hk1.symm.trans z) (by decide), rfl⟩⟩))⟩
    · exact ⟨26, ⟨[⟨0, 19, 22, 19⟩], ⟨0, 19, 26, 13⟩, [], rfl, fun z h => by obtain rfl := List.mem_singleton.mp h; exact ⟨by decide, eIO, by decide, by decide, by decide +kernel⟩, by decide, by decide, by decide +kernel, by decide, rfl⟩, yh_astore C dL_setDoor_26 (L' := [_, _, _, _, _, _]) (Nat.lt_of_lt_of_le (by decide : (5 : Nat) < 6) (Nat.le_refl _)) rfl (y_iconst (v := 2) C dL_setDoor_28 (by decide) (w_iret C rfl dL_setDoor_29 ⟨hk1.symm, Or.inr ⟨fun z => absurd (hk1.symm.trans z) (by decide), rfl⟩⟩))⟩
  ·
    obtain ⟨hk0, rfl, hR1, hC1, hF1, rfl⟩ := hq
    refine y_if_eq (t := 17) C dL_setDoor_10 (by decide) (fun c1 => ?_) (fun c1 => ?_)
    · refine y_lconst (v := 0) C dL_setDoor_17 (by decide) ?_
      refine y_ls (a := 170) (N := 1) C 0 dL_setDoor_18 (by decide) rfl (by decide) rfl (by decide) ?_
      refine y_goto (t := 30) C dL_setDoor_19 (by decide) ?_
      refine y_iconst (v := 0) C dL_setDoor_30 (by decide) ?_
      exact w_iret C rfl dL_setDoor_31 ⟨hk0.symm, Or.inl ⟨hk0, upl (by rw [c1]; rfl), hR1, hC1, hF1⟩⟩
    · refine y_lconst (v := 1) C dL_setDoor_13 (by decide) ?_
      refine y_goto (t := 18) C dL_setDoor_14 (by decide) ?_
      refine y_ls (a := 170) (N := 1) C 0 dL_setDoor_18 (by decide) rfl (by decide) rfl (by decide) ?_
      refine y_goto (t := 30) C dL_setDoor_19 (by decide) ?_
      refine y_iconst (v := 0) C dL_setDoor_30 (by decide) ?_
      exact w_iret C rfl dL_setDoor_31 ⟨hk0.symm, Or.inl ⟨hk0, upl (by rw [(mDoorI_01 _ _ _).resolve_left c1]; rfl), hR1, hC1, hF1⟩⟩
set_option maxHeartbeats 4000000 in
set_option maxRecDepth 100000 in
theorem e_L_isOpen (σ : xS) (τ : xT) {r : Rw} {R ns nr ne t kp : Nat} {qs : Nat → Rw} (hR : Rel σ 1 r) (hC : Rc σ kp qs) (hk : kp ≤ 4) (I : Inv r R ns nr ne t (t + 1)) (u v : Int32) : Xw mL_isOpen [.ref 0, .int u, .int v, .ref 170] σ τ (QL (kOpen r u v) ((if u = v ∨ mDoorI r (cN u) (cN v) = 0 then 0 else 1)) σ (r) (kp) (qs)) := by
  refine Xw_mk (hh := [(0, 17, 20, 19)]) (L := [some (.ref 0), some (.int u), some (.int v), some (.ref 170), none]) (by decide) rfl (Nat.le_of_ble_eq_true rfl) rfl (fun x C0 => ?_)
  have C := C0.1
  refine y_aload_n C dL_isOpen_0 rfl ?_
  refine y_iconst (v := 0) C dL_isOpen_1 (by decide) ?_
  refine y_aload_n C dL_isOpen_2 rfl ?_
  refine y_iload_n C dL_isOpen_3 rfl ?_
  refine y_iload_n C dL_isOpen_4 rfl ?_
  refine y_callZ C0 (e_X8_isOpen _ _ hR hC hk I u v) dL_isOpen_5 rfl gL_isOpen_X8_isOpen rfl is_X8 ⟨rfl, qX8_isOpen⟩ ⟨rfl, rfl⟩ ⟨Nat.le_of_ble_eq_true rfl, Nat.le_of_ble_eq_true rfl⟩ rfl (Nat.le_of_ble_eq_true rfl) ⟨Nat.le_of_ble_eq_true rfl, Nat.le_of_ble_eq_true rfl⟩ (fun E hE => ?_) (fun v9 σ1 τ1 hq => ?_)
  ·
    obtain ⟨rfl, hk1⟩ := hE
    exact ⟨20, ⟨[], ⟨0, 17, 20, 19⟩, [], rfl, fun z h => absurd h List.not_mem_nil, by decide, by decide, by decide +kernel, by decide, rfl⟩, yh_astore C dL_isOpen_20 (L' := [_, _, _, _, _]) (Nat.lt_of_lt_of_le (by decide : (4 : Nat) < 5) (Nat.le_refl _)) rfl (y_iconst (v := 1) C dL_isOpen_22 (by decide) (w_iret C rfl dL_isOpen_23 ⟨hk1.symm, Or.inr ⟨fun z => absurd (hk1.symm.trans z) (by decide), rfl⟩⟩))⟩
  ·
    obtain ⟨hk0, rfl, hR1, hC1, hF1, rfl⟩ := hq
    refine y_if_eq (t := 15) C dL_isOpen_8 (by decide) (fun c1 => ?_) (fun c1 => ?_)
    · refine y_lconst (v := 0) C dL_isOpen_15 (by decide) ?_
      refine y_ls (a := 170) (N := 1) C 0 dL_isOpen_16 (by decide) rfl (by decide) rfl (by decide) ?_
      refine y_goto (t := 24) C dL_isOpen_17 (by decide) ?_
      refine y_iconst (v := 0) C dL_isOpen_24 (by decide) ?_
      exact w_iret C rfl dL_isOpen_25 ⟨hk0.symm, Or.inl ⟨hk0, upl (by rw [c1]; rfl), hR1, hC1, hF1⟩⟩
    · refine y_lconst (v := 1) C dL_isOpen_11 (by decide) ?_
      refine y_goto (t := 16) C dL_isOpen_12 (by decide) ?_
      refine y_ls (a := 170) (N := 1) C 0 dL_isOpen_16 (by decide) rfl (by decide) rfl (by decide) ?_
      refine y_goto (t := 24) C dL_isOpen_17 (by decide) ?_
      refine y_iconst (v := 0) C dL_isOpen_24 (by decide) ?_
      exact w_iret C rfl dL_isOpen_25 ⟨hk0.symm, Or.inl ⟨hk0, upl (by rw [if01 c1]; rfl), hR1, hC1, hF1⟩⟩
set_option maxHeartbeats 4000000 in
set_option maxRecDepth 100000 in
theorem e_L_addFuel (σ : xS) (τ : xT) {r : Rw} {R ns nr ne t kp : Nat} {qs : Nat → Rw} (hR : Rel σ 1 r) (hC : Rc σ kp qs) (hk : kp ≤ 4) (I : Inv r R ns nr ne t (t + 1)) (u : Int32) : Xw mL_addFuel [.ref 0, .int u, .ref 170] σ τ (QL (kW u 1 200) ((if 200 < r 8 + u then 200 else r 8 + u)) σ (upd r 8 (if 200 < r 8 + u then 200 else r 8 + u)) (kK kp) (kQ kp qs r)) := by
  refine Xw_mk (hh := [(0, 9, 12, 13)]) (L := [some (.ref 0), some (.int u), some (.ref 170), none]) (by decide) rfl (Nat.le_of_ble_eq_true rfl) rfl (fun x C0 => ?_)
  have C := C0.1
  refine y_aload_n C dL_addFuel_0 rfl ?_
  refine y_iconst (v := 0) C dL_addFuel_1 (by decide) ?_
  refine y_aload_n C dL_addFuel_2 rfl ?_
  refine y_iload_n C dL_addFuel_3 rfl ?_
  refine y_callZ C0 (e_X8_addFuel _ _ hR hC hk I u) dL_addFuel_4 rfl gL_addFuel_X8_addFuel rfl is_X8 ⟨rfl, qX8_addFuel⟩ ⟨rfl, rfl⟩ ⟨Nat.le_of_ble_eq_true rfl, Nat.le_of_ble_eq_true rfl⟩ rfl (Nat.le_of_ble_eq_true rfl) ⟨Nat.le_of_ble_eq_true rfl, Nat.le_of_ble_eq_true rfl⟩ (fun E hE => ?_) (fun v9 σ1 τ1 hq => ?_)
  ·
    obtain ⟨rfl, hk1⟩ := hE
    exact ⟨12, ⟨[], ⟨0, 9, 12, 13⟩, [], rfl, fun z h => absurd h List.not_mem_nil, by decide, by decide, by decide +kernel, by decide, rfl⟩, yh_astore_n C dL_addFuel_12 (L' := [_, _, _, _]) (Nat.lt_of_lt_of_le (by decide : (3 : Nat) < 4) (Nat.le_refl _)) rfl (y_iconst (v := 1) C dL_addFuel_13 (by decide) (w_iret C rfl dL_addFuel_14 ⟨hk1.symm, Or.inr ⟨fun z => absurd (hk1.symm.trans z) (by decide), rfl⟩⟩))⟩
  ·
    obtain ⟨hk0, rfl, hR1, hC1, hF1, rfl⟩ := hq
    refine y_i2l C dL_addFuel_7 ?_
    refine y_ls (a := 170) (N := 1) C 0 dL_addFuel_8 (by decide) rfl (by decide) rfl (by decide) ?_
    refine y_goto (t := 15) C dL_addFuel_9 (by decide) ?_
    refine y_iconst (v := 0) C dL_addFuel_15 (by decide) ?_
    exact w_iret C rfl dL_addFuel_16 ⟨hk0.symm, Or.inl ⟨hk0, upl (rfl), hR1, hC1, hF1⟩⟩
set_option maxHeartbeats 4000000 in
set_option maxRecDepth 100000 in
theorem e_L_setTarget (σ : xS) (τ : xT) {r : Rw} {R ns nr ne t kp : Nat} {qs : Nat → Rw} (hR : Rel σ 1 r) (hC : Rc σ kp qs) (hk : kp ≤ 4) (I : Inv r R ns nr ne t (t + 1)) (u : Int32) : Xw mL_setTarget [.ref 0, .int u, .ref 170] σ τ (QL (kW u 0 8) (r 9) σ (upd r 9 u) (kK kp) (kQ kp qs r)) := by
  refine Xw_mk (hh := [(0, 9, 12, 13)]) (L := [some (.ref 0), some (.int u), some (.ref 170), none]) (by decide) rfl (Nat.le_of_ble_eq_true rfl) rfl (fun x C0 => ?_)
  have C := C0.1
  refine y_aload_n C dL_setTarget_0 rfl ?_
  refine y_iconst (v := 0) C dL_setTarget_1 (by decide) ?_
  refine y_aload_n C dL_setTarget_2 rfl ?_
  refine y_iload_n C dL_setTarget_3 rfl ?_
  refine y_callZ C0 (e_X8_setTarget _ _ hR hC hk I u) dL_setTarget_4 rfl gL_setTarget_X8_setTarget rfl is_X8 ⟨rfl, qX8_setTarget⟩ ⟨rfl, rfl⟩ ⟨Nat.le_of_ble_eq_true rfl, Nat.le_of_ble_eq_true rfl⟩ rfl (Nat.le_of_ble_eq_true rfl) ⟨Nat.le_of_ble_eq_true rfl, Nat.le_of_ble_eq_true rfl⟩ (fun E hE => ?_) (fun v9 σ1 τ1 hq => ?_)
  ·
    obtain ⟨rfl, hk1⟩ := hE
    exact ⟨12, ⟨[], ⟨0, 9, 12, 13⟩, [], rfl, fun z h => absurd h List.not_mem_nil, by decide, by decide, by decide +kernel, by decide, rfl⟩, yh_astore_n C dL_setTarget_12 (L' := [_, _, _, _]) (Nat.lt_of_lt_of_le (by decide : (3 : Nat) < 4) (Nat.le_refl _)) rfl (y_iconst (v := 1) C dL_setTarget_13 (by decide) (w_iret C rfl dL_setTarget_14 ⟨hk1.symm, Or.inr ⟨fun z => absurd (hk1.symm.trans z) (by decide), rfl⟩⟩))⟩
  ·
    obtain ⟨hk0, rfl, hR1, hC1, hF1, rfl⟩ := hq
    refine y_i2l C dL_setTarget_7 ?_
    refine y_ls (a := 170) (N := 1) C 0 dL_setTarget_8 (by decide) rfl (by decide) rfl (by decide) ?_
    refine y_goto (t := 15) C dL_setTarget_9 (by decide) ?_
    refine y_iconst (v := 0) C dL_setTarget_15 (by decide) ?_
    exact w_iret C rfl dL_setTarget_16 ⟨hk0.symm, Or.inl ⟨hk0, upl (rfl), hR1, hC1, hF1⟩⟩
set_option maxHeartbeats 4000000 in
set_option maxRecDepth 100000 in
theorem e_L_set (σ : xS) (τ : xT) {r : Rw} {R ns nr ne t kp : Nat} {qs : Nat → Rw} (hR : Rel σ 1 r) (hC : Rc σ kp qs) (hk : kp ≤ 4) (I : Inv r R ns nr ne t (t + 1)) (u v : Int32) : Xw mL_set [.ref 0, .int u, .int v, .ref 170] σ τ (QL (kSet u v) (mNum r u) σ (upd r (cN u) v) (kK kp) (kQ kp qs r)) := by
  refine Xw_mk (hh := [(0, 10, 13, 13)]) (L := [some (.ref 0), some (.int u), some (.int v), some (.ref 170), none]) (by decide) rfl (Nat.le_of_ble_eq_true rfl) rfl (fun x C0 => ?_)
  have C := C0.1
  refine y_aload_n C dL_set_0 rfl ?_
  refine y_iconst (v := 0) C dL_set_1 (by decide) ?_
  refine y_aload_n C dL_set_2 rfl ?_
  refine y_iload_n C dL_set_3 rfl ?_
  refine y_iload_n C dL_set_4 rfl ?_
  refine y_callZ C0 (e_X8_set _ _ hR hC hk I u v) dL_set_5 rfl gL_set_X8_set rfl is_X8 ⟨rfl, qX8_set⟩ ⟨rfl, rfl⟩ ⟨Nat.le_of_ble_eq_true rfl, Nat.le_of_ble_eq_true rfl⟩ rfl (Nat.le_of_ble_eq_true rfl) ⟨Nat.le_of_ble_eq_true rfl, Nat.le_of_ble_eq_true rfl⟩ (fun E hE => ?_) (fun v9 σ1 τ1 hq => ?_)
  ·
    obtain ⟨rfl, hk1⟩ := hE
    exact ⟨13, ⟨[], ⟨0, 10, 13, 13⟩, [], rfl, fun z h => absurd h List.not_mem_nil, by decide, by decide, by decide +kernel, by decide, rfl⟩, yh_astore C dL_set_13 (L' := [_, _, _, _, _]) (Nat.lt_of_lt_of_le (by decide : (4 : Nat) < 5) (Nat.le_refl _)) rfl (y_iconst (v := 1) C dL_set_15 (by decide) (w_iret C rfl dL_set_16 ⟨hk1.symm, Or.inr ⟨fun z => absurd (hk1.symm.trans z) (by decide), rfl⟩⟩))⟩
  ·
    obtain ⟨hk0, rfl, hR1, hC1, hF1, rfl⟩ := hq
    refine y_i2l C dL_set_8 ?_
    refine y_ls (a := 170) (N := 1) C 0 dL_set_9 (by decide) rfl (by decide) rfl (by decide) ?_
    refine y_goto (t := 17) C dL_set_10 (by decide) ?_
    refine y_iconst (v := 0) C dL_set_17 (by decide) ?_
    exact w_iret C rfl dL_set_18 ⟨hk0.symm, Or.inl ⟨hk0, upl (rfl), hR1, hC1, hF1⟩⟩
set_option maxHeartbeats 4000000 in
set_option maxRecDepth 100000 in
theorem e_L_setSmoke (σ : xS) (τ : xT) {r : Rw} {R ns nr ne t kp : Nat} {qs : Nat → Rw} (hR : Rel σ 1 r) (hC : Rc σ kp qs) (hk : kp ≤ 4) (I : Inv r R ns nr ne t (t + 1)) (u v : Int32) : Xw mL_setSmoke [.ref 0, .int u, .int v, .ref 170] σ τ (QL (kRW r u v 0 99999) (r (20 + cN u)) σ (upd r (20 + cN u) v) (kK kp) (kQ kp qs r)) := by
  refine Xw_mk (hh := [(0, 10, 13, 19), (0, 10, 17, 13)]) (L := [some (.ref 0), some (.int u), some (.int v), some (.ref 170), none]) (by decide) rfl (Nat.le_of_ble_eq_true rfl) rfl (fun x C0 => ?_)
  have C := C0.1
  refine y_aload_n C dL_setSmoke_0 rfl ?_
  refine y_iconst (v := 0) C dL_setSmoke_1 (by decide) ?_
  refine y_aload_n C dL_setSmoke_2 rfl ?_
  refine y_iload_n C dL_setSmoke_3 rfl ?_
  refine y_iload_n C dL_setSmoke_4 rfl ?_
  refine y_callZ C0 (e_X8_setSmoke _ _ hR hC hk I u v) dL_setSmoke_5 rfl gL_setSmoke_X8_setSmoke rfl is_X8 ⟨rfl, qX8_setSmoke⟩ ⟨rfl, rfl⟩ ⟨Nat.le_of_ble_eq_true rfl, Nat.le_of_ble_eq_true rfl⟩ rfl (Nat.le_of_ble_eq_true rfl) ⟨Nat.le_of_ble_eq_true rfl, Nat.le_of_ble_eq_true rfl⟩ (fun E hE => ?_) (fun v9 σ1 τ1 hq => ?_)
  ·
    rcases hE with ⟨rfl, hk1⟩ | ⟨rfl, hk1⟩
    · exact ⟨13, ⟨[], ⟨0, 10, 13, 19⟩, [⟨0, 10, 17, 13⟩], rfl, fun z h => absurd h List.not_mem_nil, by decide, by decide, by decide +kernel, by decide, rfl⟩, yh_astore C dL_setSmoke_13 (L' := [_, _, _, _, _]) (Nat.lt_of_lt_of_le (by decide : (4 : Nat) < 5) (Nat.le_refl _)) rfl (y_iconst (v := 1) C dL_setSmoke_15 (by decide) (w_iret C rfl dL_setSmoke_16 ⟨hk1.symm, Or.inr ⟨fun z => absurd (hk1.symm.trans z) (by decide), rfl⟩⟩))⟩
    · exact ⟨17, ⟨[⟨0, 10, 13, 19⟩], ⟨0, 10, 17, 13⟩, [], rfl, fun z h => by obtain rfl := List.mem_singleton.mp h; exact ⟨by decide, eIO, by decide, by decide, by decide +kernel⟩, by decide, by decide, by decide +kernel, by decide, rfl⟩, yh_astore C dL_setSmoke_17 (L' := [_, _, _, _, _]) (Nat.lt_of_lt_of_le (by decide : (4 : Nat) < 5) (Nat.le_refl _)) rfl (y_iconst (v := 2) C dL_setSmoke_19 (by decide) (w_iret C rfl dL_setSmoke_20 ⟨hk1.symm, Or.inr ⟨fun z => absurd (hk1.symm.trans z) (by decide), rfl⟩⟩))⟩
  ·
    obtain ⟨hk0, rfl, hR1, hC1, hF1, rfl⟩ := hq
    refine y_i2l C dL_setSmoke_8 ?_
    refine y_ls (a := 170) (N := 1) C 0 dL_setSmoke_9 (by decide) rfl (by decide) rfl (by decide) ?_
    refine y_goto (t := 21) C dL_setSmoke_10 (by decide) ?_
    refine y_iconst (v := 0) C dL_setSmoke_21 (by decide) ?_
    exact w_iret C rfl dL_setSmoke_22 ⟨hk0.symm, Or.inl ⟨hk0, upl (rfl), hR1, hC1, hF1⟩⟩
set_option maxHeartbeats 4000000 in
set_option maxRecDepth 100000 in
theorem e_L_info (σ : xS) (τ : xT) {r : Rw} {R ns nr ne t kp : Nat} {qs : Nat → Rw} (hR : Rel σ 1 r) (hC : Rc σ kp qs) (hk : kp ≤ 4) (I : Inv r R ns nr ne t (t + 1)) (u : Int32) : Xw mL_info [.ref 0, .int u, .ref 170] σ τ (QL (kW u 0 14) (mNum r u) σ (r) (kp) (qs)) := by
  refine Xw_mk (hh := [(0, 9, 12, 13)]) (L := [some (.ref 0), some (.int u), some (.ref 170), none]) (by decide) rfl (Nat.le_of_ble_eq_true rfl) rfl (fun x C0 => ?_)
  have C := C0.1
  refine y_aload_n C dL_info_0 rfl ?_
  refine y_iconst (v := 0) C dL_info_1 (by decide) ?_
  refine y_aload_n C dL_info_2 rfl ?_
  refine y_iload_n C dL_info_3 rfl ?_
  refine y_callZ C0 (e_X8_info _ _ hR hC hk I u) dL_info_4 rfl gL_info_X8_info rfl is_X8 ⟨rfl, qX8_info⟩ ⟨rfl, rfl⟩ ⟨Nat.le_of_ble_eq_true rfl, Nat.le_of_ble_eq_true rfl⟩ rfl (Nat.le_of_ble_eq_true rfl) ⟨Nat.le_of_ble_eq_true rfl, Nat.le_of_ble_eq_true rfl⟩ (fun E hE => ?_) (fun v9 σ1 τ1 hq => ?_)
  ·
    obtain ⟨rfl, hk1⟩ := hE
    exact ⟨12, ⟨[], ⟨0, 9, 12, 13⟩, [], rfl, fun z h => absurd h List.not_mem_nil, by decide, by decide, by decide +kernel, by decide, rfl⟩, yh_astore_n C dL_info_12 (L' := [_, _, _, _]) (Nat.lt_of_lt_of_le (by decide : (3 : Nat) < 4) (Nat.le_refl _)) rfl (y_iconst (v := 1) C dL_info_13 (by decide) (w_iret C rfl dL_info_14 ⟨hk1.symm, Or.inr ⟨fun z => absurd (hk1.symm.trans z) (by decide), rfl⟩⟩))⟩
  ·
    obtain ⟨hk0, rfl, hR1, hC1, hF1, rfl⟩ := hq
    refine y_i2l C dL_info_7 ?_
    refine y_ls (a := 170) (N := 1) C 0 dL_info_8 (by decide) rfl (by decide) rfl (by decide) ?_
    refine y_goto (t := 15) C dL_info_9 (by decide) ?_
    refine y_iconst (v := 0) C dL_info_15 (by decide) ?_
    exact w_iret C rfl dL_info_16 ⟨hk0.symm, Or.inl ⟨hk0, upl (rfl), hR1, hC1, hF1⟩⟩
set_option maxHeartbeats 4000000 in
set_option maxRecDepth 100000 in
theorem e_L_room (σ : xS) (τ : xT) {r : Rw} {R ns nr ne t kp : Nat} {qs : Nat → Rw} (hR : Rel σ 1 r) (hC : Rc σ kp qs) (hk : kp ≤ 4) (I : Inv r R ns nr ne t (t + 1)) (u v : Int32) : Xw mL_room [.ref 0, .int u, .int v, .ref 170] σ τ (QL (kRW r u v 0 6) (mRooT r (cN u) v) σ (r) (kp) (qs)) := by
  refine Xw_mk (hh := [(0, 10, 13, 19), (0, 10, 17, 13)]) (L := [some (.ref 0), some (.int u), some (.int v), some (.ref 170), none]) (by decide) rfl (Nat.le_of_ble_eq_true rfl) rfl (fun x C0 => ?_)
  have C := C0.1
  refine y_aload_n C dL_room_0 rfl ?_
  refine y_iconst (v := 0) C dL_room_1 (by decide) ?_
  refine y_aload_n C dL_room_2 rfl ?_
  refine y_iload_n C dL_room_3 rfl ?_
  refine y_iload_n C dL_room_4 rfl ?_
  refine y_callZ C0 (e_X8_room _ _ hR hC hk I u v) dL_room_5 rfl gL_room_X8_room rfl is_X8 ⟨rfl, qX8_room⟩ ⟨rfl, rfl⟩ ⟨Nat.le_of_ble_eq_true rfl, Nat.le_of_ble_eq_true rfl⟩ rfl (Nat.le_of_ble_eq_true rfl) ⟨Nat.le_of_ble_eq_true rfl, Nat.le_of_ble_eq_true rfl⟩ (fun E hE => ?_) (fun v9 σ1 τ1 hq => ?_)
  ·
    rcases hE with ⟨rfl, hk1⟩ | ⟨rfl, hk1⟩
    · exact ⟨13, ⟨[], ⟨0, 10, 13, 19⟩, [⟨0, 10, 17, 13⟩], rfl, fun z h => absurd h List.not_mem_nil, by decide, by decide, by decide +kernel, by decide, rfl⟩, yh_astore C dL_room_13 (L' := [_, _, _, _, _]) (Nat.lt_of_lt_of_le (by decide : (4 : Nat) < 5) (Nat.le_refl _)) rfl (y_iconst (v := 1) C dL_room_15 (by decide) (w_iret C rfl dL_room_16 ⟨hk1.symm, Or.inr ⟨fun z => absurd (hk1.symm.trans z) (by decide), rfl⟩⟩))⟩
    · exact ⟨17, ⟨[⟨0, 10, 13, 19⟩], ⟨0, 10, 17, 13⟩, [], rfl, fun z h => by obtain rfl := List.mem_singleton.mp h; exact ⟨by decide, eIO, by decide, by decide, by decide +kernel⟩, by decide, by decide, by decide +kernel, by decide, rfl⟩, yh_astore C dL_room_17 (L' := [_, _, _, _, _]) (Nat.lt_of_lt_of_le (by decide : (4 : Nat) < 5) (Nat.le_refl _)) rfl (y_iconst (v := 2) C dL_room_19 (by decide) (w_iret C rfl dL_room_20 ⟨hk1.symm, Or.inr ⟨fun z => absurd (hk1.symm.trans z) (by decide), rfl⟩⟩))⟩
  ·
    obtain ⟨hk0, rfl, hR1, hC1, hF1, rfl⟩ := hq
    refine y_i2l C dL_room_8 ?_
    refine y_ls (a := 170) (N := 1) C 0 dL_room_9 (by decide) rfl (by decide) rfl (by decide) ?_
    refine y_goto (t := 21) C dL_room_10 (by decide) ?_
    refine y_iconst (v := 0) C dL_room_21 (by decide) ?_
    exact w_iret C rfl dL_room_22 ⟨hk0.symm, Or.inl ⟨hk0, upl (rfl), hR1, hC1, hF1⟩⟩
set_option maxHeartbeats 4000000 in
set_option maxRecDepth 100000 in
theorem e_L_addSensor (σ : xS) (τ : xT) {r : Rw} {R ns nr ne t kp : Nat} {qs : Nat → Rw} (hR : Rel σ 1 r) (hC : Rc σ kp qs) (hk : kp ≤ 4) (I : Inv r R ns nr ne t (t + 1)) (a b c d e : Int32) : Xw mL_addSensor [.ref 0, .int a, .int b, .int c, .int d, .int e, .ref 170] σ τ (QL (kASe r a b c d e) (r 10) σ (mASe r ns a b c d e) (kK kp) (kQ kp qs r)) := by
  refine Xw_mk (hh := [(0, 16, 19, 19), (0, 16, 23, 13), (0, 16, 27, 48)]) (L := [some (.ref 0), some (.int a), some (.int b), some (.int c), some (.int d), some (.int e), some (.ref 170), none]) (by decide) rfl (Nat.le_of_ble_eq_true rfl) rfl (fun x C0 => ?_)
  have C := C0.1
  refine y_aload C dL_addSensor_0 rfl ?_
  refine y_iconst (v := 0) C dL_addSensor_2 (by decide) ?_
  refine y_aload_n C dL_addSensor_3 rfl ?_
  refine y_iload_n C dL_addSensor_4 rfl ?_
  refine y_iload_n C dL_addSensor_5 rfl ?_
  refine y_iload_n C dL_addSensor_6 rfl ?_
  refine y_iload C dL_addSensor_7 rfl ?_
  refine y_iload C dL_addSensor_9 rfl ?_
  refine y_callZ C0 (e_X8_addSensor _ _ hR hC hk I a b c d e) dL_addSensor_11 rfl gL_addSensor_X8_addSensor rfl is_X8 ⟨rfl, qX8_addSensor⟩ ⟨rfl, rfl⟩ ⟨Nat.le_of_ble_eq_true rfl, Nat.le_of_ble_eq_true rfl⟩ rfl (Nat.le_of_ble_eq_true rfl) ⟨Nat.le_of_ble_eq_true rfl, Nat.le_of_ble_eq_true rfl⟩ (fun E hE => ?_) (fun v9 σ1 τ1 hq => ?_)
  ·
    rcases hE with ⟨rfl, hk1⟩ | ⟨rfl, hk1⟩ | ⟨rfl, hk1⟩
    · exact ⟨19, ⟨[], ⟨0, 16, 19, 19⟩, [⟨0, 16, 23, 13⟩, ⟨0, 16, 27, 48⟩], rfl, fun z h => absurd h List.not_mem_nil, by decide, by decide, by decide +kernel, by decide, rfl⟩, yh_astore C dL_addSensor_19 (L' := [_, _, _, _, _, _, _, _]) (Nat.lt_of_lt_of_le (by decide : (7 : Nat) < 8) (Nat.le_refl _)) rfl (y_iconst (v := 1) C dL_addSensor_21 (by decide) (w_iret C rfl dL_addSensor_22 ⟨hk1.symm, Or.inr ⟨fun z => absurd (hk1.symm.trans z) (by decide), rfl⟩⟩))⟩
    · exact ⟨23, ⟨[⟨0, 16, 19, 19⟩], ⟨0, 16, 23, 13⟩, [⟨0, 16, 27, 48⟩], rfl, fun z h => by obtain rfl := List.mem_singleton.mp h; exact ⟨by decide, eIO, by decide, by decide, by decide +kernel⟩, by decide, by decide, by decide +kernel, by decide, rfl⟩, yh_astore C dL_addSensor_23 (L' := [_, _, _, _, _, _, _, _]) (Nat.lt_of_lt_of_le (by decide : (7 : Nat) < 8) (Nat.le_refl _)) rfl (y_iconst (v := 2) C dL_addSensor_25 (by decide) (w_iret C rfl dL_addSensor_26 ⟨hk1.symm, Or.inr ⟨fun z => absurd (hk1.symm.trans z) (by decide), rfl⟩⟩))⟩
    · exact ⟨27, ⟨[⟨0, 16, 19, 19⟩, ⟨0, 16, 23, 13⟩], ⟨0, 16, 27, 48⟩, [], rfl, fun z h => by rcases List.mem_cons.mp h with rfl | h; exact ⟨by decide, eIO, by decide, by decide, by decide +kernel⟩; obtain rfl := List.mem_singleton.mp h; exact ⟨by decide, eIA, by decide, by decide, by decide +kernel⟩, by decide, by decide, by decide +kernel, by decide, rfl⟩, yh_astore C dL_addSensor_27 (L' := [_, _, _, _, _, _, _, _]) (Nat.lt_of_lt_of_le (by decide : (7 : Nat) < 8) (Nat.le_refl _)) rfl (y_iconst (v := 3) C dL_addSensor_29 (by decide) (w_iret C rfl dL_addSensor_30 ⟨hk1.symm, Or.inr ⟨fun z => absurd (hk1.symm.trans z) (by decide), rfl⟩⟩))⟩
  ·
    obtain ⟨hk0, rfl, hR1, hC1, hF1, rfl⟩ := hq
    refine y_i2l C dL_addSensor_14 ?_
    refine y_ls (a := 170) (N := 1) C 0 dL_addSensor_15 (by decide) rfl (by decide) rfl (by decide) ?_
    refine y_goto (t := 31) C dL_addSensor_16 (by decide) ?_
    refine y_iconst (v := 0) C dL_addSensor_31 (by decide) ?_
    exact w_iret C rfl dL_addSensor_32 ⟨hk0.symm, Or.inl ⟨hk0, upl (rfl), hR1, hC1, hF1⟩⟩
set_option maxHeartbeats 4000000 in
set_option maxRecDepth 100000 in
theorem e_L_setFault (σ : xS) (τ : xT) {r : Rw} {R ns nr ne t kp : Nat} {qs : Nat → Rw} (hR : Rel σ 1 r) (hC : Rc σ kp qs) (hk : kp ≤ 4) (I : Inv r R ns nr ne t (t + 1)) (u v : Int32) : Xw mL_setFault [.ref 0, .int u, .int v, .ref 170] σ τ (QL (kSW r u v 0 2) (r (57 + 7 * cN u + 5)) σ (upd r (57 + 7 * cN u + 5) v) (kK kp) (kQ kp qs r)) := by
  refine Xw_mk (hh := [(0, 10, 13, 19), (0, 10, 17, 13)]) (L := [some (.ref 0), some (.int u), some (.int v), some (.ref 170), none]) (by decide) rfl (Nat.le_of_ble_eq_true rfl) rfl (fun x C0 => ?_)
  have C := C0.1
  refine y_aload_n C dL_setFault_0 rfl ?_
  refine y_iconst (v := 0) C dL_setFault_1 (by decide) ?_
  refine y_aload_n C dL_setFault_2 rfl ?_
  refine y_iload_n C dL_setFault_3 rfl ?_
  refine y_iload_n C dL_setFault_4 rfl ?_
  refine y_callZ C0 (e_X8_setFault _ _ hR hC hk I u v) dL_setFault_5 rfl gL_setFault_X8_setFault rfl is_X8 ⟨rfl, qX8_setFault⟩ ⟨rfl, rfl⟩ ⟨Nat.le_of_ble_eq_true rfl, Nat.le_of_ble_eq_true rfl⟩ rfl (Nat.le_of_ble_eq_true rfl) ⟨Nat.le_of_ble_eq_true rfl, Nat.le_of_ble_eq_true rfl⟩ (fun E hE => ?_) (fun v9 σ1 τ1 hq => ?_)
  ·
    rcases hE with ⟨rfl, hk1⟩ | ⟨rfl, hk1⟩
    · exact ⟨13, ⟨[], ⟨0, 10, 13, 19⟩, [⟨0, 10, 17, 13⟩], rfl, fun z h => absurd h List.not_mem_nil, by decide, by decide, by decide +kernel, by decide, rfl⟩, yh_astore C dL_setFault_13 (L' := [_, _, _, _, _]) (Nat.lt_of_lt_of_le (by decide : (4 : Nat) < 5) (Nat.le_refl _)) rfl (y_iconst (v := 1) C dL_setFault_15 (by decide) (w_iret C rfl dL_setFault_16 ⟨hk1.symm, Or.inr ⟨fun z => absurd (hk1.symm.trans z) (by decide), rfl⟩⟩))⟩
    · exact ⟨17, ⟨[⟨0, 10, 13, 19⟩], ⟨0, 10, 17, 13⟩, [], rfl, fun z h => by obtain rfl := List.mem_singleton.mp h; exact ⟨by decide, eIO, by decide, by decide, by decide +kernel⟩, by decide, by decide, by decide +kernel, by decide, rfl⟩, yh_astore C dL_setFault_17 (L' := [_, _, _, _, _]) (Nat.lt_of_lt_of_le (by decide : (4 : Nat) < 5) (Nat.le_refl _)) rfl (y_iconst (v := 2) C dL_setFault_19 (by decide) (w_iret C rfl dL_setFault_20 ⟨hk1.symm, Or.inr ⟨fun z => absurd (hk1.symm.trans z) (by decide), rfl⟩⟩))⟩
  ·
    obtain ⟨hk0, rfl, hR1, hC1, hF1, rfl⟩ := hq
    refine y_i2l C dL_setFault_8 ?_
    refine y_ls (a := 170) (N := 1) C 0 dL_setFault_9 (by decide) rfl (by decide) rfl (by decide) ?_
    refine y_goto (t := 21) C dL_setFault_10 (by decide) ?_
    refine y_iconst (v := 0) C dL_setFault_21 (by decide) ?_
    exact w_iret C rfl dL_setFault_22 ⟨hk0.symm, Or.inl ⟨hk0, upl (rfl), hR1, hC1, hF1⟩⟩
set_option maxHeartbeats 4000000 in
set_option maxRecDepth 100000 in
theorem e_L_sensor (σ : xS) (τ : xT) {r : Rw} {R ns nr ne t kp : Nat} {qs : Nat → Rw} (hR : Rel σ 1 r) (hC : Rc σ kp qs) (hk : kp ≤ 4) (I : Inv r R ns nr ne t (t + 1)) (u v : Int32) : Xw mL_sensor [.ref 0, .int u, .int v, .ref 170] σ τ (QL (kSW r u v 0 8) (mSenT r (cN u) v) σ (r) (kp) (qs)) := by
  refine Xw_mk (hh := [(0, 10, 13, 19), (0, 10, 17, 13)]) (L := [some (.ref 0), some (.int u), some (.int v), some (.ref 170), none]) (by decide) rfl (Nat.le_of_ble_eq_true rfl) rfl (fun x C0 => ?_)
  have C := C0.1
  refine y_aload_n C dL_sensor_0 rfl ?_
  refine y_iconst (v := 0) C dL_sensor_1 (by decide) ?_
  refine y_aload_n C dL_sensor_2 rfl ?_
  refine y_iload_n C dL_sensor_3 rfl ?_
  refine y_iload_n C dL_sensor_4 rfl ?_
  refine y_callZ C0 (e_X8_sensor _ _ hR hC hk I u v) dL_sensor_5 rfl gL_sensor_X8_sensor rfl is_X8 ⟨rfl, qX8_sensor⟩ ⟨rfl, rfl⟩ ⟨Nat.le_of_ble_eq_true rfl, Nat.le_of_ble_eq_true rfl⟩ rfl (Nat.le_of_ble_eq_true rfl) ⟨Nat.le_of_ble_eq_true rfl, Nat.le_of_ble_eq_true rfl⟩ (fun E hE => ?_) (fun v9 σ1 τ1 hq => ?_)
  ·
    rcases hE with ⟨rfl, hk1⟩ | ⟨rfl, hk1⟩
    · exact ⟨13, ⟨[], ⟨0, 10, 13, 19⟩, [⟨0, 10, 17, 13⟩], rfl, fun z h => absurd h List.not_mem_nil, by decide, by decide, by decide +kernel, by decide, rfl⟩, yh_astore C dL_sensor_13 (L' := [_, _, _, _, _]) (Nat.lt_of_lt_of_le (by decide : (4 : Nat) < 5) (Nat.le_refl _)) rfl (y_iconst (v := 1) C dL_sensor_15 (by decide) (w_iret C rfl dL_sensor_16 ⟨hk1.symm, Or.inr ⟨fun z => absurd (hk1.symm.trans z) (by decide), rfl⟩⟩))⟩
    · exact ⟨17, ⟨[⟨0, 10, 13, 19⟩], ⟨0, 10, 17, 13⟩, [], rfl, fun z h => by obtain rfl := List.mem_singleton.mp h; exact ⟨by decide, eIO, by decide, by decide, by decide +kernel⟩, by decide, by decide, by decide +kernel, by decide, rfl⟩, yh_astore C dL_sensor_17 (L' := [_, _, _, _, _]) (Nat.lt_of_lt_of_le (by decide : (4 : Nat) < 5) (Nat.le_refl _)) rfl (y_iconst (v := 2) C dL_sensor_19 (by decide) (w_iret C rfl dL_sensor_20 ⟨hk1.symm, Or.inr ⟨fun z => absurd (hk1.symm.trans z) (by decide), rfl⟩⟩))⟩
  ·
    obtain ⟨hk0, rfl, hR1, hC1, hF1, rfl⟩ := hq
    refine y_i2l C dL_sensor_8 ?_
    refine y_ls (a := 170) (N := 1) C 0 dL_sensor_9 (by decide) rfl (by decide) rfl (by decide) ?_
    refine y_goto (t := 21) C dL_sensor_10 (by decide) ?_
    refine y_iconst (v := 0) C dL_sensor_21 (by decide) ?_
    exact w_iret C rfl dL_sensor_22 ⟨hk0.symm, Or.inl ⟨hk0, upl (rfl), hR1, hC1, hF1⟩⟩
set_option maxHeartbeats 4000000 in
set_option maxRecDepth 100000 in
theorem e_L_addRule (σ : xS) (τ : xT) {r : Rw} {R ns nr ne t kp : Nat} {qs : Nat → Rw} (hR : Rel σ 1 r) (hC : Rc σ kp qs) (hk : kp ≤ 4) (I : Inv r R ns nr ne t (t + 1)) (k a b c : Int32) : Xw mL_addRule [.ref 0, .int k, .int a, .int b, .int c, .ref 170] σ τ (QL (kARu r k a b c) (r 11) σ (mARu r nr k a b c) (kK kp) (kQ kp qs r)) := by
  refine Xw_mk (hh := [(0, 14, 17, 19), (0, 14, 21, 13), (0, 14, 25, 48)]) (L := [some (.ref 0), some (.int k), some (.int a), some (.int b), some (.int c), some (.ref 170), none]) (by decide) rfl (Nat.le_of_ble_eq_true rfl) rfl (fun x C0 => ?_)
  have C := C0.1
  refine y_aload C dL_addRule_0 rfl ?_
  refine y_iconst (v := 0) C dL_addRule_2 (by decide) ?_
  refine y_aload_n C dL_addRule_3 rfl ?_
  refine y_iload_n C dL_addRule_4 rfl ?_
  refine y_iload_n C dL_addRule_5 rfl ?_
  refine y_iload_n C dL_addRule_6 rfl ?_
  refine y_iload C dL_addRule_7 rfl ?_
  refine y_callZ C0 (e_X8_addRule _ _ hR hC hk I k a b c) dL_addRule_9 rfl gL_addRule_X8_addRule rfl is_X8 ⟨rfl, qX8_addRule⟩ ⟨rfl, rfl⟩ ⟨Nat.le_of_ble_eq_true rfl, Nat.le_of_ble_eq_true rfl⟩ rfl (Nat.le_of_ble_eq_true rfl) ⟨Nat.le_of_ble_eq_true rfl, Nat.le_of_ble_eq_true rfl⟩ (fun E hE => ?_) (fun v9 σ1 τ1 hq => ?_)
  ·
    rcases hE with ⟨rfl, hk1⟩ | ⟨rfl, hk1⟩ | ⟨rfl, hk1⟩
    · exact ⟨17, ⟨[], ⟨0, 14, 17, 19⟩, [⟨0, 14, 21, 13⟩, ⟨0, 14, 25, 48⟩], rfl, fun z h => absurd h List.not_mem_nil, by decide, by decide, by decide +kernel, by decide, rfl⟩, yh_astore C dL_addRule_17 (L' := [_, _, _, _, _, _, _]) (Nat.lt_of_lt_of_le (by decide : (6 : Nat) < 7) (Nat.le_refl _)) rfl (y_iconst (v := 1) C dL_addRule_19 (by decide) (w_iret C rfl dL_addRule_20 ⟨hk1.symm, Or.inr ⟨fun z => absurd (hk1.symm.trans z) (by decide), rfl⟩⟩))⟩
    · exact ⟨21, ⟨[⟨0, 14, 17, 19⟩], ⟨0, 14, 21, 13⟩, [⟨0, 14, 25, 48⟩], rfl, fun z h => by obtain rfl := List.mem_singleton.mp h; exact ⟨by decide, eIO, by decide, by decide, by decide +kernel⟩, by decide, by decide, by decide +kernel, by decide, rfl⟩, yh_astore C dL_addRule_21 (L' := [_, _, _, _, _, _, _]) (Nat.lt_of_lt_of_le (by decide : (6 : Nat) < 7) (Nat.le_refl _)) rfl (y_iconst (v := 2) C dL_addRule_23 (by decide) (w_iret C rfl dL_addRule_24 ⟨hk1.symm, Or.inr ⟨fun z => absurd (hk1.symm.trans z) (by decide), rfl⟩⟩))⟩
    · exact ⟨25, ⟨[⟨0, 14, 17, 19⟩, ⟨0, 14, 21, 13⟩], ⟨0, 14, 25, 48⟩, [], rfl, fun z h => by rcases List.mem_cons.mp h with rfl | h; exact ⟨by decide, eIO, by decide, by decide, by decide +kernel⟩; obtain rfl := List.mem_singleton.mp h; exact ⟨by decide, eIA, by decide, by decide, by decide +kernel⟩, by decide, by decide, by decide +kernel, by decide, rfl⟩, yh_astore C dL_addRule_25 (L' := [_, _, _, _, _, _, _]) (Nat.lt_of_lt_of_le (by decide : (6 : Nat) < 7) (Nat.le_refl _)) rfl (y_iconst (v := 3) C dL_addRule_27 (by decide) (w_iret C rfl dL_addRule_28 ⟨hk1.symm, Or.inr ⟨fun z => absurd (hk1.symm.trans z) (by decide), rfl⟩⟩))⟩
  ·
    obtain ⟨hk0, rfl, hR1, hC1, hF1, rfl⟩ := hq
    refine y_i2l C dL_addRule_12 ?_
    refine y_ls (a := 170) (N := 1) C 0 dL_addRule_13 (by decide) rfl (by decide) rfl (by decide) ?_
    refine y_goto (t := 29) C dL_addRule_14 (by decide) ?_
    refine y_iconst (v := 0) C dL_addRule_29 (by decide) ?_
    exact w_iret C rfl dL_addRule_30 ⟨hk0.symm, Or.inl ⟨hk0, upl (rfl), hR1, hC1, hF1⟩⟩
set_option maxHeartbeats 4000000 in
set_option maxRecDepth 100000 in
theorem e_L_removeRule (σ : xS) (τ : xT) {r : Rw} {R ns nr ne t kp : Nat} {qs : Nat → Rw} (hR : Rel σ 1 r) (hC : Rc σ kp qs) (hk : kp ≤ 4) (I : Inv r R ns nr ne t (t + 1)) (u : Int32) : Xw mL_removeRule [.ref 0, .int u, .ref 170] σ τ (QL (kRem r u) (r 11 - 1) σ (mDro r (cN u) nr) (kK kp) (kQ kp qs r)) := by
  refine Xw_mk (hh := [(0, 9, 12, 19)]) (L := [some (.ref 0), some (.int u), some (.ref 170), none]) (by decide) rfl (Nat.le_of_ble_eq_true rfl) rfl (fun x C0 => ?_)
  have C := C0.1
  refine y_aload_n C dL_removeRule_0 rfl ?_
  refine y_iconst (v := 0) C dL_removeRule_1 (by decide) ?_
  refine y_aload_n C dL_removeRule_2 rfl ?_
  refine y_iload_n C dL_removeRule_3 rfl ?_
  refine y_callZ C0 (e_X8_removeRule _ _ hR hC hk I u) dL_removeRule_4 rfl gL_removeRule_X8_removeRule rfl is_X8 ⟨rfl, qX8_removeRule⟩ ⟨rfl, rfl⟩ ⟨Nat.le_of_ble_eq_true rfl, Nat.le_of_ble_eq_true rfl⟩ rfl (Nat.le_of_ble_eq_true rfl) ⟨Nat.le_of_ble_eq_true rfl, Nat.le_of_ble_eq_true rfl⟩ (fun E hE => ?_) (fun v9 σ1 τ1 hq => ?_)
  ·
    obtain ⟨rfl, hk1⟩ := hE
    exact ⟨12, ⟨[], ⟨0, 9, 12, 19⟩, [], rfl, fun z h => absurd h List.not_mem_nil, by decide, by decide, by decide +kernel, by decide, rfl⟩, yh_astore_n C dL_removeRule_12 (L' := [_, _, _, _]) (Nat.lt_of_lt_of_le (by decide : (3 : Nat) < 4) (Nat.le_refl _)) rfl (y_iconst (v := 1) C dL_removeRule_13 (by decide) (w_iret C rfl dL_removeRule_14 ⟨hk1.symm, Or.inr ⟨fun z => absurd (hk1.symm.trans z) (by decide), rfl⟩⟩))⟩
  ·
    obtain ⟨hk0, rfl, hR1, hC1, hF1, rfl⟩ := hq
    refine y_i2l C dL_removeRule_7 ?_
    refine y_ls (a := 170) (N := 1) C 0 dL_removeRule_8 (by decide) rfl (by decide) rfl (by decide) ?_
    refine y_goto (t := 15) C dL_removeRule_9 (by decide) ?_
    refine y_iconst (v := 0) C dL_removeRule_15 (by decide) ?_
    exact w_iret C rfl dL_removeRule_16 ⟨hk0.symm, Or.inl ⟨hk0, upl (rfl), hR1, hC1, hF1⟩⟩
set_option maxHeartbeats 4000000 in
set_option maxRecDepth 100000 in
theorem e_L_addEvent (σ : xS) (τ : xT) {r : Rw} {R ns nr ne t kp : Nat} {qs : Nat → Rw} (hR : Rel σ 1 r) (hC : Rc σ kp qs) (hk : kp ≤ 4) (I : Inv r R ns nr ne t (t + 1)) (m k a b : Int32) : Xw mL_addEvent [.ref 0, .int m, .int k, .int a, .int b, .ref 170] σ τ (QL (kAEv r m k a b) (r 12 + 1) σ (mIns r (mPlF r m ne) ne m k a b) (kK kp) (kQ kp qs r)) := by
  refine Xw_mk (hh := [(0, 14, 17, 13), (0, 14, 21, 48)]) (L := [some (.ref 0), some (.int m), some (.int k), some (.int a), some (.int b), some (.ref 170), none]) (by decide) rfl (Nat.le_of_ble_eq_true rfl) rfl (fun x C0 => ?_)
  have C := C0.1
  refine y_aload C dL_addEvent_0 rfl ?_
  refine y_iconst (v := 0) C dL_addEvent_2 (by decide) ?_
  refine y_aload_n C dL_addEvent_3 rfl ?_
  refine y_iload_n C dL_addEvent_4 rfl ?_
  refine y_iload_n C dL_addEvent_5 rfl ?_
  refine y_iload_n C dL_addEvent_6 rfl ?_
  refine y_iload C dL_addEvent_7 rfl ?_
  refine y_callZ C0 (e_X8_addEvent _ _ hR hC hk I m k a b) dL_addEvent_9 rfl gL_addEvent_X8_addEvent rfl is_X8 ⟨rfl, qX8_addEvent⟩ ⟨rfl, rfl⟩ ⟨Nat.le_of_ble_eq_true rfl, Nat.le_of_ble_eq_true rfl⟩ rfl (Nat.le_of_ble_eq_true rfl) ⟨Nat.le_of_ble_eq_true rfl, Nat.le_of_ble_eq_true rfl⟩ (fun E hE => ?_) (fun v9 σ1 τ1 hq => ?_)
  ·
    rcases hE with ⟨rfl, hk1⟩ | ⟨rfl, hk1⟩
    · exact ⟨17, ⟨[], ⟨0, 14, 17, 13⟩, [⟨0, 14, 21, 48⟩], rfl, fun z h => absurd h List.not_mem_nil, by decide, by decide, by decide +kernel, by decide, rfl⟩, yh_astore C dL_addEvent_17 (L' := [_, _, _, _, _, _, _]) (Nat.lt_of_lt_of_le (by decide : (6 : Nat) < 7) (Nat.le_refl _)) rfl (y_iconst (v := 1) C dL_addEvent_19 (by decide) (w_iret C rfl dL_addEvent_20 ⟨hk1.symm, Or.inr ⟨fun z => absurd (hk1.symm.trans z) (by decide), rfl⟩⟩))⟩
    · exact ⟨21, ⟨[⟨0, 14, 17, 13⟩], ⟨0, 14, 21, 48⟩, [], rfl, fun z h => by obtain rfl := List.mem_singleton.mp h; exact ⟨by decide, eIA, by decide, by decide, by decide +kernel⟩, by decide, by decide, by decide +kernel, by decide, rfl⟩, yh_astore C dL_addEvent_21 (L' := [_, _, _, _, _, _, _]) (Nat.lt_of_lt_of_le (by decide : (6 : Nat) < 7) (Nat.le_refl _)) rfl (y_iconst (v := 2) C dL_addEvent_23 (by decide) (w_iret C rfl dL_addEvent_24 ⟨hk1.symm, Or.inr ⟨fun z => absurd (hk1.symm.trans z) (by decide), rfl⟩⟩))⟩
  ·
    obtain ⟨hk0, rfl, hR1, hC1, hF1, rfl⟩ := hq
    refine y_i2l C dL_addEvent_12 ?_
    refine y_ls (a := 170) (N := 1) C 0 dL_addEvent_13 (by decide) rfl (by decide) rfl (by decide) ?_
    refine y_goto (t := 25) C dL_addEvent_14 (by decide) ?_
    refine y_iconst (v := 0) C dL_addEvent_25 (by decide) ?_
    exact w_iret C rfl dL_addEvent_26 ⟨hk0.symm, Or.inl ⟨hk0, upl (rfl), hR1, hC1, hF1⟩⟩
set_option maxHeartbeats 4000000 in
set_option maxRecDepth 100000 in
theorem e_L_event (σ : xS) (τ : xT) {r : Rw} {R ns nr ne t kp : Nat} {qs : Nat → Rw} (hR : Rel σ 1 r) (hC : Rc σ kp qs) (hk : kp ≤ 4) (I : Inv r R ns nr ne t (t + 1)) (u v : Int32) : Xw mL_event [.ref 0, .int u, .int v, .ref 170] σ τ (QL (kW v 0 3) ((if 0 ≤ u ∧ u < r 12 then r (145 + 4 * cN u + cN v) else -1)) σ (r) (kp) (qs)) := by
  refine Xw_mk (hh := [(0, 10, 13, 13)]) (L := [some (.ref 0), some (.int u), some (.int v), some (.ref 170), none]) (by decide) rfl (Nat.le_of_ble_eq_true rfl) rfl (fun x C0 => ?_)
  have C := C0.1
  refine y_aload_n C dL_event_0 rfl ?_
  refine y_iconst (v := 0) C dL_event_1 (by decide) ?_
  refine y_aload_n C dL_event_2 rfl ?_
  refine y_iload_n C dL_event_3 rfl ?_
  refine y_iload_n C dL_event_4 rfl ?_
  refine y_callZ C0 (e_X8_event _ _ hR hC hk I u v) dL_event_5 rfl gL_event_X8_event rfl is_X8 ⟨rfl, qX8_event⟩ ⟨rfl, rfl⟩ ⟨Nat.le_of_ble_eq_true rfl, Nat.le_of_ble_eq_true rfl⟩ rfl (Nat.le_of_ble_eq_true rfl) ⟨Nat.le_of_ble_eq_true rfl, Nat.le_of_ble_eq_true rfl⟩ (fun E hE => ?_) (fun v9 σ1 τ1 hq => ?_)
  ·
    obtain ⟨rfl, hk1⟩ := hE
    exact ⟨13, ⟨[], ⟨0, 10, 13, 13⟩, [], rfl, fun z h => absurd h List.not_mem_nil, by decide, by decide, by decide +kernel, by decide, rfl⟩, yh_astore C dL_event_13 (L' := [_, _, _, _, _]) (Nat.lt_of_lt_of_le (by decide : (4 : Nat) < 5) (Nat.le_refl _)) rfl (y_iconst (v := 1) C dL_event_15 (by decide) (w_iret C rfl dL_event_16 ⟨hk1.symm, Or.inr ⟨fun z => absurd (hk1.symm.trans z) (by decide), rfl⟩⟩))⟩
  ·
    obtain ⟨hk0, rfl, hR1, hC1, hF1, rfl⟩ := hq
    refine y_i2l C dL_event_8 ?_
    refine y_ls (a := 170) (N := 1) C 0 dL_event_9 (by decide) rfl (by decide) rfl (by decide) ?_
    refine y_goto (t := 17) C dL_event_10 (by decide) ?_
    refine y_iconst (v := 0) C dL_event_17 (by decide) ?_
    exact w_iret C rfl dL_event_18 ⟨hk0.symm, Or.inl ⟨hk0, upl (rfl), hR1, hC1, hF1⟩⟩
set_option maxHeartbeats 4000000 in
set_option maxRecDepth 100000 in
theorem e_L_mute (σ : xS) (τ : xT) {r : Rw} {R ns nr ne t kp : Nat} {qs : Nat → Rw} (hR : Rel σ 1 r) (hC : Rc σ kp qs) (hk : kp ≤ 4) (I : Inv r R ns nr ne t (t + 1)) (u v : Int32) : Xw mL_mute [.ref 0, .int u, .int v, .ref 170] σ τ (QL (kRW r u v 0 60) (r (28 + cN u)) σ (upd r (28 + cN u) v) (kK kp) (kQ kp qs r)) := by
  refine Xw_mk (hh := [(0, 10, 13, 19), (0, 10, 17, 13)]) (L := [some (.ref 0), some (.int u), some (.int v), some (.ref 170), none]) (by decide) rfl (Nat.le_of_ble_eq_true rfl) rfl (fun x C0 => ?_)
  have C := C0.1
  refine y_aload_n C dL_mute_0 rfl ?_
  refine y_iconst (v := 0) C dL_mute_1 (by decide) ?_
  refine y_aload_n C dL_mute_2 rfl ?_
  refine y_iload_n C dL_mute_3 rfl ?_
  refine y_iload_n C dL_mute_4 rfl ?_
  refine y_callZ C0 (e_X8_mute _ _ hR hC hk I u v) dL_mute_5 rfl gL_mute_X8_mute rfl is_X8 ⟨rfl, qX8_mute⟩ ⟨rfl, rfl⟩ ⟨Nat.le_of_ble_eq_true rfl, Nat.le_of_ble_eq_true rfl⟩ rfl (Nat.le_of_ble_eq_true rfl) ⟨Nat.le_of_ble_eq_true rfl, Nat.le_of_ble_eq_true rfl⟩ (fun E hE => ?_) (fun v9 σ1 τ1 hq => ?_)
  ·
    rcases hE with ⟨rfl, hk1⟩ | ⟨rfl, hk1⟩
    · exact ⟨13, ⟨[], ⟨0, 10, 13, 19⟩, [⟨0, 10, 17, 13⟩], rfl, fun z h => absurd h List.not_mem_nil, by decide, by decide, by decide +kernel, by decide, rfl⟩, yh_astore C dL_mute_13 (L' := [_, _, _, _, _]) (Nat.lt_of_lt_of_le (by decide : (4 : Nat) < 5) (Nat.le_refl _)) rfl (y_iconst (v := 1) C dL_mute_15 (by decide) (w_iret C rfl dL_mute_16 ⟨hk1.symm, Or.inr ⟨fun z => absurd (hk1.symm.trans z) (by decide), rfl⟩⟩))⟩
    · exact ⟨17, ⟨[⟨0, 10, 13, 19⟩], ⟨0, 10, 17, 13⟩, [], rfl, fun z h => by obtain rfl := List.mem_singleton.mp h; exact ⟨by decide, eIO, by decide, by decide, by decide +kernel⟩, by decide, by decide, by decide +kernel, by decide, rfl⟩, yh_astore C dL_mute_17 (L' := [_, _, _, _, _]) (Nat.lt_of_lt_of_le (by decide : (4 : Nat) < 5) (Nat.le_refl _)) rfl (y_iconst (v := 2) C dL_mute_19 (by decide) (w_iret C rfl dL_mute_20 ⟨hk1.symm, Or.inr ⟨fun z => absurd (hk1.symm.trans z) (by decide), rfl⟩⟩))⟩
  ·
    obtain ⟨hk0, rfl, hR1, hC1, hF1, rfl⟩ := hq
    refine y_i2l C dL_mute_8 ?_
    refine y_ls (a := 170) (N := 1) C 0 dL_mute_9 (by decide) rfl (by decide) rfl (by decide) ?_
    refine y_goto (t := 21) C dL_mute_10 (by decide) ?_
    refine y_iconst (v := 0) C dL_mute_21 (by decide) ?_
    exact w_iret C rfl dL_mute_22 ⟨hk0.symm, Or.inl ⟨hk0, upl (rfl), hR1, hC1, hF1⟩⟩
set_option maxHeartbeats 4000000 in
set_option maxRecDepth 100000 in
theorem e_L_pass (σ : xS) (τ : xT) {r : Rw} {R ns nr ne t kp : Nat} {qs : Nat → Rw} (hR : Rel σ 1 r) (hC : Rc σ kp qs) (hk : kp ≤ 4) (I : Inv r R ns nr ne t (t + 1)) (hs : Sk r) (ht : t + 200 ≤ 1000000) (u : Int32) : Xw mL_pass [.ref 0, .int u, .ref 170] σ τ (QL (kW u 1 60) (mNewN r (cN u) 0) σ (mMinN r (cN u)) (kK kp) (kQ kp qs r)) := by
  refine Xw_mk (hh := [(0, 9, 12, 13)]) (L := [some (.ref 0), some (.int u), some (.ref 170), none]) (by decide) rfl (Nat.le_of_ble_eq_true rfl) rfl (fun x C0 => ?_)
  have C := C0.1
  refine y_aload_n C dL_pass_0 rfl ?_
  refine y_iconst (v := 0) C dL_pass_1 (by decide) ?_
  refine y_aload_n C dL_pass_2 rfl ?_
  refine y_iload_n C dL_pass_3 rfl ?_
  refine y_callZ C0 (e_X8_pass _ _ hR hC hk I hs ht u) dL_pass_4 rfl gL_pass_X8_pass rfl is_X8 ⟨rfl, qX8_pass⟩ ⟨rfl, rfl⟩ ⟨Nat.le_of_ble_eq_true rfl, Nat.le_of_ble_eq_true rfl⟩ rfl (Nat.le_of_ble_eq_true rfl) ⟨Nat.le_of_ble_eq_true rfl, Nat.le_of_ble_eq_true rfl⟩ (fun E hE => ?_) (fun v9 σ1 τ1 hq => ?_)
  ·
    obtain ⟨rfl, hk1⟩ := hE
    exact ⟨12, ⟨[], ⟨0, 9, 12, 13⟩, [], rfl, fun z h => absurd h List.not_mem_nil, by decide, by decide, by decide +kernel, by decide, rfl⟩, yh_astore_n C dL_pass_12 (L' := [_, _, _, _]) (Nat.lt_of_lt_of_le (by decide : (3 : Nat) < 4) (Nat.le_refl _)) rfl (y_iconst (v := 1) C dL_pass_13 (by decide) (w_iret C rfl dL_pass_14 ⟨hk1.symm, Or.inr ⟨fun z => absurd (hk1.symm.trans z) (by decide), rfl⟩⟩))⟩
  ·
    obtain ⟨hk0, rfl, hR1, hC1, hF1, rfl⟩ := hq
    refine y_i2l C dL_pass_7 ?_
    refine y_ls (a := 170) (N := 1) C 0 dL_pass_8 (by decide) rfl (by decide) rfl (by decide) ?_
    refine y_goto (t := 15) C dL_pass_9 (by decide) ?_
    refine y_iconst (v := 0) C dL_pass_15 (by decide) ?_
    exact w_iret C rfl dL_pass_16 ⟨hk0.symm, Or.inl ⟨hk0, upl (rfl), hR1, hC1, hF1⟩⟩
set_option maxHeartbeats 4000000 in
set_option maxRecDepth 100000 in
theorem e_L_told (σ : xS) (τ : xT) {r : Rw} {R ns nr ne t kp : Nat} {qs : Nat → Rw} (hR : Rel σ 1 r) (hC : Rc σ kp qs) (hk : kp ≤ 4) (I : Inv r R ns nr ne t (t + 1)) (u : Int32) : Xw mL_told [.ref 0, .int u, .ref 170] σ τ (QL (kW u 0 5) (r (13 + cN u)) σ (r) (kp) (qs)) := by
  refine Xw_mk (hh := [(0, 9, 12, 13)]) (L := [some (.ref 0), some (.int u), some (.ref 170), none]) (by decide) rfl (Nat.le_of_ble_eq_true rfl) rfl (fun x C0 => ?_)
  have C := C0.1
  refine y_aload_n C dL_told_0 rfl ?_
  refine y_iconst (v := 0) C dL_told_1 (by decide) ?_
  refine y_aload_n C dL_told_2 rfl ?_
  refine y_iload_n C dL_told_3 rfl ?_
  refine y_callZ C0 (e_X8_told _ _ hR hC hk I u) dL_told_4 rfl gL_told_X8_told rfl is_X8 ⟨rfl, qX8_told⟩ ⟨rfl, rfl⟩ ⟨Nat.le_of_ble_eq_true rfl, Nat.le_of_ble_eq_true rfl⟩ rfl (Nat.le_of_ble_eq_true rfl) ⟨Nat.le_of_ble_eq_true rfl, Nat.le_of_ble_eq_true rfl⟩ (fun E hE => ?_) (fun v9 σ1 τ1 hq => ?_)
  ·
    obtain ⟨rfl, hk1⟩ := hE
    exact ⟨12, ⟨[], ⟨0, 9, 12, 13⟩, [], rfl, fun z h => absurd h List.not_mem_nil, by decide, by decide, by decide +kernel, by decide, rfl⟩, yh_astore_n C dL_told_12 (L' := [_, _, _, _]) (Nat.lt_of_lt_of_le (by decide : (3 : Nat) < 4) (Nat.le_refl _)) rfl (y_iconst (v := 1) C dL_told_13 (by decide) (w_iret C rfl dL_told_14 ⟨hk1.symm, Or.inr ⟨fun z => absurd (hk1.symm.trans z) (by decide), rfl⟩⟩))⟩
  ·
    obtain ⟨hk0, rfl, hR1, hC1, hF1, rfl⟩ := hq
    refine y_i2l C dL_told_7 ?_
    refine y_ls (a := 170) (N := 1) C 0 dL_told_8 (by decide) rfl (by decide) rfl (by decide) ?_
    refine y_goto (t := 15) C dL_told_9 (by decide) ?_
    refine y_iconst (v := 0) C dL_told_15 (by decide) ?_
    exact w_iret C rfl dL_told_16 ⟨hk0.symm, Or.inl ⟨hk0, upl (rfl), hR1, hC1, hF1⟩⟩
set_option maxHeartbeats 4000000 in
set_option maxRecDepth 100000 in
theorem e_L_alarmIn (σ : xS) (τ : xT) {r : Rw} {R ns nr ne t kp : Nat} {qs : Nat → Rw} (hR : Rel σ 1 r) (hC : Rc σ kp qs) (hk : kp ≤ 4) (I : Inv r R ns nr ne t (t + 1)) (hs : Sk r) (ht : t + 200 ≤ 1000000) (u v : Int32) : Xw mL_alarmIn [.ref 0, .int u, .int v, .ref 170] σ τ (QL (kRW r u v 1 200) (mAIn r (cN u) (cN v)) σ (r) (kp) (qs)) := by
  refine Xw_mk (hh := [(0, 10, 13, 19), (0, 10, 17, 13)]) (L := [some (.ref 0), some (.int u), some (.int v), some (.ref 170), none]) (by decide) rfl (Nat.le_of_ble_eq_true rfl) rfl (fun x C0 => ?_)
  have C := C0.1
  refine y_aload_n C dL_alarmIn_0 rfl ?_
  refine y_iconst (v := 0) C dL_alarmIn_1 (by decide) ?_
  refine y_aload_n C dL_alarmIn_2 rfl ?_
  refine y_iload_n C dL_alarmIn_3 rfl ?_
  refine y_iload_n C dL_alarmIn_4 rfl ?_
  refine y_callZ C0 (e_X8_alarmIn _ _ hR hC hk I hs ht u v) dL_alarmIn_5 rfl gL_alarmIn_X8_alarmIn rfl is_X8 ⟨rfl, qX8_alarmIn⟩ ⟨rfl, rfl⟩ ⟨Nat.le_of_ble_eq_true rfl, Nat.le_of_ble_eq_true rfl⟩ rfl (Nat.le_of_ble_eq_true rfl) ⟨Nat.le_of_ble_eq_true rfl, Nat.le_of_ble_eq_true rfl⟩ (fun E hE => ?_) (fun v9 σ1 τ1 hq => ?_)
  ·
    rcases hE with ⟨rfl, hk1⟩ | ⟨rfl, hk1⟩
    · exact ⟨13, ⟨[], ⟨0, 10, 13, 19⟩, [⟨0, 10, 17, 13⟩], rfl, fun z h => absurd h List.not_mem_nil, by decide, by decide, by decide +kernel, by decide, rfl⟩, yh_astore C dL_alarmIn_13 (L' := [_, _, _, _, _]) (Nat.lt_of_lt_of_le (by decide : (4 : Nat) < 5) (Nat.le_refl _)) rfl (y_iconst (v := 1) C dL_alarmIn_15 (by decide) (w_iret C rfl dL_alarmIn_16 ⟨hk1.symm, Or.inr ⟨fun z => absurd (hk1.symm.trans z) (by decide), rfl⟩⟩))⟩
    · exact ⟨17, ⟨[⟨0, 10, 13, 19⟩], ⟨0, 10, 17, 13⟩, [], rfl, fun z h => by obtain rfl := List.mem_singleton.mp h; exact ⟨by decide, eIO, by decide, by decide, by decide +kernel⟩, by decide, by decide, by decide +kernel, by decide, rfl⟩, yh_astore C dL_alarmIn_17 (L' := [_, _, _, _, _]) (Nat.lt_of_lt_of_le (by decide : (4 : Nat) < 5) (Nat.le_refl _)) rfl (y_iconst (v := 2) C dL_alarmIn_19 (by decide) (w_iret C rfl dL_alarmIn_20 ⟨hk1.symm, Or.inr ⟨fun z => absurd (hk1.symm.trans z) (by decide), rfl⟩⟩))⟩
  ·
    obtain ⟨hk0, rfl, hR1, hC1, hF1, rfl⟩ := hq
    refine y_i2l C dL_alarmIn_8 ?_
    refine y_ls (a := 170) (N := 1) C 0 dL_alarmIn_9 (by decide) rfl (by decide) rfl (by decide) ?_
    refine y_goto (t := 21) C dL_alarmIn_10 (by decide) ?_
    refine y_iconst (v := 0) C dL_alarmIn_21 (by decide) ?_
    exact w_iret C rfl dL_alarmIn_22 ⟨hk0.symm, Or.inl ⟨hk0, upl (rfl), hR1, hC1, hF1⟩⟩
set_option maxHeartbeats 4000000 in
set_option maxRecDepth 100000 in
theorem e_L_smokeAfter (σ : xS) (τ : xT) {r : Rw} {R ns nr ne t kp : Nat} {qs : Nat → Rw} (hR : Rel σ 1 r) (hC : Rc σ kp qs) (hk : kp ≤ 4) (I : Inv r R ns nr ne t (t + 1)) (hs : Sk r) (ht : t + 200 ≤ 1000000) (u v : Int32) : Xw mL_smokeAfter [.ref 0, .int u, .int v, .ref 170] σ τ (QL (kRW r u v 1 200) (mMinN r (cN v) (20 + cN u)) σ (r) (kp) (qs)) := by
  refine Xw_mk (hh := [(0, 10, 13, 19), (0, 10, 17, 13)]) (L := [some (.ref 0), some (.int u), some (.int v), some (.ref 170), none]) (by decide) rfl (Nat.le_of_ble_eq_true rfl) rfl (fun x C0 => ?_)
  have C := C0.1
  refine y_aload_n C dL_smokeAfter_0 rfl ?_
  refine y_iconst (v := 0) C dL_smokeAfter_1 (by decide) ?_
  refine y_aload_n C dL_smokeAfter_2 rfl ?_
  refine y_iload_n C dL_smokeAfter_3 rfl ?_
  refine y_iload_n C dL_smokeAfter_4 rfl ?_
  refine y_callZ C0 (e_X8_smokeAfter _ _ hR hC hk I hs ht u v) dL_smokeAfter_5 rfl gL_smokeAfter_X8_smokeAfter rfl is_X8 ⟨rfl, qX8_smokeAfter⟩ ⟨rfl, rfl⟩ ⟨Nat.le_of_ble_eq_true rfl, Nat.le_of_ble_eq_true rfl⟩ rfl (Nat.le_of_ble_eq_true rfl) ⟨Nat.le_of_ble_eq_true rfl, Nat.le_of_ble_eq_true rfl⟩ (fun E hE => ?_) (fun v9 σ1 τ1 hq => ?_)
  ·
    rcases hE with ⟨rfl, hk1⟩ | ⟨rfl, hk1⟩
    · exact ⟨13, ⟨[], ⟨0, 10, 13, 19⟩, [⟨0, 10, 17, 13⟩], rfl, fun z h => absurd h List.not_mem_nil, by decide, by decide, by decide +kernel, by decide, rfl⟩, yh_astore C dL_smokeAfter_13 (L' := [_, _, _, _, _]) (Nat.lt_of_lt_of_le (by decide : (4 : Nat) < 5) (Nat.le_refl _)) rfl (y_iconst (v := 1) C dL_smokeAfter_15 (by decide) (w_iret C rfl dL_smokeAfter_16 ⟨hk1.symm, Or.inr ⟨fun z => absurd (hk1.symm.trans z) (by decide), rfl⟩⟩))⟩
    · exact ⟨17, ⟨[⟨0, 10, 13, 19⟩], ⟨0, 10, 17, 13⟩, [], rfl, fun z h => by obtain rfl := List.mem_singleton.mp h; exact ⟨by decide, eIO, by decide, by decide, by decide +kernel⟩, by decide, by decide, by decide +kernel, by decide, rfl⟩, yh_astore C dL_smokeAfter_17 (L' := [_, _, _, _, _]) (Nat.lt_of_lt_of_le (by decide : (4 : Nat) < 5) (Nat.le_refl _)) rfl (y_iconst (v := 2) C dL_smokeAfter_19 (by decide) (w_iret C rfl dL_smokeAfter_20 ⟨hk1.symm, Or.inr ⟨fun z => absurd (hk1.symm.trans z) (by decide), rfl⟩⟩))⟩
  ·
    obtain ⟨hk0, rfl, hR1, hC1, hF1, rfl⟩ := hq
    refine y_i2l C dL_smokeAfter_8 ?_
    refine y_ls (a := 170) (N := 1) C 0 dL_smokeAfter_9 (by decide) rfl (by decide) rfl (by decide) ?_
    refine y_goto (t := 21) C dL_smokeAfter_10 (by decide) ?_
    refine y_iconst (v := 0) C dL_smokeAfter_21 (by decide) ?_
    exact w_iret C rfl dL_smokeAfter_22 ⟨hk0.symm, Or.inl ⟨hk0, upl (rfl), hR1, hC1, hF1⟩⟩
set_option maxHeartbeats 4000000 in
set_option maxRecDepth 100000 in
theorem e_L_peak (σ : xS) (τ : xT) {r : Rw} {R ns nr ne t kp : Nat} {qs : Nat → Rw} (hR : Rel σ 1 r) (hC : Rc σ kp qs) (hk : kp ≤ 4) (I : Inv r R ns nr ne t (t + 1)) (hs : Sk r) (ht : t + 200 ≤ 1000000) (u o v : Int32) : Xw mL_peak [.ref 0, .int u, .int o, .int v, .ref 170] σ τ (QL (kPeak r u o v) (mPk r (cN u) o (cN v)) σ (r) (kp) (qs)) := by
  refine Xw_mk (hh := [(0, 12, 15, 19), (0, 12, 19, 13)]) (L := [some (.ref 0), some (.int u), some (.int o), some (.int v), some (.ref 170), none]) (by decide) rfl (Nat.le_of_ble_eq_true rfl) rfl (fun x C0 => ?_)
  have C := C0.1
  refine y_aload C dL_peak_0 rfl ?_
  refine y_iconst (v := 0) C dL_peak_2 (by decide) ?_
  refine y_aload_n C dL_peak_3 rfl ?_
  refine y_iload_n C dL_peak_4 rfl ?_
  refine y_iload_n C dL_peak_5 rfl ?_
  refine y_iload_n C dL_peak_6 rfl ?_
  refine y_callZ C0 (e_X8_peak _ _ hR hC hk I hs ht u o v) dL_peak_7 rfl gL_peak_X8_peak rfl is_X8 ⟨rfl, qX8_peak⟩ ⟨rfl, rfl⟩ ⟨Nat.le_of_ble_eq_true rfl, Nat.le_of_ble_eq_true rfl⟩ rfl (Nat.le_of_ble_eq_true rfl) ⟨Nat.le_of_ble_eq_true rfl, Nat.le_of_ble_eq_true rfl⟩ (fun E hE => ?_) (fun v9 σ1 τ1 hq => ?_)
  ·
    rcases hE with ⟨rfl, hk1⟩ | ⟨rfl, hk1⟩
    · exact ⟨15, ⟨[], ⟨0, 12, 15, 19⟩, [⟨0, 12, 19, 13⟩], rfl, fun z h => absurd h List.not_mem_nil, by decide, by decide, by decide +kernel, by decide, rfl⟩, yh_astore C dL_peak_15 (L' := [_, _, _, _, _, _]) (Nat.lt_of_lt_of_le (by decide : (5 : Nat) < 6) (Nat.le_refl _)) rfl (y_iconst (v := 1) C dL_peak_17 (by decide) (w_iret C rfl dL_peak_18 ⟨hk1.symm, Or.inr ⟨fun z => absurd (hk1.symm.trans z) (by decide), rfl⟩⟩))⟩
    · exact ⟨19, ⟨[⟨0, 12, 15, 19⟩], ⟨0, 12, 19, 13⟩, [], rfl, fun z h => by obtain rfl := List.mem_singleton.mp h; exact ⟨by decide, eIO, by decide, by decide, by decide +kernel⟩, by decide, by decide, by decide +kernel, by decide, rfl⟩, yh_astore C dL_peak_19 (L' := [_, _, _, _, _, _]) (Nat.lt_of_lt_of_le (by decide : (5 : Nat) < 6) (Nat.le_refl _)) rfl (y_iconst (v := 2) C dL_peak_21 (by decide) (w_iret C rfl dL_peak_22 ⟨hk1.symm, Or.inr ⟨fun z => absurd (hk1.symm.trans z) (by decide), rfl⟩⟩))⟩
  ·
    obtain ⟨hk0, rfl, hR1, hC1, hF1, rfl⟩ := hq
    refine y_i2l C dL_peak_10 ?_
    refine y_ls (a := 170) (N := 1) C 0 dL_peak_11 (by decide) rfl (by decide) rfl (by decide) ?_
    refine y_goto (t := 23) C dL_peak_12 (by decide) ?_
    refine y_iconst (v := 0) C dL_peak_23 (by decide) ?_
    exact w_iret C rfl dL_peak_24 ⟨hk0.symm, Or.inl ⟨hk0, upl (rfl), hR1, hC1, hF1⟩⟩
set_option maxHeartbeats 4000000 in
set_option maxRecDepth 100000 in
theorem e_L_bestOpening (σ : xS) (τ : xT) {r : Rw} {R ns nr ne t kp : Nat} {qs : Nat → Rw} (hR : Rel σ 1 r) (hC : Rc σ kp qs) (hk : kp ≤ 4) (I : Inv r R ns nr ne t (t + 1)) (hs : Sk r) (ht : t + 200 ≤ 1000000) (u : Int32) : Xw mL_bestOpening [.ref 0, .int u, .ref 170] σ τ (QL (kW u 1 200) (nI (mBe r (cN u) 8)) σ (r) (kp) (qs)) := by
  refine Xw_mk (hh := [(0, 9, 12, 13)]) (L := [some (.ref 0), some (.int u), some (.ref 170), none]) (by decide) rfl (Nat.le_of_ble_eq_true rfl) rfl (fun x C0 => ?_)
  have C := C0.1
  refine y_aload_n C dL_bestOpening_0 rfl ?_
  refine y_iconst (v := 0) C dL_bestOpening_1 (by decide) ?_
  refine y_aload_n C dL_bestOpening_2 rfl ?_
  refine y_iload_n C dL_bestOpening_3 rfl ?_
  refine y_callZ C0 (e_X8_bestOpening _ _ hR hC hk I hs ht u) dL_bestOpening_4 rfl gL_bestOpening_X8_bestOpening rfl is_X8 ⟨rfl, qX8_bestOpening⟩ ⟨rfl, rfl⟩ ⟨Nat.le_of_ble_eq_true rfl, Nat.le_of_ble_eq_true rfl⟩ rfl (Nat.le_of_ble_eq_true rfl) ⟨Nat.le_of_ble_eq_true rfl, Nat.le_of_ble_eq_true rfl⟩ (fun E hE => ?_) (fun v9 σ1 τ1 hq => ?_)
  ·
    obtain ⟨rfl, hk1⟩ := hE
    exact ⟨12, ⟨[], ⟨0, 9, 12, 13⟩, [], rfl, fun z h => absurd h List.not_mem_nil, by decide, by decide, by decide +kernel, by decide, rfl⟩, yh_astore_n C dL_bestOpening_12 (L' := [_, _, _, _]) (Nat.lt_of_lt_of_le (by decide : (3 : Nat) < 4) (Nat.le_refl _)) rfl (y_iconst (v := 1) C dL_bestOpening_13 (by decide) (w_iret C rfl dL_bestOpening_14 ⟨hk1.symm, Or.inr ⟨fun z => absurd (hk1.symm.trans z) (by decide), rfl⟩⟩))⟩
  ·
    obtain ⟨hk0, rfl, hR1, hC1, hF1, rfl⟩ := hq
    refine y_i2l C dL_bestOpening_7 ?_
    refine y_ls (a := 170) (N := 1) C 0 dL_bestOpening_8 (by decide) rfl (by decide) rfl (by decide) ?_
    refine y_goto (t := 15) C dL_bestOpening_9 (by decide) ?_
    refine y_iconst (v := 0) C dL_bestOpening_15 (by decide) ?_
    exact w_iret C rfl dL_bestOpening_16 ⟨hk0.symm, Or.inl ⟨hk0, upl (rfl), hR1, hC1, hF1⟩⟩
set_option maxHeartbeats 4000000 in
set_option maxRecDepth 100000 in
theorem e_L_neededSensors (σ : xS) (τ : xT) {r : Rw} {R ns nr ne t kp : Nat} {qs : Nat → Rw} (hR : Rel σ 1 r) (hC : Rc σ kp qs) (hk : kp ≤ 4) (I : Inv r R ns nr ne t (t + 1)) (hs : Sk r) (ht : t + 200 ≤ 1000000) (u v : Int32) : Xw mL_neededSensors [.ref 0, .int u, .int v, .ref 170] σ τ (QL (kRW r u v 1 200) (mNee r (cN u) (cN v) ns) σ (r) (kp) (qs)) := by
  refine Xw_mk (hh := [(0, 10, 13, 19), (0, 10, 17, 13)]) (L := [some (.ref 0), some (.int u), some (.int v), some (.ref 170), none]) (by decide) rfl (Nat.le_of_ble_eq_true rfl) rfl (fun x C0 => ?_)
  have C := C0.1
  refine y_aload_n C dL_neededSensors_0 rfl ?_
  refine y_iconst (v := 0) C dL_neededSensors_1 (by decide) ?_
  refine y_aload_n C dL_neededSensors_2 rfl ?_
  refine y_iload_n C dL_neededSensors_3 rfl ?_
  refine y_iload_n C dL_neededSensors_4 rfl ?_
  refine y_callZ C0 (e_X8_neededSensors _ _ hR hC hk I hs ht u v) dL_neededSensors_5 rfl gL_neededSensors_X8_neededSensors rfl is_X8 ⟨rfl, qX8_neededSensors⟩ ⟨rfl, rfl⟩ ⟨Nat.le_of_ble_eq_true rfl, Nat.le_of_ble_eq_true rfl⟩ rfl (Nat.le_of_ble_eq_true rfl) ⟨Nat.le_of_ble_eq_true rfl, Nat.le_of_ble_eq_true rfl⟩ (fun E hE => ?_) (fun v9 σ1 τ1 hq => ?_)
  ·
    rcases hE with ⟨rfl, hk1⟩ | ⟨rfl, hk1⟩
    · exact ⟨13, ⟨[], ⟨0, 10, 13, 19⟩, [⟨0, 10, 17, 13⟩], rfl, fun z h => absurd h List.not_mem_nil, by decide, by decide, by decide +kernel, by decide, rfl⟩, yh_astore C dL_neededSensors_13 (L' := [_, _, _, _, _]) (Nat.lt_of_lt_of_le (by decide : (4 : Nat) < 5) (Nat.le_refl _)) rfl (y_iconst (v := 1) C dL_neededSensors_15 (by decide) (w_iret C rfl dL_neededSensors_16 ⟨hk1.symm, Or.inr ⟨fun z => absurd (hk1.symm.trans z) (by decide), rfl⟩⟩))⟩
    · exact ⟨17, ⟨[⟨0, 10, 13, 19⟩], ⟨0, 10, 17, 13⟩, [], rfl, fun z h => by obtain rfl := List.mem_singleton.mp h; exact ⟨by decide, eIO, by decide, by decide, by decide +kernel⟩, by decide, by decide, by decide +kernel, by decide, rfl⟩, yh_astore C dL_neededSensors_17 (L' := [_, _, _, _, _]) (Nat.lt_of_lt_of_le (by decide : (4 : Nat) < 5) (Nat.le_refl _)) rfl (y_iconst (v := 2) C dL_neededSensors_19 (by decide) (w_iret C rfl dL_neededSensors_20 ⟨hk1.symm, Or.inr ⟨fun z => absurd (hk1.symm.trans z) (by decide), rfl⟩⟩))⟩
  ·
    obtain ⟨hk0, rfl, hR1, hC1, hF1, rfl⟩ := hq
    refine y_i2l C dL_neededSensors_8 ?_
    refine y_ls (a := 170) (N := 1) C 0 dL_neededSensors_9 (by decide) rfl (by decide) rfl (by decide) ?_
    refine y_goto (t := 21) C dL_neededSensors_10 (by decide) ?_
    refine y_iconst (v := 0) C dL_neededSensors_21 (by decide) ?_
    exact w_iret C rfl dL_neededSensors_22 ⟨hk0.symm, Or.inl ⟨hk0, upl (rfl), hR1, hC1, hF1⟩⟩
set_option maxHeartbeats 4000000 in
set_option maxRecDepth 100000 in
theorem e_L_burnsFor (σ : xS) (τ : xT) {r : Rw} {R ns nr ne t kp : Nat} {qs : Nat → Rw} (hR : Rel σ 1 r) (hC : Rc σ kp qs) (hk : kp ≤ 4) (I : Inv r R ns nr ne t (t + 1)) (hs : Sk r) (ht : t + 200 ≤ 1000000) (u : Int32) : Xw mL_burnsFor [.ref 0, .int u, .ref 170] σ τ (QL (kW u 1 200) (mBFo r (cN u)) σ (r) (kp) (qs)) := by
  refine Xw_mk (hh := [(0, 9, 12, 13)]) (L := [some (.ref 0), some (.int u), some (.ref 170), none]) (by decide) rfl (Nat.le_of_ble_eq_true rfl) rfl (fun x C0 => ?_)
  have C := C0.1
  refine y_aload_n C dL_burnsFor_0 rfl ?_
  refine y_iconst (v := 0) C dL_burnsFor_1 (by decide) ?_
  refine y_aload_n C dL_burnsFor_2 rfl ?_
  refine y_iload_n C dL_burnsFor_3 rfl ?_
  refine y_callZ C0 (e_X8_burnsFor _ _ hR hC hk I hs ht u) dL_burnsFor_4 rfl gL_burnsFor_X8_burnsFor rfl is_X8 ⟨rfl, qX8_burnsFor⟩ ⟨rfl, rfl⟩ ⟨Nat.le_of_ble_eq_true rfl, Nat.le_of_ble_eq_true rfl⟩ rfl (Nat.le_of_ble_eq_true rfl) ⟨Nat.le_of_ble_eq_true rfl, Nat.le_of_ble_eq_true rfl⟩ (fun E hE => ?_) (fun v9 σ1 τ1 hq => ?_)
  ·
    obtain ⟨rfl, hk1⟩ := hE
    exact ⟨12, ⟨[], ⟨0, 9, 12, 13⟩, [], rfl, fun z h => absurd h List.not_mem_nil, by decide, by decide, by decide +kernel, by decide, rfl⟩, yh_astore_n C dL_burnsFor_12 (L' := [_, _, _, _]) (Nat.lt_of_lt_of_le (by decide : (3 : Nat) < 4) (Nat.le_refl _)) rfl (y_iconst (v := 1) C dL_burnsFor_13 (by decide) (w_iret C rfl dL_burnsFor_14 ⟨hk1.symm, Or.inr ⟨fun z => absurd (hk1.symm.trans z) (by decide), rfl⟩⟩))⟩
  ·
    obtain ⟨hk0, rfl, hR1, hC1, hF1, rfl⟩ := hq
    refine y_i2l C dL_burnsFor_7 ?_
    refine y_ls (a := 170) (N := 1) C 0 dL_burnsFor_8 (by decide) rfl (by decide) rfl (by decide) ?_
    refine y_goto (t := 15) C dL_burnsFor_9 (by decide) ?_
    refine y_iconst (v := 0) C dL_burnsFor_15 (by decide) ?_
    exact w_iret C rfl dL_burnsFor_16 ⟨hk0.symm, Or.inl ⟨hk0, upl (rfl), hR1, hC1, hF1⟩⟩
set_option maxHeartbeats 4000000 in
set_option maxRecDepth 100000 in
theorem e_L_undo (σ : xS) (τ : xT) {r : Rw} {R ns nr ne t kp : Nat} {qs : Nat → Rw} (hR : Rel σ 1 r) (hC : Rc σ kp qs) (hk : kp ≤ 4) (I : Inv r R ns nr ne t (t + 1)) (h3 : ∀ j, j < kp → qs j 3 = 0 ∨ qs j 3 = 1) : Xw mL_undo [.ref 0, .ref 170] σ τ (QL (kUnd kp) (nI (kp - 1)) σ (qs (kp - 1)) (kp - 1) (qs)) := by
  refine Xw_mk (hh := [(0, 8, 11, 48)]) (L := [some (.ref 0), some (.ref 170), none]) (by decide) rfl (Nat.le_of_ble_eq_true rfl) rfl (fun x C0 => ?_)
  have C := C0.1
  refine y_aload_n C dL_undo_0 rfl ?_
  refine y_iconst (v := 0) C dL_undo_1 (by decide) ?_
  refine y_aload_n C dL_undo_2 rfl ?_
  refine y_callZ C0 (e_X8_undo _ _ hR hC hk I h3) dL_undo_3 rfl gL_undo_X8_undo rfl is_X8 ⟨rfl, qX8_undo⟩ ⟨rfl, rfl⟩ ⟨Nat.le_of_ble_eq_true rfl, Nat.le_of_ble_eq_true rfl⟩ rfl (Nat.le_of_ble_eq_true rfl) ⟨Nat.le_of_ble_eq_true rfl, Nat.le_of_ble_eq_true rfl⟩ (fun E hE => ?_) (fun v9 σ1 τ1 hq => ?_)
  ·
    obtain ⟨rfl, hk1⟩ := hE
    exact ⟨11, ⟨[], ⟨0, 8, 11, 48⟩, [], rfl, fun z h => absurd h List.not_mem_nil, by decide, by decide, by decide +kernel, by decide, rfl⟩, yh_astore_n C dL_undo_11 (L' := [_, _, _]) (Nat.lt_of_lt_of_le (by decide : (2 : Nat) < 3) (Nat.le_refl _)) rfl (y_iconst (v := 1) C dL_undo_12 (by decide) (w_iret C rfl dL_undo_13 ⟨hk1.symm, Or.inr ⟨fun z => absurd (hk1.symm.trans z) (by decide), rfl⟩⟩))⟩
  ·
    obtain ⟨hk0, rfl, hR1, hC1, hF1, rfl⟩ := hq
    refine y_i2l C dL_undo_6 ?_
    refine y_ls (a := 170) (N := 1) C 0 dL_undo_7 (by decide) rfl (by decide) rfl (by decide) ?_
    refine y_goto (t := 14) C dL_undo_8 (by decide) ?_
    refine y_iconst (v := 0) C dL_undo_14 (by decide) ?_
    exact w_iret C rfl dL_undo_15 ⟨hk0.symm, Or.inl ⟨hk0, upl (rfl), hR1, hC1, hF1⟩⟩
