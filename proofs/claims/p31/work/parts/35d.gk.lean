/-! WHAT EACH CALL LEAVES KEEPS THE LAW'S INVARIANT -/
theorem jn_flt {r : Rw} {ns ne t : Nat} (J : Jn r ns ne t) {i : Nat} (hs : ns ≤ 8 ∧ i < ns) {v : Int32} (hv : 0 ≤ v) : Jn (upd r (57 + 7 * i + 5) v) ns ne t := by
  obtain ⟨a1, a2, a3, a4, a5⟩ := J
  unfold Jn
  rw [upd_ne (by omega), upd_ne (by omega), upd_ne (by omega)]
  refine ⟨a1, a2, a3, fun k hk => ?_, fun k hk e => ?_⟩
  · by_cases q : k = i
    · rw [q, upd_eq]; exact hv
    · rw [upd_ne (by omega)]; exact a4 k hk
  · rw [upd_ne (by omega)] at e
    rw [upd_ne (by omega)]
    exact a5 k hk e
theorem jn_ase {r : Rw} {ns ne t : Nat} (J : Jn r ns ne t) {a b c d e : Int32} (h8 : ns < 8) : Jn (mASe r ns a b c d e) (ns + 1) ne t := by
  obtain ⟨a1, a2, a3, a4, a5⟩ := J
  unfold Jn
  rw [mASe_ne (j := 1) (by decide) (by omega), mASe_ne (j := 14) (by decide) (by omega), mASe_ne (j := 18) (by decide) (by omega)]
  refine ⟨a1, a2, a3, fun k hk => ?_, fun k hk q => ?_⟩
  · by_cases q : k = ns
    · subst q
      unfold mASe
      rw [upd_ne (by omega), upd_ne (by omega), upd_eq]
      exact Int32.le_refl _
    · rw [mASe_ne (by omega) (by omega)]; exact a4 k (by omega)
  · rw [mASe_ne (by omega) (by omega)] at q
    rw [mASe_ne (by omega) (by omega)]
    exact a5 k hk q
theorem jn_ins {r : Rw} {ns ne t p : Nat} (J : Jn r ns ne t) {m kd a b : Int32} (hs : ns ≤ 8) (hp : p ≤ ne) (hb : kd = 3 → 0 ≤ b) : Jn (mIns r p ne m kd a b) ns (ne + 1) t := by
  obtain ⟨a1, a2, a3, a4, a5⟩ := J
  unfold Jn
  rw [mIns_lo (j := 1) (by decide) (by omega), mIns_lo (j := 14) (by decide) (by omega), mIns_lo (j := 18) (by decide) (by omega)]
  refine ⟨a1, a2, a3, fun k hk => ?_, fun k hk q => ?_⟩
  · rw [mIns_lo (by omega) (by omega)]; exact a4 k hk
  · rcases Nat.lt_trichotomy k p with z | z | z
    · rw [mIns_lo (by omega) (by omega)] at q
      rw [mIns_lo (by omega) (by omega)]
      exact a5 k (by omega) q
    · subst z
      obtain ⟨-, g1, -, g3⟩ := mIns_at (r := r) (p := k) (n := ne) (m := m) (k := kd) (a := a) (b := b)
      rw [g1] at q
      rw [g3]
      exact hb q
    · rw [mIns_hi (by omega) (by omega)] at q
      rw [mIns_hi (by omega) (by omega)]
      rw [show 145 + 4 * k + 1 - 4 = 145 + 4 * (k - 1) + 1 by omega] at q
      rw [show 145 + 4 * k + 3 - 4 = 145 + 4 * (k - 1) + 3 by omega]
      exact a5 (k - 1) (by omega) q
theorem evt_b {r : Rw} {kd a b : Int32} (h : ¬ mEvtI r kd a b = 0) : kd = 3 → 0 ≤ b := by
  intro e
  subst e
  unfold mEvtI at h
  rw [if_neg (by decide), if_neg (by decide), if_neg (by decide), if_pos rfl] at h
  exact (gd1_t h).2.1
theorem gk_begin {r : Rw} {R ns nr ne t : Nat} (G : Gd r R ns nr ne t) (ht : t + 200 ≤ 1000000) (u : Int32) (h : kW u 1 4 = 0) : Gk (mBeg u) (t + 60) := by
  obtain ⟨I, hs, J⟩ := G
  obtain ⟨w, h1, h2, rfl⟩ := with1 4 (by decide) rfl (kW_0 h)
  exact ⟨w, 0, 0, 0, 0, ⟨Inv.beg h1 h2, Sk.beg _, ⟨(by decide : (0 : Int32) ≤ 2), ⟨0, rfl, Nat.le_refl _⟩, ⟨0, rfl, Nat.le_refl _⟩, fun k hk => absurd hk (Nat.not_lt_zero _), fun k hk => absurd hk (Nat.not_lt_zero _)⟩⟩, Nat.zero_le _⟩
theorem gk_setDoor {r : Rw} {R ns nr ne t : Nat} (G : Gd r R ns nr ne t) (ht : t + 200 ≤ 1000000) (u v o : Int32) (h : kDoor r u v = 0) : Gk (mSets r (cN u) (cN v) o) (t + 60) := by
  obtain ⟨I, hs, J⟩ := G
  obtain ⟨h7, hne⟩ := kDoor_0 h
  have h4 := I.1.1.2.2
  obtain ⟨a, ha, rfl⟩ := plac_of I (fun z => h7 (Or.inl z))
  obtain ⟨b, hb, rfl⟩ := plac_of I (fun z => h7 (Or.inr z))
  rw [cN_nI (n := a) (by omega), cN_nI (n := b) (by omega)]
  have e : ∀ j, (j < 32 ∨ 57 ≤ j) → mSets r a b o j = r j := fun j hj => by
    unfold mSets
    rw [upd_ne (by omega), upd_ne (by omega)]
  exact ⟨R, ns, nr, ne, t, ⟨I.like (fun j hj => e j (by omega)), hs.like (fun i hi => e _ (by omega)), J.like (e 1 (by decide)) (e 14 (by decide)) (e 18 (by decide)) (fun k hk => e _ (by omega)) (fun k w hk hw => e _ (by omega))⟩, by omega⟩
theorem gk_addFuel {r : Rw} {R ns nr ne t : Nat} (G : Gd r R ns nr ne t) (ht : t + 200 ≤ 1000000) (u : Int32) (h : kW u 1 200 = 0) : Gk (upd r 8 (if 200 < r 8 + u then 200 else r 8 + u)) (t + 60) := by
  obtain ⟨I, hs, J⟩ := G
  obtain ⟨w, h1, h2, rfl⟩ := with1 200 (by decide) rfl (kW_0 h)
  obtain ⟨f, hf, ef⟩ := rng (m := 200) (by decide) I.2.2.2.2.2.1.2.2.2.2.2.1.1 I.2.2.2.2.2.1.2.2.2.2.2.1.2
  have hv : (0 : Int32) ≤ (if 200 < r 8 + nI w then 200 else r 8 + nI w) ∧ (if 200 < r 8 + nI w then 200 else r 8 + nI w) ≤ (200 : Int32) := by
    split
    · exact ⟨by decide, by decide⟩
    · rename_i z
      refine ⟨?_, Int32.not_lt.mp z⟩
      rw [ef, nI_add]
      exact nI_pos' (by omega)
  exact ⟨R, ns, nr, ne, t, ⟨I.set1 8 _ (by omega) (by omega) (by omega) (by omega) (by omega) (by omega) (fun _ => hv) (by omega) (by omega) (by omega) (by omega), hs.like (fun i hi => upd_ne (by omega)), J.upd1 8 _ I.1.2.1.2 (by decide)⟩, by omega⟩
theorem gk_setTarget {r : Rw} {R ns nr ne t : Nat} (G : Gd r R ns nr ne t) (ht : t + 200 ≤ 1000000) (u : Int32) (h : kW u 0 8 = 0) : Gk (upd r 9 u) (t + 60) := by
  obtain ⟨I, hs, J⟩ := G
  exact ⟨R, ns, nr, ne, t, ⟨I.set1 9 _ (by omega) (by omega) (by omega) (by omega) (by omega) (by omega) (by omega) (fun _ => mWithI_ne.mp (kW_0 h)) (by omega) (by omega) (by omega), hs.like (fun i hi => upd_ne (by omega)), J.upd1 9 _ I.1.2.1.2 (by decide)⟩, by omega⟩
theorem gk_set {r : Rw} {R ns nr ne t : Nat} (G : Gd r R ns nr ne t) (ht : t + 200 ≤ 1000000) (u v : Int32) (h : kSet u v = 0) : Gk (upd r (cN u) v) (t + 60) := by
  obtain ⟨I, hs, J⟩ := G
  have h0 := kSet_0 h
  obtain ⟨w, hw, rfl⟩ := with0 5 (by decide) (u := u) rfl (fun z => h0 (can_out v z))
  rw [can_in w (by omega)] at h0
  rw [cN_nI (n := w) (by omega)]
  have J2 : Jn (upd r w v) ns ne t := by
    by_cases e1 : w = 1
    · subst e1
      obtain ⟨a1, a2, a3, a4, a5⟩ := J
      unfold Jn
      rw [upd_eq, upd_ne (by decide), upd_ne (by decide)]
      refine ⟨Int32.le_trans (by decide) (mWithI_ne.mp h0).1, a2, a3, fun k hk => ?_, fun k hk e => ?_⟩
      · rw [upd_ne (by omega)]; exact a4 k hk
      · rw [upd_ne (by omega)] at e
        rw [upd_ne (by omega)]
        exact a5 k hk e
    · exact J.upd1 w v I.1.2.1.2 (by omega)
  exact ⟨R, ns, nr, ne, t, ⟨I.set1 w v (by omega) (fun e => by subst e; exact mWithI_ne.mp h0) (fun e => by subst e; exact mWithI_ne.mp h0) (fun e => can_j (w := w) (by omega) h0 e) (fun e => by subst e; exact mWithI_ne.mp h0) (fun e => by subst e; exact mWithI_ne.mp h0) (by omega) (by omega) (by omega) (by omega) (by omega), hs.like (fun i hi => upd_ne (by omega)), J2⟩, by omega⟩
theorem gk_setSmoke {r : Rw} {R ns nr ne t : Nat} (G : Gd r R ns nr ne t) (ht : t + 200 ≤ 1000000) (u v : Int32) (h : kRW r u v 0 99999 = 0) : Gk (upd r (20 + cN u) v) (t + 60) := by
  obtain ⟨I, hs, J⟩ := G
  have h4 := I.1.1.2.2
  obtain ⟨i, hi, rfl⟩ := room_of I (kRW_0 h).1
  have hv := mWithI_ne.mp (kRW_0 h).2
  rw [cN_nI (n := i) (by omega)]
  refine ⟨R, ns, nr, ne, t, ⟨I.set1 (20 + i) v (by omega) (by omega) (by omega) (by omega) (by omega) (by omega) (by omega) (by omega) (fun _ _ => ⟨hv.1, Int32.le_trans hv.2 (by decide)⟩) (by omega) (by omega), fun j hj => ?_, J.upd1 (20 + i) v I.1.2.1.2 (by omega)⟩, by omega⟩
  by_cases e : j = i
  · rw [e, upd_eq]; exact hv.2
  · rw [upd_ne (by omega)]; exact hs j hj
theorem gk_mute {r : Rw} {R ns nr ne t : Nat} (G : Gd r R ns nr ne t) (ht : t + 200 ≤ 1000000) (u v : Int32) (h : kRW r u v 0 60 = 0) : Gk (upd r (28 + cN u) v) (t + 60) := by
  obtain ⟨I, hs, J⟩ := G
  have h4 := I.1.1.2.2
  obtain ⟨i, hi, rfl⟩ := room_of I (kRW_0 h).1
  have hv := mWithI_ne.mp (kRW_0 h).2
  rw [cN_nI (n := i) (by omega)]
  exact ⟨R, ns, nr, ne, t, ⟨I.set1 (28 + i) v (by omega) (by omega) (by omega) (by omega) (by omega) (by omega) (by omega) (by omega) (by omega) (by omega) (fun _ _ => hv), hs.like (fun j hj => upd_ne (by omega)), J.upd1 (28 + i) v I.1.2.1.2 (by omega)⟩, by omega⟩
theorem gk_setFault {r : Rw} {R ns nr ne t : Nat} (G : Gd r R ns nr ne t) (ht : t + 200 ≤ 1000000) (u v : Int32) (h : kSW r u v 0 2 = 0) : Gk (upd r (57 + 7 * cN u + 5) v) (t + 60) := by
  obtain ⟨I, hs, J⟩ := G
  have h8 := I.1.2.1.2
  obtain ⟨i, hi, rfl⟩ := sens_of I (kSW_0 h).1
  rw [cN_nI (n := i) (by omega)]
  exact ⟨R, ns, nr, ne, t, ⟨I.dead hi v, hs.dead i v, jn_flt J ⟨h8, hi⟩ (mWithI_ne.mp (kSW_0 h).2).1⟩, by omega⟩
theorem gk_addSensor {r : Rw} {R ns nr ne t : Nat} (G : Gd r R ns nr ne t) (ht : t + 200 ≤ 1000000) (a b c d e : Int32) (h : kASe r a b c d e = 0) : Gk (mASe r ns a b c d e) (t + 60) := by
  obtain ⟨I, hs, J⟩ := G
  have h8 : ns < 8 := Nat.lt_of_le_of_ne I.1.2.1.2 (fun z => (kASe_0 h).2.2 (by rw [I.1.2.1.1, z]; rfl))
  exact ⟨R, ns + 1, nr, ne, t, ⟨I.ase h8 (room_of I (kASe_0 h).1), hs.like (fun i hi => mASe_ne (by omega) (by omega)), jn_ase J h8⟩, by omega⟩
theorem gk_addRule {r : Rw} {R ns nr ne t : Nat} (G : Gd r R ns nr ne t) (ht : t + 200 ≤ 1000000) (k a b c : Int32) (h : kARu r k a b c = 0) : Gk (mARu r nr k a b c) (t + 60) := by
  obtain ⟨I, hs, J⟩ := G
  have h8 : nr < 8 := Nat.lt_of_le_of_ne I.1.2.2.1.2 (fun z => (kARu_0 h).2.2 (by rw [I.1.2.2.1.1, z]; rfl))
  exact ⟨R, ns, nr + 1, ne, t, ⟨I.aru h8 (room_of I (kARu_0 h).1) (w8 (fun z => (kARu_0 h).2.1 (Or.inr (Or.inr z)))), hs.like (fun i hi => mARu_ne (by omega) (by omega)), J.like (mARu_ne (by decide) (by omega)) (mARu_ne (by decide) (by omega)) (mARu_ne (by decide) (by omega)) (fun k hk => mARu_ne (by omega) (by have := I.1.2.1.2; omega)) (fun k w hk hw => mARu_ne (by omega) (by omega))⟩, by omega⟩
theorem gk_removeRule {r : Rw} {R ns nr ne t : Nat} (G : Gd r R ns nr ne t) (ht : t + 200 ≤ 1000000) (u : Int32) (h : kRem r u = 0) : Gk (mDro r (cN u) nr) (t + 60) := by
  obtain ⟨I, hs, J⟩ := G
  have h8 := I.1.2.2.1.2
  have h0 := kRem_0 h
  rw [I.1.2.2.1.1] at h0
  obtain ⟨a, ha, rfl⟩ := in_of (n := nr) (by omega) h0
  rw [cN_nI (n := a) (by omega)]
  exact ⟨R, ns, nr - 1, ne, t, ⟨I.dro ha, hs.like (fun i hi => mDro_lo (by omega) (by omega)), J.like (mDro_lo (by decide) (by omega)) (mDro_lo (by decide) (by omega)) (mDro_lo (by decide) (by omega)) (fun k hk => mDro_lo (by omega) (by have := I.1.2.1.2; omega)) (fun k w hk hw => mDro_lo (by omega) (by omega))⟩, by omega⟩
theorem gk_addEvent {r : Rw} {R ns nr ne t : Nat} (G : Gd r R ns nr ne t) (ht : t + 200 ≤ 1000000) (m k a b : Int32) (h : kAEv r m k a b = 0) : Gk (mIns r (mPlF r m ne) ne m k a b) (t + 60) := by
  obtain ⟨I, hs, J⟩ := G
  have h20 : ne < 20 := Nat.lt_of_le_of_ne I.1.2.2.2.1.2 (fun z => (kAEv_0 h).2 (by rw [I.1.2.2.2.1.1, z]; rfl))
  have ht := I.1.2.2.2.2.2
  have hw := mWithI_ne.mp (fun z => (kAEv_0 h).1 (Or.inl z))
  rw [I.1.2.2.2.2.1] at hw
  have e1 : nI t + 1 = nI (t + 1) := nI_1 t
  have e9 : nI t + 999 = nI (t + 999) := nI_add t 999
  rw [e1, e9] at hw
  obtain ⟨mm, hm, rfl⟩ := rng (m := t + 999) (by omega) (Int32.le_trans (nI_pos' (by omega)) hw.1) hw.2
  exact ⟨R, ns, nr, ne + 1, t, ⟨I.ins h20 ⟨mm, rfl, (nI_leI (by omega) (by omega)).mp hw.1, by omega⟩ (fun z => (kAEv_0 h).1 (Or.inr z)), hs.like (fun i hi => mIns_out (mPlF_le r _ ne) (by omega) (by omega)), jn_ins J I.1.2.1.2 (mPlF_le r _ ne) (evt_b (fun z => (kAEv_0 h).1 (Or.inr z)))⟩, by omega⟩
theorem gk_pass {r : Rw} {R ns nr ne t : Nat} (G : Gd r R ns nr ne t) (ht : t + 200 ≤ 1000000) (u : Int32) (h : kW u 1 60 = 0) : Gk (mMinN r (cN u)) (t + 60) := by
  obtain ⟨I, hs, J⟩ := G
  obtain ⟨w, h1, h2, rfl⟩ := with1 60 (by decide) rfl (kW_0 h)
  rw [cN_nI (n := w) (by omega)]
  obtain ⟨e, G2⟩ := Gd.minN w ⟨I, hs, J⟩ (by omega)
  exact ⟨R, ns, nr, e, t + w, G2, by omega⟩
