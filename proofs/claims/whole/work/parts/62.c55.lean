def kBoats (kd : Nat → ClassId) (a : bAd) (j : Nat) (c : bC) : Prop := c j = .inr (0, [.int 0, .ref (a (j + 1)), .ref (a (j + 2)), .ref (a (j + 3)), .ref (a (j + 4))]) ∧ c (j + 1) = .inl (kd 0, 9, .inl (fun _ => 0)) ∧ c (j + 2) = .inl (kd 0, 9, .inl (fun _ => 0)) ∧ c (j + 3) = .inl (kd 0, 9, .inl (fun _ => 0)) ∧ c (j + 4) = .inl (kd 0, 9, .inl (fun _ => 0))
theorem kBoats.at {kd : Nat → ClassId} {a a' : bAd} {j : Nat} {c c' : bC} (h : kBoats kd a j c) (ha : ∀ i, j ≤ i → i < j + 5 → a' i = a i) (hc : ∀ i, j ≤ i → i < j + 5 → c' i = c i) : kBoats kd a' j c' := by
  obtain ⟨h0, h1, h2, h3, h4⟩ := h
  exact ⟨by rw [hc j (by omega) (by omega), h0, ha (j + 1) (by omega) (by omega), ha (j + 2) (by omega) (by omega), ha (j + 3) (by omega) (by omega), ha (j + 4) (by omega) (by omega)], (hc _ (by omega) (by omega)).trans h1, (hc _ (by omega) (by omega)).trans h2, (hc _ (by omega) (by omega)).trans h3, (hc _ (by omega) (by omega)).trans h4⟩
set_option maxHeartbeats 4000000 in
set_option maxRecDepth 100000 in
theorem c_X0_init {D : va_G} {kd : Nat → ClassId} {ad : bAd} {B j : Nat} {a : bAd} {c : bC} (hc0 : c j = .inr (0, [.int 0, .null, .null, .null, .null])) : MN yX0_init cX0_init { frames := 1, cells := 4, slots := 36, locals := 12 } D kd ad B a c j (j + 5) 4 36 (pK (kBoats kd) j a c) := by
  refine n_met (by decide) rfl (fun x h hin hr hlk => ?_)
  have HO := hc0
  have HA : ∀ i, i ≤ j → a i = a i := fun _ _ => rfl
  have HC : ∀ i, i < j → c i = c i := fun _ _ => rfl
  refine n_aload_n h (i := 0) dX0_init_0 (q := 1) rfl rfl 0 rfl ?_
  refine n_obj h m86 m27 m28 ⟨Nat.le_of_ble_eq_true rfl, Nat.le_of_ble_eq_true rfl⟩ dX0_init_1 (q := 4) rfl ?_
  refine n_aload_n h (i := 0) dX0_init_4 (q := 5) rfl rfl 0 rfl ?_
  refine n_bipush h (v := 9) dX0_init_5 (q := 7) rfl (by decide) ?_
  refine n_newa h (N := 9) m52 (by decide) (by decide) (Nat.le_of_ble_eq_true rfl) (Nat.le_of_ble_eq_true rfl) (Nat.le_of_ble_eq_true rfl) dX0_init_7 (q := 9) rfl (fun t1 a1 c1 T Ha Hc Kn => ?_)
  have HA : ∀ i, i ≤ j → a1 i = a i := fun i hi => (Ha i (by omega)).trans (HA i hi)
  have HC : ∀ i, i < j → c1 i = c i := fun i hi => (Hc i (by omega)).trans (HC i hi)
  have HO : c1 j = .inr (0, [.int 0, .null, .null, .null, .null]) := (Hc j (by omega)).trans HO
  have TA1 : a1 (j + 1) = t1 := T
  have K1 : c1 (j + 1) = .inl (kd 0, 9, .inl (fun _ => 0)) := Kn
  refine n_putF h hin (j := j) (k := 1) cls0 (by omega) (HA j (Nat.le_refl j)) HO (Nat.le_of_ble_eq_true rfl) m90 rfl rfl ⟨rfl, rfl⟩ (Nat.le_of_ble_eq_true rfl) dX0_init_9 (q := 12) rfl (fun c2 Hc Kn => ?_)
  have HC : ∀ i, i < j → c2 i = c i := fun i hi => (Hc i (by omega)).trans (HC i hi)
  have HO : c2 j = .inr (0, [.int 0, .ref t1, .null, .null, .null]) := Kn
  have K1 : c2 (j + 1) = .inl (kd 0, 9, .inl (fun _ => 0)) := (Hc (j + 1) (by omega)).trans K1
  refine n_aload_n h (i := 0) dX0_init_12 (q := 13) rfl rfl 0 rfl ?_
  refine n_bipush h (v := 9) dX0_init_13 (q := 15) rfl (by decide) ?_
  refine n_newa h (N := 9) m52 (by decide) (by decide) (Nat.le_of_ble_eq_true rfl) (Nat.le_of_ble_eq_true rfl) (Nat.le_of_ble_eq_true rfl) dX0_init_15 (q := 17) rfl (fun t3 a3 c3 T Ha Hc Kn => ?_)
  have HA : ∀ i, i ≤ j → a3 i = a i := fun i hi => (Ha i (by omega)).trans (HA i hi)
  have HC : ∀ i, i < j → c3 i = c i := fun i hi => (Hc i (by omega)).trans (HC i hi)
  have HO : c3 j = .inr (0, [.int 0, .ref t1, .null, .null, .null]) := (Hc j (by omega)).trans HO
  have TA1 : a3 (j + 1) = t1 := (Ha (j + 1) (by omega)).trans TA1
  have K1 : c3 (j + 1) = .inl (kd 0, 9, .inl (fun _ => 0)) := (Hc (j + 1) (by omega)).trans K1
  have TA2 : a3 (j + 2) = t3 := T
  have K2 : c3 (j + 2) = .inl (kd 0, 9, .inl (fun _ => 0)) := Kn
  refine n_putF h hin (j := j) (k := 2) cls0 (by omega) (HA j (Nat.le_refl j)) HO (Nat.le_of_ble_eq_true rfl) m92 rfl rfl ⟨rfl, rfl⟩ (Nat.le_of_ble_eq_true rfl) dX0_init_17 (q := 20) rfl (fun c4 Hc Kn => ?_)
  have HC : ∀ i, i < j → c4 i = c i := fun i hi => (Hc i (by omega)).trans (HC i hi)
  have HO : c4 j = .inr (0, [.int 0, .ref t1, .ref t3, .null, .null]) := Kn
  have K1 : c4 (j + 1) = .inl (kd 0, 9, .inl (fun _ => 0)) := (Hc (j + 1) (by omega)).trans K1
  have K2 : c4 (j + 2) = .inl (kd 0, 9, .inl (fun _ => 0)) := (Hc (j + 2) (by omega)).trans K2
  refine n_aload_n h (i := 0) dX0_init_20 (q := 21) rfl rfl 0 rfl ?_
  refine n_bipush h (v := 9) dX0_init_21 (q := 23) rfl (by decide) ?_
  refine n_newa h (N := 9) m52 (by decide) (by decide) (Nat.le_of_ble_eq_true rfl) (Nat.le_of_ble_eq_true rfl) (Nat.le_of_ble_eq_true rfl) dX0_init_23 (q := 25) rfl (fun t5 a5 c5 T Ha Hc Kn => ?_)
  have HA : ∀ i, i ≤ j → a5 i = a i := fun i hi => (Ha i (by omega)).trans (HA i hi)
  have HC : ∀ i, i < j → c5 i = c i := fun i hi => (Hc i (by omega)).trans (HC i hi)
  have HO : c5 j = .inr (0, [.int 0, .ref t1, .ref t3, .null, .null]) := (Hc j (by omega)).trans HO
  have TA1 : a5 (j + 1) = t1 := (Ha (j + 1) (by omega)).trans TA1
  have TA2 : a5 (j + 2) = t3 := (Ha (j + 2) (by omega)).trans TA2
  have K1 : c5 (j + 1) = .inl (kd 0, 9, .inl (fun _ => 0)) := (Hc (j + 1) (by omega)).trans K1
  have K2 : c5 (j + 2) = .inl (kd 0, 9, .inl (fun _ => 0)) := (Hc (j + 2) (by omega)).trans K2
  have TA3 : a5 (j + 3) = t5 := T
  have K3 : c5 (j + 3) = .inl (kd 0, 9, .inl (fun _ => 0)) := Kn
  refine n_putF h hin (j := j) (k := 3) cls0 (by omega) (HA j (Nat.le_refl j)) HO (Nat.le_of_ble_eq_true rfl) m94 rfl rfl ⟨rfl, rfl⟩ (Nat.le_of_ble_eq_true rfl) dX0_init_25 (q := 28) rfl (fun c6 Hc Kn => ?_)
  have HC : ∀ i, i < j → c6 i = c i := fun i hi => (Hc i (by omega)).trans (HC i hi)
  have HO : c6 j = .inr (0, [.int 0, .ref t1, .ref t3, .ref t5, .null]) := Kn
  have K1 : c6 (j + 1) = .inl (kd 0, 9, .inl (fun _ => 0)) := (Hc (j + 1) (by omega)).trans K1
  have K2 : c6 (j + 2) = .inl (kd 0, 9, .inl (fun _ => 0)) := (Hc (j + 2) (by omega)).trans K2
  have K3 : c6 (j + 3) = .inl (kd 0, 9, .inl (fun _ => 0)) := (Hc (j + 3) (by omega)).trans K3
  refine n_aload_n h (i := 0) dX0_init_28 (q := 29) rfl rfl 0 rfl ?_
  refine n_bipush h (v := 9) dX0_init_29 (q := 31) rfl (by decide) ?_
  refine n_newa h (N := 9) m52 (by decide) (by decide) (Nat.le_of_ble_eq_true rfl) (Nat.le_of_ble_eq_true rfl) (Nat.le_of_ble_eq_true rfl) dX0_init_31 (q := 33) rfl (fun t7 a7 c7 T Ha Hc Kn => ?_)
  have HA : ∀ i, i ≤ j → a7 i = a i := fun i hi => (Ha i (by omega)).trans (HA i hi)
  have HC : ∀ i, i < j → c7 i = c i := fun i hi => (Hc i (by omega)).trans (HC i hi)
  have HO : c7 j = .inr (0, [.int 0, .ref t1, .ref t3, .ref t5, .null]) := (Hc j (by omega)).trans HO
  have TA1 : a7 (j + 1) = t1 := (Ha (j + 1) (by omega)).trans TA1
  have TA2 : a7 (j + 2) = t3 := (Ha (j + 2) (by omega)).trans TA2
  have TA3 : a7 (j + 3) = t5 := (Ha (j + 3) (by omega)).trans TA3
  have K1 : c7 (j + 1) = .inl (kd 0, 9, .inl (fun _ => 0)) := (Hc (j + 1) (by omega)).trans K1
  have K2 : c7 (j + 2) = .inl (kd 0, 9, .inl (fun _ => 0)) := (Hc (j + 2) (by omega)).trans K2
  have K3 : c7 (j + 3) = .inl (kd 0, 9, .inl (fun _ => 0)) := (Hc (j + 3) (by omega)).trans K3
  have TA4 : a7 (j + 4) = t7 := T
  have K4 : c7 (j + 4) = .inl (kd 0, 9, .inl (fun _ => 0)) := Kn
  refine n_putF h hin (j := j) (k := 4) cls0 (by omega) (HA j (Nat.le_refl j)) HO (Nat.le_of_ble_eq_true rfl) m98 rfl rfl ⟨rfl, rfl⟩ (Nat.le_of_ble_eq_true rfl) dX0_init_33 (q := 36) rfl (fun c8 Hc Kn => ?_)
  have HC : ∀ i, i < j → c8 i = c i := fun i hi => (Hc i (by omega)).trans (HC i hi)
  have HO : c8 j = .inr (0, [.int 0, .ref t1, .ref t3, .ref t5, .ref t7]) := Kn
  have K1 : c8 (j + 1) = .inl (kd 0, 9, .inl (fun _ => 0)) := (Hc (j + 1) (by omega)).trans K1
  have K2 : c8 (j + 2) = .inl (kd 0, 9, .inl (fun _ => 0)) := (Hc (j + 2) (by omega)).trans K2
  have K3 : c8 (j + 3) = .inl (kd 0, 9, .inl (fun _ => 0)) := (Hc (j + 3) (by omega)).trans K3
  have K4 : c8 (j + 4) = .inl (kd 0, 9, .inl (fun _ => 0)) := (Hc (j + 4) (by omega)).trans K4
  exact n_ret h hr hlk dX0_init_36 ⟨HA, HC, (by rw [TA1, TA2, TA3, TA4]; exact HO), K1, K2, K3, K4⟩

def kDesk (kd : Nat → ClassId) (a : bAd) (j : Nat) (c : bC) : Prop := c j = .inr (1, [.ref (a (j + 1)), .int 0, .ref (a (j + 2)), .int 0]) ∧ c (j + 1) = .inl (kd 0, 50, .inl (fun _ => 0)) ∧ c (j + 2) = .inl (kd 0, 20, .inl (fun _ => 0))
theorem kDesk.at {kd : Nat → ClassId} {a a' : bAd} {j : Nat} {c c' : bC} (h : kDesk kd a j c) (ha : ∀ i, j ≤ i → i < j + 3 → a' i = a i) (hc : ∀ i, j ≤ i → i < j + 3 → c' i = c i) : kDesk kd a' j c' := by
  obtain ⟨h0, h1, h2⟩ := h
  exact ⟨by rw [hc j (by omega) (by omega), h0, ha (j + 1) (by omega) (by omega), ha (j + 2) (by omega) (by omega)], (hc _ (by omega) (by omega)).trans h1, (hc _ (by omega) (by omega)).trans h2⟩
set_option maxHeartbeats 4000000 in
set_option maxRecDepth 100000 in
theorem c_X1_init {D : va_G} {kd : Nat → ClassId} {ad : bAd} {B j : Nat} {a : bAd} {c : bC} (hc0 : c j = .inr (1, [.null, .int 0, .null, .int 0])) : MN yX1_init cX1_init { frames := 1, cells := 2, slots := 70, locals := 12 } D kd ad B a c j (j + 3) 2 70 (pK (kDesk kd) j a c) := by
  refine n_met (by decide) rfl (fun x h hin hr hlk => ?_)
  have HO := hc0
  have HA : ∀ i, i ≤ j → a i = a i := fun _ _ => rfl
  have HC : ∀ i, i < j → c i = c i := fun _ _ => rfl
  refine n_aload_n h (i := 0) dX1_init_0 (q := 1) rfl rfl 0 rfl ?_
  refine n_obj h m150 m27 m28 ⟨Nat.le_of_ble_eq_true rfl, Nat.le_of_ble_eq_true rfl⟩ dX1_init_1 (q := 4) rfl ?_
  refine n_aload_n h (i := 0) dX1_init_4 (q := 5) rfl rfl 0 rfl ?_
  refine n_bipush h (v := 50) dX1_init_5 (q := 7) rfl (by decide) ?_
  refine n_newa h (N := 50) m52 (by decide) (by decide) (Nat.le_of_ble_eq_true rfl) (Nat.le_of_ble_eq_true rfl) (Nat.le_of_ble_eq_true rfl) dX1_init_7 (q := 9) rfl (fun t1 a1 c1 T Ha Hc Kn => ?_)
  have HA : ∀ i, i ≤ j → a1 i = a i := fun i hi => (Ha i (by omega)).trans (HA i hi)
  have HC : ∀ i, i < j → c1 i = c i := fun i hi => (Hc i (by omega)).trans (HC i hi)
  have HO : c1 j = .inr (1, [.null, .int 0, .null, .int 0]) := (Hc j (by omega)).trans HO
  have TA1 : a1 (j + 1) = t1 := T
  have K1 : c1 (j + 1) = .inl (kd 0, 50, .inl (fun _ => 0)) := Kn
  refine n_putF h hin (j := j) (k := 0) cls1 (by omega) (HA j (Nat.le_refl j)) HO (Nat.le_of_ble_eq_true rfl) m151 rfl rfl ⟨rfl, rfl⟩ (Nat.le_of_ble_eq_true rfl) dX1_init_9 (q := 12) rfl (fun c2 Hc Kn => ?_)
  have HC : ∀ i, i < j → c2 i = c i := fun i hi => (Hc i (by omega)).trans (HC i hi)
  have HO : c2 j = .inr (1, [.ref t1, .int 0, .null, .int 0]) := Kn
  have K1 : c2 (j + 1) = .inl (kd 0, 50, .inl (fun _ => 0)) := (Hc (j + 1) (by omega)).trans K1
  refine n_aload_n h (i := 0) dX1_init_12 (q := 13) rfl rfl 0 rfl ?_
  refine n_bipush h (v := 20) dX1_init_13 (q := 15) rfl (by decide) ?_
  refine n_newa h (N := 20) m52 (by decide) (by decide) (Nat.le_of_ble_eq_true rfl) (Nat.le_of_ble_eq_true rfl) (Nat.le_of_ble_eq_true rfl) dX1_init_15 (q := 17) rfl (fun t3 a3 c3 T Ha Hc Kn => ?_)
  have HA : ∀ i, i ≤ j → a3 i = a i := fun i hi => (Ha i (by omega)).trans (HA i hi)
  have HC : ∀ i, i < j → c3 i = c i := fun i hi => (Hc i (by omega)).trans (HC i hi)
  have HO : c3 j = .inr (1, [.ref t1, .int 0, .null, .int 0]) := (Hc j (by omega)).trans HO
  have TA1 : a3 (j + 1) = t1 := (Ha (j + 1) (by omega)).trans TA1
  have K1 : c3 (j + 1) = .inl (kd 0, 50, .inl (fun _ => 0)) := (Hc (j + 1) (by omega)).trans K1
  have TA2 : a3 (j + 2) = t3 := T
  have K2 : c3 (j + 2) = .inl (kd 0, 20, .inl (fun _ => 0)) := Kn
  refine n_putF h hin (j := j) (k := 2) cls1 (by omega) (HA j (Nat.le_refl j)) HO (Nat.le_of_ble_eq_true rfl) m155 rfl rfl ⟨rfl, rfl⟩ (Nat.le_of_ble_eq_true rfl) dX1_init_17 (q := 20) rfl (fun c4 Hc Kn => ?_)
  have HC : ∀ i, i < j → c4 i = c i := fun i hi => (Hc i (by omega)).trans (HC i hi)
  have HO : c4 j = .inr (1, [.ref t1, .int 0, .ref t3, .int 0]) := Kn
  have K1 : c4 (j + 1) = .inl (kd 0, 50, .inl (fun _ => 0)) := (Hc (j + 1) (by omega)).trans K1
  have K2 : c4 (j + 2) = .inl (kd 0, 20, .inl (fun _ => 0)) := (Hc (j + 2) (by omega)).trans K2
  exact n_ret h hr hlk dX1_init_20 ⟨HA, HC, (by rw [TA1, TA2]; exact HO), K1, K2⟩

def kFormula (kd : Nat → ClassId) (a : bAd) (j : Nat) (c : bC) : Prop := c j = .inr (2, [.int 0, .ref (a (j + 1)), .ref (a (j + 2))]) ∧ c (j + 1) = .inl (kd 0, 50, .inl (fun _ => 0)) ∧ c (j + 2) = .inl (kd 0, 50, .inl (fun _ => 0))
theorem kFormula.at {kd : Nat → ClassId} {a a' : bAd} {j : Nat} {c c' : bC} (h : kFormula kd a j c) (ha : ∀ i, j ≤ i → i < j + 3 → a' i = a i) (hc : ∀ i, j ≤ i → i < j + 3 → c' i = c i) : kFormula kd a' j c' := by
  obtain ⟨h0, h1, h2⟩ := h
  exact ⟨by rw [hc j (by omega) (by omega), h0, ha (j + 1) (by omega) (by omega), ha (j + 2) (by omega) (by omega)], (hc _ (by omega) (by omega)).trans h1, (hc _ (by omega) (by omega)).trans h2⟩
set_option maxHeartbeats 4000000 in
set_option maxRecDepth 100000 in
theorem c_X2_init {D : va_G} {kd : Nat → ClassId} {ad : bAd} {B j : Nat} {a : bAd} {c : bC} (hc0 : c j = .inr (2, [.int 0, .null, .null])) : MN yX2_init cX2_init { frames := 1, cells := 2, slots := 100, locals := 12 } D kd ad B a c j (j + 3) 2 100 (pK (kFormula kd) j a c) := by
  refine n_met (by decide) rfl (fun x h hin hr hlk => ?_)
  have HO := hc0
  have HA : ∀ i, i ≤ j → a i = a i := fun _ _ => rfl
  have HC : ∀ i, i < j → c i = c i := fun _ _ => rfl
  refine n_aload_n h (i := 0) dX2_init_0 (q := 1) rfl rfl 0 rfl ?_
  refine n_obj h m40 m27 m28 ⟨Nat.le_of_ble_eq_true rfl, Nat.le_of_ble_eq_true rfl⟩ dX2_init_1 (q := 4) rfl ?_
  refine n_aload_n h (i := 0) dX2_init_4 (q := 5) rfl rfl 0 rfl ?_
  refine n_bipush h (v := 50) dX2_init_5 (q := 7) rfl (by decide) ?_
  refine n_newa h (N := 50) m52 (by decide) (by decide) (Nat.le_of_ble_eq_true rfl) (Nat.le_of_ble_eq_true rfl) (Nat.le_of_ble_eq_true rfl) dX2_init_7 (q := 9) rfl (fun t1 a1 c1 T Ha Hc Kn => ?_)
  have HA : ∀ i, i ≤ j → a1 i = a i := fun i hi => (Ha i (by omega)).trans (HA i hi)
  have HC : ∀ i, i < j → c1 i = c i := fun i hi => (Hc i (by omega)).trans (HC i hi)
  have HO : c1 j = .inr (2, [.int 0, .null, .null]) := (Hc j (by omega)).trans HO
  have TA1 : a1 (j + 1) = t1 := T
  have K1 : c1 (j + 1) = .inl (kd 0, 50, .inl (fun _ => 0)) := Kn
  refine n_putF h hin (j := j) (k := 1) cls2 (by omega) (HA j (Nat.le_refl j)) HO (Nat.le_of_ble_eq_true rfl) m43 rfl rfl ⟨rfl, rfl⟩ (Nat.le_of_ble_eq_true rfl) dX2_init_9 (q := 12) rfl (fun c2 Hc Kn => ?_)
  have HC : ∀ i, i < j → c2 i = c i := fun i hi => (Hc i (by omega)).trans (HC i hi)
  have HO : c2 j = .inr (2, [.int 0, .ref t1, .null]) := Kn
  have K1 : c2 (j + 1) = .inl (kd 0, 50, .inl (fun _ => 0)) := (Hc (j + 1) (by omega)).trans K1
  refine n_aload_n h (i := 0) dX2_init_12 (q := 13) rfl rfl 0 rfl ?_
  refine n_bipush h (v := 50) dX2_init_13 (q := 15) rfl (by decide) ?_
  refine n_newa h (N := 50) m52 (by decide) (by decide) (Nat.le_of_ble_eq_true rfl) (Nat.le_of_ble_eq_true rfl) (Nat.le_of_ble_eq_true rfl) dX2_init_15 (q := 17) rfl (fun t3 a3 c3 T Ha Hc Kn => ?_)
  have HA : ∀ i, i ≤ j → a3 i = a i := fun i hi => (Ha i (by omega)).trans (HA i hi)
  have HC : ∀ i, i < j → c3 i = c i := fun i hi => (Hc i (by omega)).trans (HC i hi)
  have HO : c3 j = .inr (2, [.int 0, .ref t1, .null]) := (Hc j (by omega)).trans HO
  have TA1 : a3 (j + 1) = t1 := (Ha (j + 1) (by omega)).trans TA1
  have K1 : c3 (j + 1) = .inl (kd 0, 50, .inl (fun _ => 0)) := (Hc (j + 1) (by omega)).trans K1
  have TA2 : a3 (j + 2) = t3 := T
  have K2 : c3 (j + 2) = .inl (kd 0, 50, .inl (fun _ => 0)) := Kn
  refine n_putF h hin (j := j) (k := 2) cls2 (by omega) (HA j (Nat.le_refl j)) HO (Nat.le_of_ble_eq_true rfl) m44 rfl rfl ⟨rfl, rfl⟩ (Nat.le_of_ble_eq_true rfl) dX2_init_17 (q := 20) rfl (fun c4 Hc Kn => ?_)
  have HC : ∀ i, i < j → c4 i = c i := fun i hi => (Hc i (by omega)).trans (HC i hi)
  have HO : c4 j = .inr (2, [.int 0, .ref t1, .ref t3]) := Kn
  have K1 : c4 (j + 1) = .inl (kd 0, 50, .inl (fun _ => 0)) := (Hc (j + 1) (by omega)).trans K1
  have K2 : c4 (j + 2) = .inl (kd 0, 50, .inl (fun _ => 0)) := (Hc (j + 2) (by omega)).trans K2
  exact n_ret h hr hlk dX2_init_20 ⟨HA, HC, (by rw [TA1, TA2]; exact HO), K1, K2⟩

def kSheet (kd : Nat → ClassId) (a : bAd) (j : Nat) (c : bC) : Prop := c j = .inr (7, [.int 0, .int 0, .ref (a (j + 1))]) ∧ c (j + 1) = .inl (kd 0, 40, .inl (fun _ => 0))
theorem kSheet.at {kd : Nat → ClassId} {a a' : bAd} {j : Nat} {c c' : bC} (h : kSheet kd a j c) (ha : ∀ i, j ≤ i → i < j + 2 → a' i = a i) (hc : ∀ i, j ≤ i → i < j + 2 → c' i = c i) : kSheet kd a' j c' := by
  obtain ⟨h0, h1⟩ := h
  exact ⟨by rw [hc j (by omega) (by omega), h0, ha (j + 1) (by omega) (by omega)], (hc _ (by omega) (by omega)).trans h1⟩
set_option maxHeartbeats 4000000 in
set_option maxRecDepth 100000 in
theorem c_X7_init {D : va_G} {kd : Nat → ClassId} {ad : bAd} {B j : Nat} {a : bAd} {c : bC} (hc0 : c j = .inr (7, [.int 0, .int 0, .null])) : MN yX7_init cX7_init { frames := 1, cells := 1, slots := 40, locals := 12 } D kd ad B a c j (j + 2) 1 40 (pK (kSheet kd) j a c) := by
  refine n_met (by decide) rfl (fun x h hin hr hlk => ?_)
  have HO := hc0
  have HA : ∀ i, i ≤ j → a i = a i := fun _ _ => rfl
  have HC : ∀ i, i < j → c i = c i := fun _ _ => rfl
  refine n_aload_n h (i := 0) dX7_init_0 (q := 1) rfl rfl 0 rfl ?_
  refine n_obj h m174 m27 m28 ⟨Nat.le_of_ble_eq_true rfl, Nat.le_of_ble_eq_true rfl⟩ dX7_init_1 (q := 4) rfl ?_
  refine n_aload_n h (i := 0) dX7_init_4 (q := 5) rfl rfl 0 rfl ?_
  refine n_bipush h (v := 40) dX7_init_5 (q := 7) rfl (by decide) ?_
  refine n_newa h (N := 40) m52 (by decide) (by decide) (Nat.le_of_ble_eq_true rfl) (Nat.le_of_ble_eq_true rfl) (Nat.le_of_ble_eq_true rfl) dX7_init_7 (q := 9) rfl (fun t1 a1 c1 T Ha Hc Kn => ?_)
  have HA : ∀ i, i ≤ j → a1 i = a i := fun i hi => (Ha i (by omega)).trans (HA i hi)
  have HC : ∀ i, i < j → c1 i = c i := fun i hi => (Hc i (by omega)).trans (HC i hi)
  have HO : c1 j = .inr (7, [.int 0, .int 0, .null]) := (Hc j (by omega)).trans HO
  have TA1 : a1 (j + 1) = t1 := T
  have K1 : c1 (j + 1) = .inl (kd 0, 40, .inl (fun _ => 0)) := Kn
  refine n_putF h hin (j := j) (k := 2) cls7 (by omega) (HA j (Nat.le_refl j)) HO (Nat.le_of_ble_eq_true rfl) m179 rfl rfl ⟨rfl, rfl⟩ (Nat.le_of_ble_eq_true rfl) dX7_init_9 (q := 12) rfl (fun c2 Hc Kn => ?_)
  have HC : ∀ i, i < j → c2 i = c i := fun i hi => (Hc i (by omega)).trans (HC i hi)
  have HO : c2 j = .inr (7, [.int 0, .int 0, .ref t1]) := Kn
  have K1 : c2 (j + 1) = .inl (kd 0, 40, .inl (fun _ => 0)) := (Hc (j + 1) (by omega)).trans K1
  exact n_ret h hr hlk dX7_init_12 ⟨HA, HC, (by rw [TA1]; exact HO), K1⟩

def kVoices (kd : Nat → ClassId) (a : bAd) (j : Nat) (c : bC) : Prop := c j = .inr (8, [.ref (a (j + 1)), .int 0, .int 0, .int 0, .int 0]) ∧ c (j + 1) = .inl (kd 0, 40, .inl (fun _ => 0))
theorem kVoices.at {kd : Nat → ClassId} {a a' : bAd} {j : Nat} {c c' : bC} (h : kVoices kd a j c) (ha : ∀ i, j ≤ i → i < j + 2 → a' i = a i) (hc : ∀ i, j ≤ i → i < j + 2 → c' i = c i) : kVoices kd a' j c' := by
  obtain ⟨h0, h1⟩ := h
  exact ⟨by rw [hc j (by omega) (by omega), h0, ha (j + 1) (by omega) (by omega)], (hc _ (by omega) (by omega)).trans h1⟩
set_option maxHeartbeats 4000000 in
set_option maxRecDepth 100000 in
theorem c_X8_init {D : va_G} {kd : Nat → ClassId} {ad : bAd} {B j : Nat} {a : bAd} {c : bC} (hc0 : c j = .inr (8, [.null, .int 0, .int 0, .int 0, .int 0])) : MN yX8_init cX8_init { frames := 1, cells := 1, slots := 40, locals := 12 } D kd ad B a c j (j + 2) 1 40 (pK (kVoices kd) j a c) := by
  refine n_met (by decide) rfl (fun x h hin hr hlk => ?_)
  have HO := hc0
  have HA : ∀ i, i ≤ j → a i = a i := fun _ _ => rfl
  have HC : ∀ i, i < j → c i = c i := fun _ _ => rfl
  refine n_aload_n h (i := 0) dX8_init_0 (q := 1) rfl rfl 0 rfl ?_
  refine n_obj h m193 m27 m28 ⟨Nat.le_of_ble_eq_true rfl, Nat.le_of_ble_eq_true rfl⟩ dX8_init_1 (q := 4) rfl ?_
  refine n_aload_n h (i := 0) dX8_init_4 (q := 5) rfl rfl 0 rfl ?_
  refine n_bipush h (v := 40) dX8_init_5 (q := 7) rfl (by decide) ?_
  refine n_newa h (N := 40) m52 (by decide) (by decide) (Nat.le_of_ble_eq_true rfl) (Nat.le_of_ble_eq_true rfl) (Nat.le_of_ble_eq_true rfl) dX8_init_7 (q := 9) rfl (fun t1 a1 c1 T Ha Hc Kn => ?_)
  have HA : ∀ i, i ≤ j → a1 i = a i := fun i hi => (Ha i (by omega)).trans (HA i hi)
  have HC : ∀ i, i < j → c1 i = c i := fun i hi => (Hc i (by omega)).trans (HC i hi)
  have HO : c1 j = .inr (8, [.null, .int 0, .int 0, .int 0, .int 0]) := (Hc j (by omega)).trans HO
  have TA1 : a1 (j + 1) = t1 := T
  have K1 : c1 (j + 1) = .inl (kd 0, 40, .inl (fun _ => 0)) := Kn
  refine n_putF h hin (j := j) (k := 0) cls8 (by omega) (HA j (Nat.le_refl j)) HO (Nat.le_of_ble_eq_true rfl) m194 rfl rfl ⟨rfl, rfl⟩ (Nat.le_of_ble_eq_true rfl) dX8_init_9 (q := 12) rfl (fun c2 Hc Kn => ?_)
  have HC : ∀ i, i < j → c2 i = c i := fun i hi => (Hc i (by omega)).trans (HC i hi)
  have HO : c2 j = .inr (8, [.ref t1, .int 0, .int 0, .int 0, .int 0]) := Kn
  have K1 : c2 (j + 1) = .inl (kd 0, 40, .inl (fun _ => 0)) := (Hc (j + 1) (by omega)).trans K1
  exact n_ret h hr hlk dX8_init_12 ⟨HA, HC, (by rw [TA1]; exact HO), K1⟩

def kLaws (kd : Nat → ClassId) (a : bAd) (j : Nat) (c : bC) : Prop := c j = .inr (3, [.int 2, .ref (a (j + 1)), .ref (a (j + 2)), .ref (a (j + 5)), .ref (a (j + 8))]) ∧ c (j + 1) = .inl (kd 0, 4, .inl (fun _ => 0)) ∧ kFormula kd a (j + 2) c ∧ kFormula kd a (j + 5) c ∧ c (j + 8) = .inl (kd 0, 2304, .inl (fun _ => -1))
theorem kLaws.at {kd : Nat → ClassId} {a a' : bAd} {j : Nat} {c c' : bC} (h : kLaws kd a j c) (ha : ∀ i, j ≤ i → i < j + 9 → a' i = a i) (hc : ∀ i, j ≤ i → i < j + 9 → c' i = c i) : kLaws kd a' j c' := by
  obtain ⟨h0, h1, h2, h3, h4⟩ := h
  exact ⟨by rw [hc j (by omega) (by omega), h0, ha (j + 1) (by omega) (by omega), ha (j + 2) (by omega) (by omega), ha (j + 5) (by omega) (by omega), ha (j + 8) (by omega) (by omega)], (hc _ (by omega) (by omega)).trans h1, h2.at (fun i g1 g2 => ha i (by omega) (by omega)) (fun i g1 g2 => hc i (by omega) (by omega)), h3.at (fun i g1 g2 => ha i (by omega) (by omega)) (fun i g1 g2 => hc i (by omega) (by omega)), (hc _ (by omega) (by omega)).trans h4⟩
set_option maxHeartbeats 4000000 in
set_option maxRecDepth 100000 in
theorem c_X3_init {D : va_G} {kd : Nat → ClassId} {ad : bAd} {B j : Nat} {a : bAd} {c : bC} (hc0 : c j = .inr (3, [.int 0, .null, .null, .null, .null])) : MN yX3_init cX3_init { frames := 2, cells := 8, slots := 2514, locals := 40 } D kd ad B a c j (j + 9) 8 2514 (pK (kLaws kd) j a c) := by
  refine n_met (by decide) rfl (fun x h hin hr hlk => ?_)
  have HO := hc0
  have HA : ∀ i, i ≤ j → a i = a i := fun _ _ => rfl
  have HC : ∀ i, i < j → c i = c i := fun _ _ => rfl
  refine n_aload_n h (i := 0) dX3_init_0 (q := 1) rfl rfl 0 rfl ?_
  refine n_obj h m34 m27 m28 ⟨Nat.le_of_ble_eq_true rfl, Nat.le_of_ble_eq_true rfl⟩ dX3_init_1 (q := 4) rfl ?_
  refine n_aload_n h (i := 0) dX3_init_4 (q := 5) rfl rfl 0 rfl ?_
  refine n_iconst h (v := 2) dX3_init_5 (q := 6) rfl (by decide) ?_
  refine n_put h (j := j) (k := 0) cls3 (by omega) (HA j (Nat.le_refl j)) HO (Nat.le_of_ble_eq_true rfl) m56 rfl ⟨rfl, rfl⟩ (Nat.le_of_ble_eq_true rfl) dX3_init_6 (q := 9) rfl (fun c1 Hc Kn => ?_)
  have HC : ∀ i, i < j → c1 i = c i := fun i hi => (Hc i (by omega)).trans (HC i hi)
  have HO : c1 j = .inr (3, [.int 2, .null, .null, .null, .null]) := Kn
  refine n_aload_n h (i := 0) dX3_init_9 (q := 10) rfl rfl 0 rfl ?_
  refine n_iconst h (v := 4) dX3_init_10 (q := 11) rfl (by decide) ?_
  refine n_newa h (N := 4) m52 (by decide) (by decide) (Nat.le_of_ble_eq_true rfl) (Nat.le_of_ble_eq_true rfl) (Nat.le_of_ble_eq_true rfl) dX3_init_11 (q := 13) rfl (fun t2 a2 c2 T Ha Hc Kn => ?_)
  have HA : ∀ i, i ≤ j → a2 i = a i := fun i hi => (Ha i (by omega)).trans (HA i hi)
  have HC : ∀ i, i < j → c2 i = c i := fun i hi => (Hc i (by omega)).trans (HC i hi)
  have HO : c2 j = .inr (3, [.int 2, .null, .null, .null, .null]) := (Hc j (by omega)).trans HO
  have TA1 : a2 (j + 1) = t2 := T
  have K1 : c2 (j + 1) = .inl (kd 0, 4, .inl (fun _ => 0)) := Kn
  refine n_putF h hin (j := j) (k := 1) cls3 (by omega) (HA j (Nat.le_refl j)) HO (Nat.le_of_ble_eq_true rfl) m59 rfl rfl ⟨rfl, rfl⟩ (Nat.le_of_ble_eq_true rfl) dX3_init_13 (q := 16) rfl (fun c3 Hc Kn => ?_)
  have HC : ∀ i, i < j → c3 i = c i := fun i hi => (Hc i (by omega)).trans (HC i hi)
  have HO : c3 j = .inr (3, [.int 2, .ref t2, .null, .null, .null]) := Kn
  have K1 : c3 (j + 1) = .inl (kd 0, 4, .inl (fun _ => 0)) := (Hc (j + 1) (by omega)).trans K1
  refine n_aload_n h (i := 0) dX3_init_16 (q := 17) rfl rfl 0 rfl ?_
  refine n_new h (fs := [.int 0, .null, .null]) cls2 m35 m36 m3 (by decide) (Nat.le_of_ble_eq_true rfl) (Nat.le_of_ble_eq_true rfl) dX3_init_17 (q := 20) rfl (fun t4 a4 c4 T Ha Hc Kn => ?_)
  have HA : ∀ i, i ≤ j → a4 i = a i := fun i hi => (Ha i (by omega)).trans (HA i hi)
  have HC : ∀ i, i < j → c4 i = c i := fun i hi => (Hc i (by omega)).trans (HC i hi)
  have HO : c4 j = .inr (3, [.int 2, .ref t2, .null, .null, .null]) := (Hc j (by omega)).trans HO
  have TA1 : a4 (j + 1) = t2 := (Ha (j + 1) (by omega)).trans TA1
  have K1 : c4 (j + 1) = .inl (kd 0, 4, .inl (fun _ => 0)) := (Hc (j + 1) (by omega)).trans K1
  have TA2 : a4 (j + 2) = t4 := T
  have Z2 : c4 (j + 2) = .inr (2, [.int 0, .null, .null]) := Kn
  refine n_dup h dX3_init_20 (q := 21) rfl rfl ?_
  refine n_initN h (j := j + 2) (c_X2_init Z2) cal_X2_init m38 m37 rfl TA2 ⟨rfl, rfl, Nat.le_of_ble_eq_true rfl, Nat.le_of_ble_eq_true rfl⟩ ⟨Nat.le_of_ble_eq_true rfl, Nat.le_of_ble_eq_true rfl⟩ (Nat.le_of_ble_eq_true rfl) dX3_init_21 (q := 24) rfl (fun a5 c5 P => ?_)
  obtain ⟨Ha, Hc, Kn⟩ := P
  have HA : ∀ i, i ≤ j → a5 i = a i := fun i hi => (Ha i (by omega)).trans (HA i hi)
  have HC : ∀ i, i < j → c5 i = c i := fun i hi => (Hc i (by omega)).trans (HC i hi)
  have HO : c5 j = .inr (3, [.int 2, .ref t2, .null, .null, .null]) := (Hc j (by omega)).trans HO
  have TA1 : a5 (j + 1) = t2 := (Ha (j + 1) (by omega)).trans TA1
  have TA2 : a5 (j + 2) = t4 := (Ha (j + 2) (by omega)).trans TA2
  have K1 : c5 (j + 1) = .inl (kd 0, 4, .inl (fun _ => 0)) := (Hc (j + 1) (by omega)).trans K1
  have K2 : kFormula kd a5 (j + 2) c5 := Kn
  refine n_putF h hin (j := j) (k := 2) cls3 (by omega) (HA j (Nat.le_refl j)) HO (Nat.le_of_ble_eq_true rfl) m61 rfl rfl ⟨rfl, rfl⟩ (Nat.le_of_ble_eq_true rfl) dX3_init_24 (q := 27) rfl (fun c6 Hc Kn => ?_)
  have HC : ∀ i, i < j → c6 i = c i := fun i hi => (Hc i (by omega)).trans (HC i hi)
  have HO : c6 j = .inr (3, [.int 2, .ref t2, .ref t4, .null, .null]) := Kn
  have K1 : c6 (j + 1) = .inl (kd 0, 4, .inl (fun _ => 0)) := (Hc (j + 1) (by omega)).trans K1
  have K2 : kFormula kd a5 (j + 2) c6 := K2.at (fun i h1 h2 => rfl) (fun i h1 h2 => Hc i (by omega))
  refine n_aload_n h (i := 0) dX3_init_27 (q := 28) rfl rfl 0 rfl ?_
  refine n_new h (fs := [.int 0, .null, .null]) cls2 m35 m36 m3 (by decide) (Nat.le_of_ble_eq_true rfl) (Nat.le_of_ble_eq_true rfl) dX3_init_28 (q := 31) rfl (fun t7 a7 c7 T Ha Hc Kn => ?_)
  have HA : ∀ i, i ≤ j → a7 i = a i := fun i hi => (Ha i (by omega)).trans (HA i hi)
  have HC : ∀ i, i < j → c7 i = c i := fun i hi => (Hc i (by omega)).trans (HC i hi)
  have HO : c7 j = .inr (3, [.int 2, .ref t2, .ref t4, .null, .null]) := (Hc j (by omega)).trans HO
  have TA1 : a7 (j + 1) = t2 := (Ha (j + 1) (by omega)).trans TA1
  have TA2 : a7 (j + 2) = t4 := (Ha (j + 2) (by omega)).trans TA2
  have K1 : c7 (j + 1) = .inl (kd 0, 4, .inl (fun _ => 0)) := (Hc (j + 1) (by omega)).trans K1
  have K2 : kFormula kd a7 (j + 2) c7 := K2.at (fun i h1 h2 => Ha i (by omega)) (fun i h1 h2 => Hc i (by omega))
  have TA5 : a7 (j + 5) = t7 := T
  have Z5 : c7 (j + 5) = .inr (2, [.int 0, .null, .null]) := Kn
  refine n_dup h dX3_init_31 (q := 32) rfl rfl ?_
  refine n_initN h (j := j + 5) (c_X2_init Z5) cal_X2_init m38 m37 rfl TA5 ⟨rfl, rfl, Nat.le_of_ble_eq_true rfl, Nat.le_of_ble_eq_true rfl⟩ ⟨Nat.le_of_ble_eq_true rfl, Nat.le_of_ble_eq_true rfl⟩ (Nat.le_of_ble_eq_true rfl) dX3_init_32 (q := 35) rfl (fun a8 c8 P => ?_)
  obtain ⟨Ha, Hc, Kn⟩ := P
  have HA : ∀ i, i ≤ j → a8 i = a i := fun i hi => (Ha i (by omega)).trans (HA i hi)
  have HC : ∀ i, i < j → c8 i = c i := fun i hi => (Hc i (by omega)).trans (HC i hi)
  have HO : c8 j = .inr (3, [.int 2, .ref t2, .ref t4, .null, .null]) := (Hc j (by omega)).trans HO
  have TA1 : a8 (j + 1) = t2 := (Ha (j + 1) (by omega)).trans TA1
  have TA2 : a8 (j + 2) = t4 := (Ha (j + 2) (by omega)).trans TA2
  have TA5 : a8 (j + 5) = t7 := (Ha (j + 5) (by omega)).trans TA5
  have K1 : c8 (j + 1) = .inl (kd 0, 4, .inl (fun _ => 0)) := (Hc (j + 1) (by omega)).trans K1
  have K2 : kFormula kd a8 (j + 2) c8 := K2.at (fun i h1 h2 => Ha i (by omega)) (fun i h1 h2 => Hc i (by omega))
  have K5 : kFormula kd a8 (j + 5) c8 := Kn
  refine n_putF h hin (j := j) (k := 3) cls3 (by omega) (HA j (Nat.le_refl j)) HO (Nat.le_of_ble_eq_true rfl) m62 rfl rfl ⟨rfl, rfl⟩ (Nat.le_of_ble_eq_true rfl) dX3_init_35 (q := 38) rfl (fun c9 Hc Kn => ?_)
  have HC : ∀ i, i < j → c9 i = c i := fun i hi => (Hc i (by omega)).trans (HC i hi)
  have HO : c9 j = .inr (3, [.int 2, .ref t2, .ref t4, .ref t7, .null]) := Kn
  have K1 : c9 (j + 1) = .inl (kd 0, 4, .inl (fun _ => 0)) := (Hc (j + 1) (by omega)).trans K1
  have K2 : kFormula kd a8 (j + 2) c9 := K2.at (fun i h1 h2 => rfl) (fun i h1 h2 => Hc i (by omega))
  have K5 : kFormula kd a8 (j + 5) c9 := K5.at (fun i h1 h2 => rfl) (fun i h1 h2 => Hc i (by omega))
  refine n_aload_n h (i := 0) dX3_init_38 (q := 39) rfl rfl 0 rfl ?_
  refine n_sipush h (v := 2304) dX3_init_39 (q := 42) rfl (by decide) ?_
  refine n_newa h (N := 2304) m52 (by decide) (by decide) (Nat.le_of_ble_eq_true rfl) (Nat.le_of_ble_eq_true rfl) (Nat.le_of_ble_eq_true rfl) dX3_init_42 (q := 44) rfl (fun t10 a10 c10 T Ha Hc Kn => ?_)
  have HA : ∀ i, i ≤ j → a10 i = a i := fun i hi => (Ha i (by omega)).trans (HA i hi)
  have HC : ∀ i, i < j → c10 i = c i := fun i hi => (Hc i (by omega)).trans (HC i hi)
  have HO : c10 j = .inr (3, [.int 2, .ref t2, .ref t4, .ref t7, .null]) := (Hc j (by omega)).trans HO
  have TA1 : a10 (j + 1) = t2 := (Ha (j + 1) (by omega)).trans TA1
  have TA2 : a10 (j + 2) = t4 := (Ha (j + 2) (by omega)).trans TA2
  have TA5 : a10 (j + 5) = t7 := (Ha (j + 5) (by omega)).trans TA5
  have K1 : c10 (j + 1) = .inl (kd 0, 4, .inl (fun _ => 0)) := (Hc (j + 1) (by omega)).trans K1
  have K2 : kFormula kd a10 (j + 2) c10 := K2.at (fun i h1 h2 => Ha i (by omega)) (fun i h1 h2 => Hc i (by omega))
  have K5 : kFormula kd a10 (j + 5) c10 := K5.at (fun i h1 h2 => Ha i (by omega)) (fun i h1 h2 => Hc i (by omega))
  have TA8 : a10 (j + 8) = t10 := T
  have K8 : c10 (j + 8) = .inl (kd 0, 2304, .inl (fun _ => 0)) := Kn
  refine n_putF h hin (j := j) (k := 4) cls3 (by omega) (HA j (Nat.le_refl j)) HO (Nat.le_of_ble_eq_true rfl) m63 rfl rfl ⟨rfl, rfl⟩ (Nat.le_of_ble_eq_true rfl) dX3_init_44 (q := 47) rfl (fun c11 Hc Kn => ?_)
  have HC : ∀ i, i < j → c11 i = c i := fun i hi => (Hc i (by omega)).trans (HC i hi)
  have HO : c11 j = .inr (3, [.int 2, .ref t2, .ref t4, .ref t7, .ref t10]) := Kn
  have K1 : c11 (j + 1) = .inl (kd 0, 4, .inl (fun _ => 0)) := (Hc (j + 1) (by omega)).trans K1
  have K2 : kFormula kd a10 (j + 2) c11 := K2.at (fun i h1 h2 => rfl) (fun i h1 h2 => Hc i (by omega))
  have K5 : kFormula kd a10 (j + 5) c11 := K5.at (fun i h1 h2 => rfl) (fun i h1 h2 => Hc i (by omega))
  have K8 : c11 (j + 8) = .inl (kd 0, 2304, .inl (fun _ => 0)) := (Hc (j + 8) (by omega)).trans K8
  refine n_aload_n h (i := 0) dX3_init_47 (q := 48) rfl rfl 0 rfl ?_
  refine n_get h (j := j) (k := 4) (v := .ref t10) cls3 (by omega) (HA j (Nat.le_refl j)) HO (Nat.le_of_ble_eq_true rfl) m63 rfl dX3_init_48 (q := 51) rfl ?_
  refine n_iconst h (v := -1) dX3_init_51 (q := 52) rfl (by decide) ?_
  refine n_fill h (j := j + 8) m53 m54 ⟨Nat.le_of_ble_eq_true rfl, Nat.le_of_ble_eq_true rfl⟩ ⟨Nat.le_of_ble_eq_true rfl, Nat.le_of_ble_eq_true rfl⟩ (by decide) (by omega) TA8 K8 (Nat.le_of_ble_eq_true rfl) dX3_init_52 (q := 55) rfl (fun c12 Hc Kn => ?_)
  have HC : ∀ i, i < j → c12 i = c i := fun i hi => (Hc i (by omega)).trans (HC i hi)
  have HO : c12 j = .inr (3, [.int 2, .ref t2, .ref t4, .ref t7, .ref t10]) := (Hc j (by omega)).trans HO
  have K1 : c12 (j + 1) = .inl (kd 0, 4, .inl (fun _ => 0)) := (Hc (j + 1) (by omega)).trans K1
  have K2 : kFormula kd a10 (j + 2) c12 := K2.at (fun i h1 h2 => rfl) (fun i h1 h2 => Hc i (by omega))
  have K5 : kFormula kd a10 (j + 5) c12 := K5.at (fun i h1 h2 => rfl) (fun i h1 h2 => Hc i (by omega))
  have K8 : c12 (j + 8) = .inl (kd 0, 2304, .inl (fun _ => -1)) := Kn
  exact n_ret h hr hlk dX3_init_55 ⟨HA, HC, (by rw [TA1, TA2, TA5, TA8]; exact HO), K1, K2, K5, K8⟩

def kScene (kd : Nat → ClassId) (a : bAd) (j : Nat) (c : bC) : Prop := c j = .inr (6, [.int 0, .int 0, .int 1, .ref (a (j + 1)), .int 0, .ref (a (j + 6)), .ref (a (j + 7)), .ref (a (j + 8))]) ∧ kBoats kd a (j + 1) c ∧ c (j + 6) = .inl (kd 0, 6, .inl (fun _ => 0)) ∧ c (j + 7) = .inl (kd 0, 6, .inl (fun _ => 0)) ∧ c (j + 8) = .inl (kd 0, 6, .inl (fun _ => 0))
theorem kScene.at {kd : Nat → ClassId} {a a' : bAd} {j : Nat} {c c' : bC} (h : kScene kd a j c) (ha : ∀ i, j ≤ i → i < j + 9 → a' i = a i) (hc : ∀ i, j ≤ i → i < j + 9 → c' i = c i) : kScene kd a' j c' := by
  obtain ⟨h0, h1, h2, h3, h4⟩ := h
  exact ⟨by rw [hc j (by omega) (by omega), h0, ha (j + 1) (by omega) (by omega), ha (j + 6) (by omega) (by omega), ha (j + 7) (by omega) (by omega), ha (j + 8) (by omega) (by omega)], h1.at (fun i g1 g2 => ha i (by omega) (by omega)) (fun i g1 g2 => hc i (by omega) (by omega)), (hc _ (by omega) (by omega)).trans h2, (hc _ (by omega) (by omega)).trans h3, (hc _ (by omega) (by omega)).trans h4⟩
set_option maxHeartbeats 4000000 in
set_option maxRecDepth 100000 in
theorem c_X6_init {D : va_G} {kd : Nat → ClassId} {ad : bAd} {B j : Nat} {a : bAd} {c : bC} (hc0 : c j = .inr (6, [.int 0, .int 0, .int 0, .null, .int 0, .null, .null, .null])) : MN yX6_init cX6_init { frames := 2, cells := 8, slots := 59, locals := 32 } D kd ad B a c j (j + 9) 8 59 (pK (kScene kd) j a c) := by
  refine n_met (by decide) rfl (fun x h hin hr hlk => ?_)
  have HO := hc0
  have HA : ∀ i, i ≤ j → a i = a i := fun _ _ => rfl
  have HC : ∀ i, i < j → c i = c i := fun _ _ => rfl
  refine n_aload_n h (i := 0) dX6_init_0 (q := 1) rfl rfl 0 rfl ?_
  refine n_obj h m80 m27 m28 ⟨Nat.le_of_ble_eq_true rfl, Nat.le_of_ble_eq_true rfl⟩ dX6_init_1 (q := 4) rfl ?_
  refine n_aload_n h (i := 0) dX6_init_4 (q := 5) rfl rfl 0 rfl ?_
  refine n_iconst h (v := 1) dX6_init_5 (q := 6) rfl (by decide) ?_
  refine n_put h (j := j) (k := 2) cls6 (by omega) (HA j (Nat.le_refl j)) HO (Nat.le_of_ble_eq_true rfl) m116 rfl ⟨rfl, rfl⟩ (Nat.le_of_ble_eq_true rfl) dX6_init_6 (q := 9) rfl (fun c1 Hc Kn => ?_)
  have HC : ∀ i, i < j → c1 i = c i := fun i hi => (Hc i (by omega)).trans (HC i hi)
  have HO : c1 j = .inr (6, [.int 0, .int 0, .int 1, .null, .int 0, .null, .null, .null]) := Kn
  refine n_aload_n h (i := 0) dX6_init_9 (q := 10) rfl rfl 0 rfl ?_
  refine n_new h (fs := [.int 0, .null, .null, .null, .null]) cls0 m81 m82 m6 (by decide) (Nat.le_of_ble_eq_true rfl) (Nat.le_of_ble_eq_true rfl) dX6_init_10 (q := 13) rfl (fun t2 a2 c2 T Ha Hc Kn => ?_)
  have HA : ∀ i, i ≤ j → a2 i = a i := fun i hi => (Ha i (by omega)).trans (HA i hi)
  have HC : ∀ i, i < j → c2 i = c i := fun i hi => (Hc i (by omega)).trans (HC i hi)
  have HO : c2 j = .inr (6, [.int 0, .int 0, .int 1, .null, .int 0, .null, .null, .null]) := (Hc j (by omega)).trans HO
  have TA1 : a2 (j + 1) = t2 := T
  have Z1 : c2 (j + 1) = .inr (0, [.int 0, .null, .null, .null, .null]) := Kn
  refine n_dup h dX6_init_13 (q := 14) rfl rfl ?_
  refine n_initN h (j := j + 1) (c_X0_init Z1) cal_X0_init m84 m83 rfl TA1 ⟨rfl, rfl, Nat.le_of_ble_eq_true rfl, Nat.le_of_ble_eq_true rfl⟩ ⟨Nat.le_of_ble_eq_true rfl, Nat.le_of_ble_eq_true rfl⟩ (Nat.le_of_ble_eq_true rfl) dX6_init_14 (q := 17) rfl (fun a3 c3 P => ?_)
  obtain ⟨Ha, Hc, Kn⟩ := P
  have HA : ∀ i, i ≤ j → a3 i = a i := fun i hi => (Ha i (by omega)).trans (HA i hi)
  have HC : ∀ i, i < j → c3 i = c i := fun i hi => (Hc i (by omega)).trans (HC i hi)
  have HO : c3 j = .inr (6, [.int 0, .int 0, .int 1, .null, .int 0, .null, .null, .null]) := (Hc j (by omega)).trans HO
  have TA1 : a3 (j + 1) = t2 := (Ha (j + 1) (by omega)).trans TA1
  have K1 : kBoats kd a3 (j + 1) c3 := Kn
  refine n_putF h hin (j := j) (k := 3) cls6 (by omega) (HA j (Nat.le_refl j)) HO (Nat.le_of_ble_eq_true rfl) m118 rfl rfl ⟨rfl, rfl⟩ (Nat.le_of_ble_eq_true rfl) dX6_init_17 (q := 20) rfl (fun c4 Hc Kn => ?_)
  have HC : ∀ i, i < j → c4 i = c i := fun i hi => (Hc i (by omega)).trans (HC i hi)
  have HO : c4 j = .inr (6, [.int 0, .int 0, .int 1, .ref t2, .int 0, .null, .null, .null]) := Kn
  have K1 : kBoats kd a3 (j + 1) c4 := K1.at (fun i h1 h2 => rfl) (fun i h1 h2 => Hc i (by omega))
  refine n_aload_n h (i := 0) dX6_init_20 (q := 21) rfl rfl 0 rfl ?_
  refine n_bipush h (v := 6) dX6_init_21 (q := 23) rfl (by decide) ?_
  refine n_newa h (N := 6) m52 (by decide) (by decide) (Nat.le_of_ble_eq_true rfl) (Nat.le_of_ble_eq_true rfl) (Nat.le_of_ble_eq_true rfl) dX6_init_23 (q := 25) rfl (fun t5 a5 c5 T Ha Hc Kn => ?_)
  have HA : ∀ i, i ≤ j → a5 i = a i := fun i hi => (Ha i (by omega)).trans (HA i hi)
  have HC : ∀ i, i < j → c5 i = c i := fun i hi => (Hc i (by omega)).trans (HC i hi)
  have HO : c5 j = .inr (6, [.int 0, .int 0, .int 1, .ref t2, .int 0, .null, .null, .null]) := (Hc j (by omega)).trans HO
  have TA1 : a5 (j + 1) = t2 := (Ha (j + 1) (by omega)).trans TA1
  have K1 : kBoats kd a5 (j + 1) c5 := K1.at (fun i h1 h2 => Ha i (by omega)) (fun i h1 h2 => Hc i (by omega))
  have TA6 : a5 (j + 6) = t5 := T
  have K6 : c5 (j + 6) = .inl (kd 0, 6, .inl (fun _ => 0)) := Kn
  refine n_putF h hin (j := j) (k := 5) cls6 (by omega) (HA j (Nat.le_refl j)) HO (Nat.le_of_ble_eq_true rfl) m123 rfl rfl ⟨rfl, rfl⟩ (Nat.le_of_ble_eq_true rfl) dX6_init_25 (q := 28) rfl (fun c6 Hc Kn => ?_)
  have HC : ∀ i, i < j → c6 i = c i := fun i hi => (Hc i (by omega)).trans (HC i hi)
  have HO : c6 j = .inr (6, [.int 0, .int 0, .int 1, .ref t2, .int 0, .ref t5, .null, .null]) := Kn
  have K1 : kBoats kd a5 (j + 1) c6 := K1.at (fun i h1 h2 => rfl) (fun i h1 h2 => Hc i (by omega))
  have K6 : c6 (j + 6) = .inl (kd 0, 6, .inl (fun _ => 0)) := (Hc (j + 6) (by omega)).trans K6
  refine n_aload_n h (i := 0) dX6_init_28 (q := 29) rfl rfl 0 rfl ?_
  refine n_bipush h (v := 6) dX6_init_29 (q := 31) rfl (by decide) ?_
  refine n_newa h (N := 6) m52 (by decide) (by decide) (Nat.le_of_ble_eq_true rfl) (Nat.le_of_ble_eq_true rfl) (Nat.le_of_ble_eq_true rfl) dX6_init_31 (q := 33) rfl (fun t7 a7 c7 T Ha Hc Kn => ?_)
  have HA : ∀ i, i ≤ j → a7 i = a i := fun i hi => (Ha i (by omega)).trans (HA i hi)
  have HC : ∀ i, i < j → c7 i = c i := fun i hi => (Hc i (by omega)).trans (HC i hi)
  have HO : c7 j = .inr (6, [.int 0, .int 0, .int 1, .ref t2, .int 0, .ref t5, .null, .null]) := (Hc j (by omega)).trans HO
  have TA1 : a7 (j + 1) = t2 := (Ha (j + 1) (by omega)).trans TA1
  have TA6 : a7 (j + 6) = t5 := (Ha (j + 6) (by omega)).trans TA6
  have K1 : kBoats kd a7 (j + 1) c7 := K1.at (fun i h1 h2 => Ha i (by omega)) (fun i h1 h2 => Hc i (by omega))
  have K6 : c7 (j + 6) = .inl (kd 0, 6, .inl (fun _ => 0)) := (Hc (j + 6) (by omega)).trans K6
  have TA7 : a7 (j + 7) = t7 := T
  have K7 : c7 (j + 7) = .inl (kd 0, 6, .inl (fun _ => 0)) := Kn
  refine n_putF h hin (j := j) (k := 6) cls6 (by omega) (HA j (Nat.le_refl j)) HO (Nat.le_of_ble_eq_true rfl) m125 rfl rfl ⟨rfl, rfl⟩ (Nat.le_of_ble_eq_true rfl) dX6_init_33 (q := 36) rfl (fun c8 Hc Kn => ?_)
  have HC : ∀ i, i < j → c8 i = c i := fun i hi => (Hc i (by omega)).trans (HC i hi)
  have HO : c8 j = .inr (6, [.int 0, .int 0, .int 1, .ref t2, .int 0, .ref t5, .ref t7, .null]) := Kn
  have K1 : kBoats kd a7 (j + 1) c8 := K1.at (fun i h1 h2 => rfl) (fun i h1 h2 => Hc i (by omega))
  have K6 : c8 (j + 6) = .inl (kd 0, 6, .inl (fun _ => 0)) := (Hc (j + 6) (by omega)).trans K6
  have K7 : c8 (j + 7) = .inl (kd 0, 6, .inl (fun _ => 0)) := (Hc (j + 7) (by omega)).trans K7
  refine n_aload_n h (i := 0) dX6_init_36 (q := 37) rfl rfl 0 rfl ?_
  refine n_bipush h (v := 6) dX6_init_37 (q := 39) rfl (by decide) ?_
  refine n_newa h (N := 6) m52 (by decide) (by decide) (Nat.le_of_ble_eq_true rfl) (Nat.le_of_ble_eq_true rfl) (Nat.le_of_ble_eq_true rfl) dX6_init_39 (q := 41) rfl (fun t9 a9 c9 T Ha Hc Kn => ?_)
  have HA : ∀ i, i ≤ j → a9 i = a i := fun i hi => (Ha i (by omega)).trans (HA i hi)
  have HC : ∀ i, i < j → c9 i = c i := fun i hi => (Hc i (by omega)).trans (HC i hi)
  have HO : c9 j = .inr (6, [.int 0, .int 0, .int 1, .ref t2, .int 0, .ref t5, .ref t7, .null]) := (Hc j (by omega)).trans HO
  have TA1 : a9 (j + 1) = t2 := (Ha (j + 1) (by omega)).trans TA1
  have TA6 : a9 (j + 6) = t5 := (Ha (j + 6) (by omega)).trans TA6
  have TA7 : a9 (j + 7) = t7 := (Ha (j + 7) (by omega)).trans TA7
  have K1 : kBoats kd a9 (j + 1) c9 := K1.at (fun i h1 h2 => Ha i (by omega)) (fun i h1 h2 => Hc i (by omega))
  have K6 : c9 (j + 6) = .inl (kd 0, 6, .inl (fun _ => 0)) := (Hc (j + 6) (by omega)).trans K6
  have K7 : c9 (j + 7) = .inl (kd 0, 6, .inl (fun _ => 0)) := (Hc (j + 7) (by omega)).trans K7
  have TA8 : a9 (j + 8) = t9 := T
  have K8 : c9 (j + 8) = .inl (kd 0, 6, .inl (fun _ => 0)) := Kn
  refine n_putF h hin (j := j) (k := 7) cls6 (by omega) (HA j (Nat.le_refl j)) HO (Nat.le_of_ble_eq_true rfl) m127 rfl rfl ⟨rfl, rfl⟩ (Nat.le_of_ble_eq_true rfl) dX6_init_41 (q := 44) rfl (fun c10 Hc Kn => ?_)
  have HC : ∀ i, i < j → c10 i = c i := fun i hi => (Hc i (by omega)).trans (HC i hi)
  have HO : c10 j = .inr (6, [.int 0, .int 0, .int 1, .ref t2, .int 0, .ref t5, .ref t7, .ref t9]) := Kn
  have K1 : kBoats kd a9 (j + 1) c10 := K1.at (fun i h1 h2 => rfl) (fun i h1 h2 => Hc i (by omega))
  have K6 : c10 (j + 6) = .inl (kd 0, 6, .inl (fun _ => 0)) := (Hc (j + 6) (by omega)).trans K6
  have K7 : c10 (j + 7) = .inl (kd 0, 6, .inl (fun _ => 0)) := (Hc (j + 7) (by omega)).trans K7
  have K8 : c10 (j + 8) = .inl (kd 0, 6, .inl (fun _ => 0)) := (Hc (j + 8) (by omega)).trans K8
  exact n_ret h hr hlk dX6_init_44 ⟨HA, HC, (by rw [TA1, TA6, TA7, TA8]; exact HO), K1, K6, K7, K8⟩

def kReader (kd : Nat → ClassId) (a : bAd) (j : Nat) (c : bC) : Prop := c j = .inr (5, [.ref (a (j + 1)), .ref (a (j + 4)), .int 0, .int 0, .int 0]) ∧ kFormula kd a (j + 1) c ∧ c (j + 4) = .inl (kd 0, 50, .inl (fun _ => 0))
theorem kReader.at {kd : Nat → ClassId} {a a' : bAd} {j : Nat} {c c' : bC} (h : kReader kd a j c) (ha : ∀ i, j ≤ i → i < j + 5 → a' i = a i) (hc : ∀ i, j ≤ i → i < j + 5 → c' i = c i) : kReader kd a' j c' := by
  obtain ⟨h0, h1, h2⟩ := h
  exact ⟨by rw [hc j (by omega) (by omega), h0, ha (j + 1) (by omega) (by omega), ha (j + 4) (by omega) (by omega)], h1.at (fun i g1 g2 => ha i (by omega) (by omega)) (fun i g1 g2 => hc i (by omega) (by omega)), (hc _ (by omega) (by omega)).trans h2⟩
set_option maxHeartbeats 4000000 in
set_option maxRecDepth 100000 in
theorem c_X5_init {D : va_G} {kd : Nat → ClassId} {ad : bAd} {B j : Nat} {a : bAd} {c : bC} (hc0 : c j = .inr (5, [.null, .null, .int 0, .int 0, .int 0])) : MN yX5_init cX5_init { frames := 2, cells := 4, slots := 153, locals := 32 } D kd ad B a c j (j + 5) 4 153 (pK (kReader kd) j a c) := by
  refine n_met (by decide) rfl (fun x h hin hr hlk => ?_)
  have HO := hc0
  have HA : ∀ i, i ≤ j → a i = a i := fun _ _ => rfl
  have HC : ∀ i, i < j → c i = c i := fun _ _ => rfl
  refine n_aload_n h (i := 0) dX5_init_0 (q := 1) rfl rfl 0 rfl ?_
  refine n_obj h m217 m27 m28 ⟨Nat.le_of_ble_eq_true rfl, Nat.le_of_ble_eq_true rfl⟩ dX5_init_1 (q := 4) rfl ?_
  refine n_aload_n h (i := 0) dX5_init_4 (q := 5) rfl rfl 0 rfl ?_
  refine n_new h (fs := [.int 0, .null, .null]) cls2 m218 m36 m3 (by decide) (Nat.le_of_ble_eq_true rfl) (Nat.le_of_ble_eq_true rfl) dX5_init_5 (q := 8) rfl (fun t1 a1 c1 T Ha Hc Kn => ?_)
  have HA : ∀ i, i ≤ j → a1 i = a i := fun i hi => (Ha i (by omega)).trans (HA i hi)
  have HC : ∀ i, i < j → c1 i = c i := fun i hi => (Hc i (by omega)).trans (HC i hi)
  have HO : c1 j = .inr (5, [.null, .null, .int 0, .int 0, .int 0]) := (Hc j (by omega)).trans HO
  have TA1 : a1 (j + 1) = t1 := T
  have Z1 : c1 (j + 1) = .inr (2, [.int 0, .null, .null]) := Kn
  refine n_dup h dX5_init_8 (q := 9) rfl rfl ?_
  refine n_initN h (j := j + 1) (c_X2_init Z1) cal_X2_init m38 m219 rfl TA1 ⟨rfl, rfl, Nat.le_of_ble_eq_true rfl, Nat.le_of_ble_eq_true rfl⟩ ⟨Nat.le_of_ble_eq_true rfl, Nat.le_of_ble_eq_true rfl⟩ (Nat.le_of_ble_eq_true rfl) dX5_init_9 (q := 12) rfl (fun a2 c2 P => ?_)
  obtain ⟨Ha, Hc, Kn⟩ := P
  have HA : ∀ i, i ≤ j → a2 i = a i := fun i hi => (Ha i (by omega)).trans (HA i hi)
  have HC : ∀ i, i < j → c2 i = c i := fun i hi => (Hc i (by omega)).trans (HC i hi)
  have HO : c2 j = .inr (5, [.null, .null, .int 0, .int 0, .int 0]) := (Hc j (by omega)).trans HO
  have TA1 : a2 (j + 1) = t1 := (Ha (j + 1) (by omega)).trans TA1
  have K1 : kFormula kd a2 (j + 1) c2 := Kn
  refine n_putF h hin (j := j) (k := 0) cls5 (by omega) (HA j (Nat.le_refl j)) HO (Nat.le_of_ble_eq_true rfl) m220 rfl rfl ⟨rfl, rfl⟩ (Nat.le_of_ble_eq_true rfl) dX5_init_12 (q := 15) rfl (fun c3 Hc Kn => ?_)
  have HC : ∀ i, i < j → c3 i = c i := fun i hi => (Hc i (by omega)).trans (HC i hi)
  have HO : c3 j = .inr (5, [.ref t1, .null, .int 0, .int 0, .int 0]) := Kn
  have K1 : kFormula kd a2 (j + 1) c3 := K1.at (fun i h1 h2 => rfl) (fun i h1 h2 => Hc i (by omega))
  refine n_aload_n h (i := 0) dX5_init_15 (q := 16) rfl rfl 0 rfl ?_
  refine n_bipush h (v := 50) dX5_init_16 (q := 18) rfl (by decide) ?_
  refine n_newa h (N := 50) m52 (by decide) (by decide) (Nat.le_of_ble_eq_true rfl) (Nat.le_of_ble_eq_true rfl) (Nat.le_of_ble_eq_true rfl) dX5_init_18 (q := 20) rfl (fun t4 a4 c4 T Ha Hc Kn => ?_)
  have HA : ∀ i, i ≤ j → a4 i = a i := fun i hi => (Ha i (by omega)).trans (HA i hi)
  have HC : ∀ i, i < j → c4 i = c i := fun i hi => (Hc i (by omega)).trans (HC i hi)
  have HO : c4 j = .inr (5, [.ref t1, .null, .int 0, .int 0, .int 0]) := (Hc j (by omega)).trans HO
  have TA1 : a4 (j + 1) = t1 := (Ha (j + 1) (by omega)).trans TA1
  have K1 : kFormula kd a4 (j + 1) c4 := K1.at (fun i h1 h2 => Ha i (by omega)) (fun i h1 h2 => Hc i (by omega))
  have TA4 : a4 (j + 4) = t4 := T
  have K4 : c4 (j + 4) = .inl (kd 0, 50, .inl (fun _ => 0)) := Kn
  refine n_putF h hin (j := j) (k := 1) cls5 (by omega) (HA j (Nat.le_refl j)) HO (Nat.le_of_ble_eq_true rfl) m222 rfl rfl ⟨rfl, rfl⟩ (Nat.le_of_ble_eq_true rfl) dX5_init_20 (q := 23) rfl (fun c5 Hc Kn => ?_)
  have HC : ∀ i, i < j → c5 i = c i := fun i hi => (Hc i (by omega)).trans (HC i hi)
  have HO : c5 j = .inr (5, [.ref t1, .ref t4, .int 0, .int 0, .int 0]) := Kn
  have K1 : kFormula kd a4 (j + 1) c5 := K1.at (fun i h1 h2 => rfl) (fun i h1 h2 => Hc i (by omega))
  have K4 : c5 (j + 4) = .inl (kd 0, 50, .inl (fun _ => 0)) := (Hc (j + 4) (by omega)).trans K4
  exact n_ret h hr hlk dX5_init_23 ⟨HA, HC, (by rw [TA1, TA4]; exact HO), K1, K4⟩

def kOutlook (kd : Nat → ClassId) (a : bAd) (j : Nat) (c : bC) : Prop := c j = .inr (4, [.ref (a (j + 1)), .int 0, .int 0, .ref (a (j + 6)), .ref (a (j + 136))]) ∧ kBoats kd a (j + 1) c ∧ c (j + 6) = xQ (kd 2) 129 (fun i => if i < 129 then some (a (j + 7 + i)) else none) ∧ (∀ i, i < 129 → c (j + 7 + i) = .inl (kd 0, 9, .inl (fun _ => 0))) ∧ c (j + 136) = .inl (kd 0, 129, .inl (fun _ => 0))
theorem kOutlook.at {kd : Nat → ClassId} {a a' : bAd} {j : Nat} {c c' : bC} (h : kOutlook kd a j c) (ha : ∀ i, j ≤ i → i < j + 137 → a' i = a i) (hc : ∀ i, j ≤ i → i < j + 137 → c' i = c i) : kOutlook kd a' j c' := by
  obtain ⟨h0, h1, h2, h3, h4⟩ := h
  exact ⟨by rw [hc j (by omega) (by omega), h0, ha (j + 1) (by omega) (by omega), ha (j + 6) (by omega) (by omega), ha (j + 136) (by omega) (by omega)], h1.at (fun i g1 g2 => ha i (by omega) (by omega)) (fun i g1 g2 => hc i (by omega) (by omega)), ((hc _ (by omega) (by omega)).trans h2).trans (congrArg (fun f => xQ (kd 2) 129 f) (funext fun i => by
    by_cases z : i < 129
    · rw [if_pos z, if_pos z, ha (j + 7 + i) (by omega) (by omega)]
    · rw [if_neg z, if_neg z])), fun i hi => (hc _ (by omega) (by omega)).trans (h3 i hi), (hc _ (by omega) (by omega)).trans h4⟩
set_option maxHeartbeats 4000000 in
set_option maxRecDepth 100000 in
theorem c_X4_init {D : va_G} {kd : Nat → ClassId} {ad : bAd} {B j : Nat} {a : bAd} {c : bC} (hc0 : c j = .inr (4, [.null, .int 0, .int 0, .null, .null])) : MN yX4_init cX4_init { frames := 2, cells := 136, slots := 1460, locals := 32 } D kd ad B a c j (j + 137) 136 1460 (pK (kOutlook kd) j a c) := by
  refine n_met (by decide) rfl (fun x h hin hr hlk => ?_)
  have HO := hc0
  have HA : ∀ i, i ≤ j → a i = a i := fun _ _ => rfl
  have HC : ∀ i, i < j → c i = c i := fun _ _ => rfl
  refine n_aload_n h (i := 0) dX4_init_0 (q := 1) rfl rfl 0 rfl ?_
  refine n_obj h m243 m27 m28 ⟨Nat.le_of_ble_eq_true rfl, Nat.le_of_ble_eq_true rfl⟩ dX4_init_1 (q := 4) rfl ?_
  refine n_aload_n h (i := 0) dX4_init_4 (q := 5) rfl rfl 0 rfl ?_
  refine n_new h (fs := [.int 0, .null, .null, .null, .null]) cls0 m244 m82 m6 (by decide) (Nat.le_of_ble_eq_true rfl) (Nat.le_of_ble_eq_true rfl) dX4_init_5 (q := 8) rfl (fun t1 a1 c1 T Ha Hc Kn => ?_)
  have HA : ∀ i, i ≤ j → a1 i = a i := fun i hi => (Ha i (by omega)).trans (HA i hi)
  have HC : ∀ i, i < j → c1 i = c i := fun i hi => (Hc i (by omega)).trans (HC i hi)
  have HO : c1 j = .inr (4, [.null, .int 0, .int 0, .null, .null]) := (Hc j (by omega)).trans HO
  have TA1 : a1 (j + 1) = t1 := T
  have Z1 : c1 (j + 1) = .inr (0, [.int 0, .null, .null, .null, .null]) := Kn
  refine n_dup h dX4_init_8 (q := 9) rfl rfl ?_
  refine n_initN h (j := j + 1) (c_X0_init Z1) cal_X0_init m84 m245 rfl TA1 ⟨rfl, rfl, Nat.le_of_ble_eq_true rfl, Nat.le_of_ble_eq_true rfl⟩ ⟨Nat.le_of_ble_eq_true rfl, Nat.le_of_ble_eq_true rfl⟩ (Nat.le_of_ble_eq_true rfl) dX4_init_9 (q := 12) rfl (fun a2 c2 P => ?_)
  obtain ⟨Ha, Hc, Kn⟩ := P
  have HA : ∀ i, i ≤ j → a2 i = a i := fun i hi => (Ha i (by omega)).trans (HA i hi)
  have HC : ∀ i, i < j → c2 i = c i := fun i hi => (Hc i (by omega)).trans (HC i hi)
  have HO : c2 j = .inr (4, [.null, .int 0, .int 0, .null, .null]) := (Hc j (by omega)).trans HO
  have TA1 : a2 (j + 1) = t1 := (Ha (j + 1) (by omega)).trans TA1
  have K1 : kBoats kd a2 (j + 1) c2 := Kn
  refine n_putF h hin (j := j) (k := 0) cls4 (by omega) (HA j (Nat.le_refl j)) HO (Nat.le_of_ble_eq_true rfl) m248 rfl rfl ⟨rfl, rfl⟩ (Nat.le_of_ble_eq_true rfl) dX4_init_12 (q := 15) rfl (fun c3 Hc Kn => ?_)
  have HC : ∀ i, i < j → c3 i = c i := fun i hi => (Hc i (by omega)).trans (HC i hi)
  have HO : c3 j = .inr (4, [.ref t1, .int 0, .int 0, .null, .null]) := Kn
  have K1 : kBoats kd a2 (j + 1) c3 := K1.at (fun i h1 h2 => rfl) (fun i h1 h2 => Hc i (by omega))
  refine n_aload_n h (i := 0) dX4_init_15 (q := 16) rfl rfl 0 rfl ?_
  refine n_sipush h (v := 129) dX4_init_16 (q := 19) rfl (by decide) ?_
  refine n_bipush h (v := 9) dX4_init_19 (q := 21) rfl (by decide) ?_
  refine n_grid h (N := 129) (M := 9) m246 (by decide) (by decide) (by decide) (by decide) (Nat.le_of_ble_eq_true rfl) (Nat.le_of_ble_eq_true rfl) (Nat.le_of_ble_eq_true rfl) (Nat.le_of_ble_eq_true rfl) dX4_init_21 (q := 25) rfl (fun t4 a4 c4 T Ha Hc Kn Kr => ?_)
  have HA : ∀ i, i ≤ j → a4 i = a i := fun i hi => (Ha i (by omega)).trans (HA i hi)
  have HC : ∀ i, i < j → c4 i = c i := fun i hi => (Hc i (by omega)).trans (HC i hi)
  have HO : c4 j = .inr (4, [.ref t1, .int 0, .int 0, .null, .null]) := (Hc j (by omega)).trans HO
  have TA1 : a4 (j + 1) = t1 := (Ha (j + 1) (by omega)).trans TA1
  have K1 : kBoats kd a4 (j + 1) c4 := K1.at (fun i h1 h2 => Ha i (by omega)) (fun i h1 h2 => Hc i (by omega))
  have TA6 : a4 (j + 6) = t4 := T
  have K6 : c4 (j + 6) = xQ (kd 2) 129 (fun i => if i < 129 then some (a4 (j + 7 + i)) else none) := Kn
  have KR6 : ∀ i, i < 129 → c4 (j + 7 + i) = .inl (kd 0, 9, .inl (fun _ => 0)) := Kr
  refine n_putF h hin (j := j) (k := 3) cls4 (by omega) (HA j (Nat.le_refl j)) HO (Nat.le_of_ble_eq_true rfl) m252 rfl rfl ⟨rfl, rfl⟩ (Nat.le_of_ble_eq_true rfl) dX4_init_25 (q := 28) rfl (fun c5 Hc Kn => ?_)
  have HC : ∀ i, i < j → c5 i = c i := fun i hi => (Hc i (by omega)).trans (HC i hi)
  have HO : c5 j = .inr (4, [.ref t1, .int 0, .int 0, .ref t4, .null]) := Kn
  have K1 : kBoats kd a4 (j + 1) c5 := K1.at (fun i h1 h2 => rfl) (fun i h1 h2 => Hc i (by omega))
  have K6 : c5 (j + 6) = xQ (kd 2) 129 (fun i => if i < 129 then some (a4 (j + 7 + i)) else none) := (Hc (j + 6) (by omega)).trans K6
  have KR6 : ∀ i, i < 129 → c5 (j + 7 + i) = .inl (kd 0, 9, .inl (fun _ => 0)) := fun i hi => (Hc (j + 7 + i) (by omega)).trans (KR6 i hi)
  refine n_aload_n h (i := 0) dX4_init_28 (q := 29) rfl rfl 0 rfl ?_
  refine n_sipush h (v := 129) dX4_init_29 (q := 32) rfl (by decide) ?_
  refine n_newa h (N := 129) m52 (by decide) (by decide) (Nat.le_of_ble_eq_true rfl) (Nat.le_of_ble_eq_true rfl) (Nat.le_of_ble_eq_true rfl) dX4_init_32 (q := 34) rfl (fun t6 a6 c6 T Ha Hc Kn => ?_)
  have HA : ∀ i, i ≤ j → a6 i = a i := fun i hi => (Ha i (by omega)).trans (HA i hi)
  have HC : ∀ i, i < j → c6 i = c i := fun i hi => (Hc i (by omega)).trans (HC i hi)
  have HO : c6 j = .inr (4, [.ref t1, .int 0, .int 0, .ref t4, .null]) := (Hc j (by omega)).trans HO
  have TA1 : a6 (j + 1) = t1 := (Ha (j + 1) (by omega)).trans TA1
  have TA6 : a6 (j + 6) = t4 := (Ha (j + 6) (by omega)).trans TA6
  have K1 : kBoats kd a6 (j + 1) c6 := K1.at (fun i h1 h2 => Ha i (by omega)) (fun i h1 h2 => Hc i (by omega))
  have K6 : c6 (j + 6) = xQ (kd 2) 129 (fun i => if i < 129 then some (a6 (j + 7 + i)) else none) := ((Hc (j + 6) (by omega)).trans K6).trans (congrArg (fun f => xQ (kd 2) 129 f) (funext fun i => by
    by_cases z : i < 129
    · rw [if_pos z, if_pos z, Ha (j + 7 + i) (by omega)]
    · rw [if_neg z, if_neg z]))
  have KR6 : ∀ i, i < 129 → c6 (j + 7 + i) = .inl (kd 0, 9, .inl (fun _ => 0)) := fun i hi => (Hc (j + 7 + i) (by omega)).trans (KR6 i hi)
  have TA136 : a6 (j + 136) = t6 := T
  have K136 : c6 (j + 136) = .inl (kd 0, 129, .inl (fun _ => 0)) := Kn
  refine n_putF h hin (j := j) (k := 4) cls4 (by omega) (HA j (Nat.le_refl j)) HO (Nat.le_of_ble_eq_true rfl) m253 rfl rfl ⟨rfl, rfl⟩ (Nat.le_of_ble_eq_true rfl) dX4_init_34 (q := 37) rfl (fun c7 Hc Kn => ?_)
  have HC : ∀ i, i < j → c7 i = c i := fun i hi => (Hc i (by omega)).trans (HC i hi)
  have HO : c7 j = .inr (4, [.ref t1, .int 0, .int 0, .ref t4, .ref t6]) := Kn
  have K1 : kBoats kd a6 (j + 1) c7 := K1.at (fun i h1 h2 => rfl) (fun i h1 h2 => Hc i (by omega))
  have K6 : c7 (j + 6) = xQ (kd 2) 129 (fun i => if i < 129 then some (a6 (j + 7 + i)) else none) := (Hc (j + 6) (by omega)).trans K6
  have KR6 : ∀ i, i < 129 → c7 (j + 7 + i) = .inl (kd 0, 9, .inl (fun _ => 0)) := fun i hi => (Hc (j + 7 + i) (by omega)).trans (KR6 i hi)
  have K136 : c7 (j + 136) = .inl (kd 0, 129, .inl (fun _ => 0)) := (Hc (j + 136) (by omega)).trans K136
  exact n_ret h hr hlk dX4_init_37 ⟨HA, HC, (by rw [TA1, TA6, TA136]; exact HO), K1, K6, KR6, K136⟩
