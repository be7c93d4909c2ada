def kModel (ad : bAd) (kd : Nat → ClassId) (a : bAd) (j : Nat) (c : bC) : Prop := c j = .inr (10, [.ref (a (j + 1)), .ref (a (j + 2)), .ref (a (j + 3)), .int 0, .ref (a (j + 4)), .ref (a (j + 5)), .ref (a (j + 6)), .int 0, .int 0, .int 0, .int 0, .ref (a (j + 7)), .int 0, .ref (a (j + 8)), .ref (a (j + 9)), .ref (a (j + 10)), .ref (a (j + 11)), .int 0, .int 0, .ref (a (j + 12)), .ref (a (j + 13)), .ref (a (j + 14)), .ref (a (j + 15))]) ∧ c (j + 1) = .inl (kd 0, 240, .inl (upd (upd (fun _ => 0) 1 2) 11 1)) ∧ c (j + 2) = .inl (kd 0, 240, .inl (fun _ => 0)) ∧ c (j + 3) = .inl (kd 0, 240, .inl (fun _ => 0)) ∧ c (j + 4) = .inl (kd 0, 6, .inl (fun _ => 0)) ∧ c (j + 5) = .inl (kd 0, 2560, .inl (fun _ => 0)) ∧ c (j + 6) = xQ (kd 3) 2 (va_up (va_up (fun _ => none) 0 (some (ad (1010 + 0)))) 1 (some (ad (1010 + 1)))) ∧ c (j + 7) = .inl (kd 0, 60, .inl (fun _ => 0)) ∧ c (j + 8) = .inl (kd 0, 4, .inl (fun _ => 0)) ∧ c (j + 9) = .inl (kd 0, 60, .inl (fun _ => 0)) ∧ c (j + 10) = .inl (kd 0, 64, .inl (fun _ => 0)) ∧ c (j + 11) = .inl (kd 0, 40, .inl (fun _ => 0)) ∧ c (j + 12) = .inl (kd 0, 4, .inl (fun _ => 0)) ∧ c (j + 13) = .inl (kd 0, 4, .inl (fun _ => 0)) ∧ c (j + 14) = .inl (kd 0, 160, .inl (fun _ => 0)) ∧ c (j + 15) = .inl (kd 0, 40, .inl (fun _ => 0))
set_option maxHeartbeats 4000000 in
set_option maxRecDepth 100000 in
theorem c_X10_init {D : va_G} {kd : Nat → ClassId} {ad : bAd} {B j : Nat} {a : bAd} {c : bC} (hc0 : c j = .inr (10, [.null, .null, .null, .int 0, .null, .null, .null, .int 0, .int 0, .int 0, .int 0, .null, .int 0, .null, .null, .null, .null, .int 0, .int 0, .null, .null, .null, .null])) : MN yX10_init cX10_init { frames := 1, cells := 15, slots := 3724, locals := 12 } D kd ad B a c j (j + 16) 15 3724 (pK (kModel ad kd) j a c) := by
  refine n_met (by decide) rfl (fun x h hin hr hlk => ?_)
  have HO := hc0
  have HA : ∀ i, i ≤ j → a i = a i := fun _ _ => rfl
  have HC : ∀ i, i < j → c i = c i := fun _ _ => rfl
  refine n_aload_n h (i := 0) dX10_init_0 (q := 1) rfl rfl 0 rfl ?_
  refine n_obj h m844 m27 m28 ⟨Nat.le_of_ble_eq_true rfl, Nat.le_of_ble_eq_true rfl⟩ dX10_init_1 (q := 4) rfl ?_
  refine n_aload_n h (i := 0) dX10_init_4 (q := 5) rfl rfl 0 rfl ?_
  refine n_sipush h (v := 240) dX10_init_5 (q := 8) rfl (by decide) ?_
  refine n_newa h (N := 240) m52 (by decide) (by decide) (Nat.le_of_ble_eq_true rfl) (Nat.le_of_ble_eq_true rfl) (Nat.le_of_ble_eq_true rfl) dX10_init_8 (q := 10) rfl (fun t1 a1 c1 T Ha Hc Kn => ?_)
  have HA : ∀ i, i ≤ j → a1 i = a i := fun i hi => (Ha i (by omega)).trans (HA i hi)
  have HC : ∀ i, i < j → c1 i = c i := fun i hi => (Hc i (by omega)).trans (HC i hi)
  have HO : c1 j = .inr (10, [.null, .null, .null, .int 0, .null, .null, .null, .int 0, .int 0, .int 0, .int 0, .null, .int 0, .null, .null, .null, .null, .int 0, .int 0, .null, .null, .null, .null]) := (Hc j (by omega)).trans HO
  have TA1 : a1 (j + 1) = t1 := T
  have K1 : c1 (j + 1) = .inl (kd 0, 240, .inl (fun _ => 0)) := Kn
  refine n_putF h hin (j := j) (k := 0) cls10 (by omega) (HA j (Nat.le_refl j)) HO (Nat.le_of_ble_eq_true rfl) m849 rfl rfl ⟨rfl, rfl⟩ (Nat.le_of_ble_eq_true rfl) dX10_init_10 (q := 13) rfl (fun c2 Hc Kn => ?_)
  have HC : ∀ i, i < j → c2 i = c i := fun i hi => (Hc i (by omega)).trans (HC i hi)
  have HO : c2 j = .inr (10, [.ref t1, .null, .null, .int 0, .null, .null, .null, .int 0, .int 0, .int 0, .int 0, .null, .int 0, .null, .null, .null, .null, .int 0, .int 0, .null, .null, .null, .null]) := Kn
  have K1 : c2 (j + 1) = .inl (kd 0, 240, .inl (fun _ => 0)) := (Hc (j + 1) (by omega)).trans K1
  refine n_aload_n h (i := 0) dX10_init_13 (q := 14) rfl rfl 0 rfl ?_
  refine n_sipush h (v := 240) dX10_init_14 (q := 17) rfl (by decide) ?_
  refine n_newa h (N := 240) m52 (by decide) (by decide) (Nat.le_of_ble_eq_true rfl) (Nat.le_of_ble_eq_true rfl) (Nat.le_of_ble_eq_true rfl) dX10_init_17 (q := 19) rfl (fun t3 a3 c3 T Ha Hc Kn => ?_)
  have HA : ∀ i, i ≤ j → a3 i = a i := fun i hi => (Ha i (by omega)).trans (HA i hi)
  have HC : ∀ i, i < j → c3 i = c i := fun i hi => (Hc i (by omega)).trans (HC i hi)
  have HO : c3 j = .inr (10, [.ref t1, .null, .null, .int 0, .null, .null, .null, .int 0, .int 0, .int 0, .int 0, .null, .int 0, .null, .null, .null, .null, .int 0, .int 0, .null, .null, .null, .null]) := (Hc j (by omega)).trans HO
  have TA1 : a3 (j + 1) = t1 := (Ha (j + 1) (by omega)).trans TA1
  have K1 : c3 (j + 1) = .inl (kd 0, 240, .inl (fun _ => 0)) := (Hc (j + 1) (by omega)).trans K1
  have TA2 : a3 (j + 2) = t3 := T
  have K2 : c3 (j + 2) = .inl (kd 0, 240, .inl (fun _ => 0)) := Kn
  refine n_putF h hin (j := j) (k := 1) cls10 (by omega) (HA j (Nat.le_refl j)) HO (Nat.le_of_ble_eq_true rfl) m850 rfl rfl ⟨rfl, rfl⟩ (Nat.le_of_ble_eq_true rfl) dX10_init_19 (q := 22) rfl (fun c4 Hc Kn => ?_)
  have HC : ∀ i, i < j → c4 i = c i := fun i hi => (Hc i (by omega)).trans (HC i hi)
  have HO : c4 j = .inr (10, [.ref t1, .ref t3, .null, .int 0, .null, .null, .null, .int 0, .int 0, .int 0, .int 0, .null, .int 0, .null, .null, .null, .null, .int 0, .int 0, .null, .null, .null, .null]) := Kn
  have K1 : c4 (j + 1) = .inl (kd 0, 240, .inl (fun _ => 0)) := (Hc (j + 1) (by omega)).trans K1
  have K2 : c4 (j + 2) = .inl (kd 0, 240, .inl (fun _ => 0)) := (Hc (j + 2) (by omega)).trans K2
  refine n_aload_n h (i := 0) dX10_init_22 (q := 23) rfl rfl 0 rfl ?_
  refine n_sipush h (v := 240) dX10_init_23 (q := 26) rfl (by decide) ?_
  refine n_newa h (N := 240) m52 (by decide) (by decide) (Nat.le_of_ble_eq_true rfl) (Nat.le_of_ble_eq_true rfl) (Nat.le_of_ble_eq_true rfl) dX10_init_26 (q := 28) rfl (fun t5 a5 c5 T Ha Hc Kn => ?_)
  have HA : ∀ i, i ≤ j → a5 i = a i := fun i hi => (Ha i (by omega)).trans (HA i hi)
  have HC : ∀ i, i < j → c5 i = c i := fun i hi => (Hc i (by omega)).trans (HC i hi)
  have HO : c5 j = .inr (10, [.ref t1, .ref t3, .null, .int 0, .null, .null, .null, .int 0, .int 0, .int 0, .int 0, .null, .int 0, .null, .null, .null, .null, .int 0, .int 0, .null, .null, .null, .null]) := (Hc j (by omega)).trans HO
  have TA1 : a5 (j + 1) = t1 := (Ha (j + 1) (by omega)).trans TA1
  have TA2 : a5 (j + 2) = t3 := (Ha (j + 2) (by omega)).trans TA2
  have K1 : c5 (j + 1) = .inl (kd 0, 240, .inl (fun _ => 0)) := (Hc (j + 1) (by omega)).trans K1
  have K2 : c5 (j + 2) = .inl (kd 0, 240, .inl (fun _ => 0)) := (Hc (j + 2) (by omega)).trans K2
  have TA3 : a5 (j + 3) = t5 := T
  have K3 : c5 (j + 3) = .inl (kd 0, 240, .inl (fun _ => 0)) := Kn
  refine n_putF h hin (j := j) (k := 2) cls10 (by omega) (HA j (Nat.le_refl j)) HO (Nat.le_of_ble_eq_true rfl) m851 rfl rfl ⟨rfl, rfl⟩ (Nat.le_of_ble_eq_true rfl) dX10_init_28 (q := 31) rfl (fun c6 Hc Kn => ?_)
  have HC : ∀ i, i < j → c6 i = c i := fun i hi => (Hc i (by omega)).trans (HC i hi)
  have HO : c6 j = .inr (10, [.ref t1, .ref t3, .ref t5, .int 0, .null, .null, .null, .int 0, .int 0, .int 0, .int 0, .null, .int 0, .null, .null, .null, .null, .int 0, .int 0, .null, .null, .null, .null]) := Kn
  have K1 : c6 (j + 1) = .inl (kd 0, 240, .inl (fun _ => 0)) := (Hc (j + 1) (by omega)).trans K1
  have K2 : c6 (j + 2) = .inl (kd 0, 240, .inl (fun _ => 0)) := (Hc (j + 2) (by omega)).trans K2
  have K3 : c6 (j + 3) = .inl (kd 0, 240, .inl (fun _ => 0)) := (Hc (j + 3) (by omega)).trans K3
  refine n_aload_n h (i := 0) dX10_init_31 (q := 32) rfl rfl 0 rfl ?_
  refine n_bipush h (v := 6) dX10_init_32 (q := 34) rfl (by decide) ?_
  refine n_newa h (N := 6) m52 (by decide) (by decide) (Nat.le_of_ble_eq_true rfl) (Nat.le_of_ble_eq_true rfl) (Nat.le_of_ble_eq_true rfl) dX10_init_34 (q := 36) rfl (fun t7 a7 c7 T Ha Hc Kn => ?_)
  have HA : ∀ i, i ≤ j → a7 i = a i := fun i hi => (Ha i (by omega)).trans (HA i hi)
  have HC : ∀ i, i < j → c7 i = c i := fun i hi => (Hc i (by omega)).trans (HC i hi)
  have HO : c7 j = .inr (10, [.ref t1, .ref t3, .ref t5, .int 0, .null, .null, .null, .int 0, .int 0, .int 0, .int 0, .null, .int 0, .null, .null, .null, .null, .int 0, .int 0, .null, .null, .null, .null]) := (Hc j (by omega)).trans HO
  have TA1 : a7 (j + 1) = t1 := (Ha (j + 1) (by omega)).trans TA1
  have TA2 : a7 (j + 2) = t3 := (Ha (j + 2) (by omega)).trans TA2
  have TA3 : a7 (j + 3) = t5 := (Ha (j + 3) (by omega)).trans TA3
  have K1 : c7 (j + 1) = .inl (kd 0, 240, .inl (fun _ => 0)) := (Hc (j + 1) (by omega)).trans K1
  have K2 : c7 (j + 2) = .inl (kd 0, 240, .inl (fun _ => 0)) := (Hc (j + 2) (by omega)).trans K2
  have K3 : c7 (j + 3) = .inl (kd 0, 240, .inl (fun _ => 0)) := (Hc (j + 3) (by omega)).trans K3
  have TA4 : a7 (j + 4) = t7 := T
  have K4 : c7 (j + 4) = .inl (kd 0, 6, .inl (fun _ => 0)) := Kn
  refine n_putF h hin (j := j) (k := 4) cls10 (by omega) (HA j (Nat.le_refl j)) HO (Nat.le_of_ble_eq_true rfl) m853 rfl rfl ⟨rfl, rfl⟩ (Nat.le_of_ble_eq_true rfl) dX10_init_36 (q := 39) rfl (fun c8 Hc Kn => ?_)
  have HC : ∀ i, i < j → c8 i = c i := fun i hi => (Hc i (by omega)).trans (HC i hi)
  have HO : c8 j = .inr (10, [.ref t1, .ref t3, .ref t5, .int 0, .ref t7, .null, .null, .int 0, .int 0, .int 0, .int 0, .null, .int 0, .null, .null, .null, .null, .int 0, .int 0, .null, .null, .null, .null]) := Kn
  have K1 : c8 (j + 1) = .inl (kd 0, 240, .inl (fun _ => 0)) := (Hc (j + 1) (by omega)).trans K1
  have K2 : c8 (j + 2) = .inl (kd 0, 240, .inl (fun _ => 0)) := (Hc (j + 2) (by omega)).trans K2
  have K3 : c8 (j + 3) = .inl (kd 0, 240, .inl (fun _ => 0)) := (Hc (j + 3) (by omega)).trans K3
  have K4 : c8 (j + 4) = .inl (kd 0, 6, .inl (fun _ => 0)) := (Hc (j + 4) (by omega)).trans K4
  refine n_aload_n h (i := 0) dX10_init_39 (q := 40) rfl rfl 0 rfl ?_
  refine n_sipush h (v := 2560) dX10_init_40 (q := 43) rfl (by decide) ?_
  refine n_newa h (N := 2560) m52 (by decide) (by decide) (Nat.le_of_ble_eq_true rfl) (Nat.le_of_ble_eq_true rfl) (Nat.le_of_ble_eq_true rfl) dX10_init_43 (q := 45) rfl (fun t9 a9 c9 T Ha Hc Kn => ?_)
  have HA : ∀ i, i ≤ j → a9 i = a i := fun i hi => (Ha i (by omega)).trans (HA i hi)
  have HC : ∀ i, i < j → c9 i = c i := fun i hi => (Hc i (by omega)).trans (HC i hi)
  have HO : c9 j = .inr (10, [.ref t1, .ref t3, .ref t5, .int 0, .ref t7, .null, .null, .int 0, .int 0, .int 0, .int 0, .null, .int 0, .null, .null, .null, .null, .int 0, .int 0, .null, .null, .null, .null]) := (Hc j (by omega)).trans HO
  have TA1 : a9 (j + 1) = t1 := (Ha (j + 1) (by omega)).trans TA1
  have TA2 : a9 (j + 2) = t3 := (Ha (j + 2) (by omega)).trans TA2
  have TA3 : a9 (j + 3) = t5 := (Ha (j + 3) (by omega)).trans TA3
  have TA4 : a9 (j + 4) = t7 := (Ha (j + 4) (by omega)).trans TA4
  have K1 : c9 (j + 1) = .inl (kd 0, 240, .inl (fun _ => 0)) := (Hc (j + 1) (by omega)).trans K1
  have K2 : c9 (j + 2) = .inl (kd 0, 240, .inl (fun _ => 0)) := (Hc (j + 2) (by omega)).trans K2
  have K3 : c9 (j + 3) = .inl (kd 0, 240, .inl (fun _ => 0)) := (Hc (j + 3) (by omega)).trans K3
  have K4 : c9 (j + 4) = .inl (kd 0, 6, .inl (fun _ => 0)) := (Hc (j + 4) (by omega)).trans K4
  have TA5 : a9 (j + 5) = t9 := T
  have K5 : c9 (j + 5) = .inl (kd 0, 2560, .inl (fun _ => 0)) := Kn
  refine n_putF h hin (j := j) (k := 5) cls10 (by omega) (HA j (Nat.le_refl j)) HO (Nat.le_of_ble_eq_true rfl) m854 rfl rfl ⟨rfl, rfl⟩ (Nat.le_of_ble_eq_true rfl) dX10_init_45 (q := 48) rfl (fun c10 Hc Kn => ?_)
  have HC : ∀ i, i < j → c10 i = c i := fun i hi => (Hc i (by omega)).trans (HC i hi)
  have HO : c10 j = .inr (10, [.ref t1, .ref t3, .ref t5, .int 0, .ref t7, .ref t9, .null, .int 0, .int 0, .int 0, .int 0, .null, .int 0, .null, .null, .null, .null, .int 0, .int 0, .null, .null, .null, .null]) := Kn
  have K1 : c10 (j + 1) = .inl (kd 0, 240, .inl (fun _ => 0)) := (Hc (j + 1) (by omega)).trans K1
  have K2 : c10 (j + 2) = .inl (kd 0, 240, .inl (fun _ => 0)) := (Hc (j + 2) (by omega)).trans K2
  have K3 : c10 (j + 3) = .inl (kd 0, 240, .inl (fun _ => 0)) := (Hc (j + 3) (by omega)).trans K3
  have K4 : c10 (j + 4) = .inl (kd 0, 6, .inl (fun _ => 0)) := (Hc (j + 4) (by omega)).trans K4
  have K5 : c10 (j + 5) = .inl (kd 0, 2560, .inl (fun _ => 0)) := (Hc (j + 5) (by omega)).trans K5
  refine n_aload_n h (i := 0) dX10_init_48 (q := 49) rfl rfl 0 rfl ?_
  refine n_iconst h (v := 2) dX10_init_49 (q := 50) rfl (by decide) ?_
  refine n_anew h (N := 2) (t0 := 3) m845 h.kn.2.2.2.2.1 rfl (by decide) (by decide) (by decide) (Nat.le_of_ble_eq_true rfl) (Nat.le_of_ble_eq_true rfl) (Nat.le_of_ble_eq_true rfl) dX10_init_50 (q := 53) rfl (fun t11 a11 c11 T Ha Hc Kn => ?_)
  have HA : ∀ i, i ≤ j → a11 i = a i := fun i hi => (Ha i (by omega)).trans (HA i hi)
  have HC : ∀ i, i < j → c11 i = c i := fun i hi => (Hc i (by omega)).trans (HC i hi)
  have HO : c11 j = .inr (10, [.ref t1, .ref t3, .ref t5, .int 0, .ref t7, .ref t9, .null, .int 0, .int 0, .int 0, .int 0, .null, .int 0, .null, .null, .null, .null, .int 0, .int 0, .null, .null, .null, .null]) := (Hc j (by omega)).trans HO
  have TA1 : a11 (j + 1) = t1 := (Ha (j + 1) (by omega)).trans TA1
  have TA2 : a11 (j + 2) = t3 := (Ha (j + 2) (by omega)).trans TA2
  have TA3 : a11 (j + 3) = t5 := (Ha (j + 3) (by omega)).trans TA3
  have TA4 : a11 (j + 4) = t7 := (Ha (j + 4) (by omega)).trans TA4
  have TA5 : a11 (j + 5) = t9 := (Ha (j + 5) (by omega)).trans TA5
  have K1 : c11 (j + 1) = .inl (kd 0, 240, .inl (fun _ => 0)) := (Hc (j + 1) (by omega)).trans K1
  have K2 : c11 (j + 2) = .inl (kd 0, 240, .inl (fun _ => 0)) := (Hc (j + 2) (by omega)).trans K2
  have K3 : c11 (j + 3) = .inl (kd 0, 240, .inl (fun _ => 0)) := (Hc (j + 3) (by omega)).trans K3
  have K4 : c11 (j + 4) = .inl (kd 0, 6, .inl (fun _ => 0)) := (Hc (j + 4) (by omega)).trans K4
  have K5 : c11 (j + 5) = .inl (kd 0, 2560, .inl (fun _ => 0)) := (Hc (j + 5) (by omega)).trans K5
  have TA6 : a11 (j + 6) = t11 := T
  have K6 : c11 (j + 6) = xQ (kd 3) 2 (fun _ => none) := Kn
  refine n_dup h dX10_init_53 (q := 54) rfl rfl ?_
  refine n_iconst h (v := 0) dX10_init_54 (q := 55) rfl (by decide) ?_
  refine n_ldcs h h.kn.2.2.2.2.2.2.1 dX10_init_55 (q := 57) rfl ?_
  refine n_aasts h (s0 := 0) (j := j + 6) (by decide) (by omega) TA6 K6 (vp_in_nI (n := 0) (by decide) (by decide)) dX10_init_57 (q := 58) rfl (fun c12 Hc Kn => ?_)
  have HC : ∀ i, i < j → c12 i = c i := fun i hi => (Hc i (by omega)).trans (HC i hi)
  have HO : c12 j = .inr (10, [.ref t1, .ref t3, .ref t5, .int 0, .ref t7, .ref t9, .null, .int 0, .int 0, .int 0, .int 0, .null, .int 0, .null, .null, .null, .null, .int 0, .int 0, .null, .null, .null, .null]) := (Hc j (by omega)).trans HO
  have K1 : c12 (j + 1) = .inl (kd 0, 240, .inl (fun _ => 0)) := (Hc (j + 1) (by omega)).trans K1
  have K2 : c12 (j + 2) = .inl (kd 0, 240, .inl (fun _ => 0)) := (Hc (j + 2) (by omega)).trans K2
  have K3 : c12 (j + 3) = .inl (kd 0, 240, .inl (fun _ => 0)) := (Hc (j + 3) (by omega)).trans K3
  have K4 : c12 (j + 4) = .inl (kd 0, 6, .inl (fun _ => 0)) := (Hc (j + 4) (by omega)).trans K4
  have K5 : c12 (j + 5) = .inl (kd 0, 2560, .inl (fun _ => 0)) := (Hc (j + 5) (by omega)).trans K5
  have K6 : c12 (j + 6) = xQ (kd 3) 2 (va_up (fun _ => none) 0 (some (ad (1010 + 0)))) := Kn
  refine n_dup h dX10_init_58 (q := 59) rfl rfl ?_
  refine n_iconst h (v := 1) dX10_init_59 (q := 60) rfl (by decide) ?_
  refine n_ldcs h h.kn.2.2.2.2.2.2.2 dX10_init_60 (q := 62) rfl ?_
  refine n_aasts h (s0 := 1) (j := j + 6) (by decide) (by omega) TA6 K6 (vp_in_nI (n := 1) (by decide) (by decide)) dX10_init_62 (q := 63) rfl (fun c13 Hc Kn => ?_)
  have HC : ∀ i, i < j → c13 i = c i := fun i hi => (Hc i (by omega)).trans (HC i hi)
  have HO : c13 j = .inr (10, [.ref t1, .ref t3, .ref t5, .int 0, .ref t7, .ref t9, .null, .int 0, .int 0, .int 0, .int 0, .null, .int 0, .null, .null, .null, .null, .int 0, .int 0, .null, .null, .null, .null]) := (Hc j (by omega)).trans HO
  have K1 : c13 (j + 1) = .inl (kd 0, 240, .inl (fun _ => 0)) := (Hc (j + 1) (by omega)).trans K1
  have K2 : c13 (j + 2) = .inl (kd 0, 240, .inl (fun _ => 0)) := (Hc (j + 2) (by omega)).trans K2
  have K3 : c13 (j + 3) = .inl (kd 0, 240, .inl (fun _ => 0)) := (Hc (j + 3) (by omega)).trans K3
  have K4 : c13 (j + 4) = .inl (kd 0, 6, .inl (fun _ => 0)) := (Hc (j + 4) (by omega)).trans K4
  have K5 : c13 (j + 5) = .inl (kd 0, 2560, .inl (fun _ => 0)) := (Hc (j + 5) (by omega)).trans K5
  have K6 : c13 (j + 6) = xQ (kd 3) 2 (va_up (va_up (fun _ => none) 0 (some (ad (1010 + 0)))) 1 (some (ad (1010 + 1)))) := Kn
  refine n_putF h hin (j := j) (k := 6) cls10 (by omega) (HA j (Nat.le_refl j)) HO (Nat.le_of_ble_eq_true rfl) m855 rfl rfl ⟨rfl, rfl⟩ (Nat.le_of_ble_eq_true rfl) dX10_init_63 (q := 66) rfl (fun c14 Hc Kn => ?_)
  have HC : ∀ i, i < j → c14 i = c i := fun i hi => (Hc i (by omega)).trans (HC i hi)
  have HO : c14 j = .inr (10, [.ref t1, .ref t3, .ref t5, .int 0, .ref t7, .ref t9, .ref t11, .int 0, .int 0, .int 0, .int 0, .null, .int 0, .null, .null, .null, .null, .int 0, .int 0, .null, .null, .null, .null]) := Kn
  have K1 : c14 (j + 1) = .inl (kd 0, 240, .inl (fun _ => 0)) := (Hc (j + 1) (by omega)).trans K1
  have K2 : c14 (j + 2) = .inl (kd 0, 240, .inl (fun _ => 0)) := (Hc (j + 2) (by omega)).trans K2
  have K3 : c14 (j + 3) = .inl (kd 0, 240, .inl (fun _ => 0)) := (Hc (j + 3) (by omega)).trans K3
  have K4 : c14 (j + 4) = .inl (kd 0, 6, .inl (fun _ => 0)) := (Hc (j + 4) (by omega)).trans K4
  have K5 : c14 (j + 5) = .inl (kd 0, 2560, .inl (fun _ => 0)) := (Hc (j + 5) (by omega)).trans K5
  have K6 : c14 (j + 6) = xQ (kd 3) 2 (va_up (va_up (fun _ => none) 0 (some (ad (1010 + 0)))) 1 (some (ad (1010 + 1)))) := (Hc (j + 6) (by omega)).trans K6
  refine n_aload_n h (i := 0) dX10_init_66 (q := 67) rfl rfl 0 rfl ?_
  refine n_bipush h (v := 60) dX10_init_67 (q := 69) rfl (by decide) ?_
  refine n_newa h (N := 60) m52 (by decide) (by decide) (Nat.le_of_ble_eq_true rfl) (Nat.le_of_ble_eq_true rfl) (Nat.le_of_ble_eq_true rfl) dX10_init_69 (q := 71) rfl (fun t15 a15 c15 T Ha Hc Kn => ?_)
  have HA : ∀ i, i ≤ j → a15 i = a i := fun i hi => (Ha i (by omega)).trans (HA i hi)
  have HC : ∀ i, i < j → c15 i = c i := fun i hi => (Hc i (by omega)).trans (HC i hi)
  have HO : c15 j = .inr (10, [.ref t1, .ref t3, .ref t5, .int 0, .ref t7, .ref t9, .ref t11, .int 0, .int 0, .int 0, .int 0, .null, .int 0, .null, .null, .null, .null, .int 0, .int 0, .null, .null, .null, .null]) := (Hc j (by omega)).trans HO
  have TA1 : a15 (j + 1) = t1 := (Ha (j + 1) (by omega)).trans TA1
  have TA2 : a15 (j + 2) = t3 := (Ha (j + 2) (by omega)).trans TA2
  have TA3 : a15 (j + 3) = t5 := (Ha (j + 3) (by omega)).trans TA3
  have TA4 : a15 (j + 4) = t7 := (Ha (j + 4) (by omega)).trans TA4
  have TA5 : a15 (j + 5) = t9 := (Ha (j + 5) (by omega)).trans TA5
  have TA6 : a15 (j + 6) = t11 := (Ha (j + 6) (by omega)).trans TA6
  have K1 : c15 (j + 1) = .inl (kd 0, 240, .inl (fun _ => 0)) := (Hc (j + 1) (by omega)).trans K1
  have K2 : c15 (j + 2) = .inl (kd 0, 240, .inl (fun _ => 0)) := (Hc (j + 2) (by omega)).trans K2
  have K3 : c15 (j + 3) = .inl (kd 0, 240, .inl (fun _ => 0)) := (Hc (j + 3) (by omega)).trans K3
  have K4 : c15 (j + 4) = .inl (kd 0, 6, .inl (fun _ => 0)) := (Hc (j + 4) (by omega)).trans K4
  have K5 : c15 (j + 5) = .inl (kd 0, 2560, .inl (fun _ => 0)) := (Hc (j + 5) (by omega)).trans K5
  have K6 : c15 (j + 6) = xQ (kd 3) 2 (va_up (va_up (fun _ => none) 0 (some (ad (1010 + 0)))) 1 (some (ad (1010 + 1)))) := (Hc (j + 6) (by omega)).trans K6
  have TA7 : a15 (j + 7) = t15 := T
  have K7 : c15 (j + 7) = .inl (kd 0, 60, .inl (fun _ => 0)) := Kn
  refine n_putF h hin (j := j) (k := 11) cls10 (by omega) (HA j (Nat.le_refl j)) HO (Nat.le_of_ble_eq_true rfl) m860 rfl rfl ⟨rfl, rfl⟩ (Nat.le_of_ble_eq_true rfl) dX10_init_71 (q := 74) rfl (fun c16 Hc Kn => ?_)
  have HC : ∀ i, i < j → c16 i = c i := fun i hi => (Hc i (by omega)).trans (HC i hi)
  have HO : c16 j = .inr (10, [.ref t1, .ref t3, .ref t5, .int 0, .ref t7, .ref t9, .ref t11, .int 0, .int 0, .int 0, .int 0, .ref t15, .int 0, .null, .null, .null, .null, .int 0, .int 0, .null, .null, .null, .null]) := Kn
  have K1 : c16 (j + 1) = .inl (kd 0, 240, .inl (fun _ => 0)) := (Hc (j + 1) (by omega)).trans K1
  have K2 : c16 (j + 2) = .inl (kd 0, 240, .inl (fun _ => 0)) := (Hc (j + 2) (by omega)).trans K2
  have K3 : c16 (j + 3) = .inl (kd 0, 240, .inl (fun _ => 0)) := (Hc (j + 3) (by omega)).trans K3
  have K4 : c16 (j + 4) = .inl (kd 0, 6, .inl (fun _ => 0)) := (Hc (j + 4) (by omega)).trans K4
  have K5 : c16 (j + 5) = .inl (kd 0, 2560, .inl (fun _ => 0)) := (Hc (j + 5) (by omega)).trans K5
  have K6 : c16 (j + 6) = xQ (kd 3) 2 (va_up (va_up (fun _ => none) 0 (some (ad (1010 + 0)))) 1 (some (ad (1010 + 1)))) := (Hc (j + 6) (by omega)).trans K6
  have K7 : c16 (j + 7) = .inl (kd 0, 60, .inl (fun _ => 0)) := (Hc (j + 7) (by omega)).trans K7
  refine n_aload_n h (i := 0) dX10_init_74 (q := 75) rfl rfl 0 rfl ?_
  refine n_iconst h (v := 4) dX10_init_75 (q := 76) rfl (by decide) ?_
  refine n_newa h (N := 4) m52 (by decide) (by decide) (Nat.le_of_ble_eq_true rfl) (Nat.le_of_ble_eq_true rfl) (Nat.le_of_ble_eq_true rfl) dX10_init_76 (q := 78) rfl (fun t17 a17 c17 T Ha Hc Kn => ?_)
  have HA : ∀ i, i ≤ j → a17 i = a i := fun i hi => (Ha i (by omega)).trans (HA i hi)
  have HC : ∀ i, i < j → c17 i = c i := fun i hi => (Hc i (by omega)).trans (HC i hi)
  have HO : c17 j = .inr (10, [.ref t1, .ref t3, .ref t5, .int 0, .ref t7, .ref t9, .ref t11, .int 0, .int 0, .int 0, .int 0, .ref t15, .int 0, .null, .null, .null, .null, .int 0, .int 0, .null, .null, .null, .null]) := (Hc j (by omega)).trans HO
  have TA1 : a17 (j + 1) = t1 := (Ha (j + 1) (by omega)).trans TA1
  have TA2 : a17 (j + 2) = t3 := (Ha (j + 2) (by omega)).trans TA2
  have TA3 : a17 (j + 3) = t5 := (Ha (j + 3) (by omega)).trans TA3
  have TA4 : a17 (j + 4) = t7 := (Ha (j + 4) (by omega)).trans TA4
  have TA5 : a17 (j + 5) = t9 := (Ha (j + 5) (by omega)).trans TA5
  have TA6 : a17 (j + 6) = t11 := (Ha (j + 6) (by omega)).trans TA6
  have TA7 : a17 (j + 7) = t15 := (Ha (j + 7) (by omega)).trans TA7
  have K1 : c17 (j + 1) = .inl (kd 0, 240, .inl (fun _ => 0)) := (Hc (j + 1) (by omega)).trans K1
  have K2 : c17 (j + 2) = .inl (kd 0, 240, .inl (fun _ => 0)) := (Hc (j + 2) (by omega)).trans K2
  have K3 : c17 (j + 3) = .inl (kd 0, 240, .inl (fun _ => 0)) := (Hc (j + 3) (by omega)).trans K3
  have K4 : c17 (j + 4) = .inl (kd 0, 6, .inl (fun _ => 0)) := (Hc (j + 4) (by omega)).trans K4
  have K5 : c17 (j + 5) = .inl (kd 0, 2560, .inl (fun _ => 0)) := (Hc (j + 5) (by omega)).trans K5
  have K6 : c17 (j + 6) = xQ (kd 3) 2 (va_up (va_up (fun _ => none) 0 (some (ad (1010 + 0)))) 1 (some (ad (1010 + 1)))) := (Hc (j + 6) (by omega)).trans K6
  have K7 : c17 (j + 7) = .inl (kd 0, 60, .inl (fun _ => 0)) := (Hc (j + 7) (by omega)).trans K7
  have TA8 : a17 (j + 8) = t17 := T
  have K8 : c17 (j + 8) = .inl (kd 0, 4, .inl (fun _ => 0)) := Kn
  refine n_putF h hin (j := j) (k := 13) cls10 (by omega) (HA j (Nat.le_refl j)) HO (Nat.le_of_ble_eq_true rfl) m862 rfl rfl ⟨rfl, rfl⟩ (Nat.le_of_ble_eq_true rfl) dX10_init_78 (q := 81) rfl (fun c18 Hc Kn => ?_)
  have HC : ∀ i, i < j → c18 i = c i := fun i hi => (Hc i (by omega)).trans (HC i hi)
  have HO : c18 j = .inr (10, [.ref t1, .ref t3, .ref t5, .int 0, .ref t7, .ref t9, .ref t11, .int 0, .int 0, .int 0, .int 0, .ref t15, .int 0, .ref t17, .null, .null, .null, .int 0, .int 0, .null, .null, .null, .null]) := Kn
  have K1 : c18 (j + 1) = .inl (kd 0, 240, .inl (fun _ => 0)) := (Hc (j + 1) (by omega)).trans K1
  have K2 : c18 (j + 2) = .inl (kd 0, 240, .inl (fun _ => 0)) := (Hc (j + 2) (by omega)).trans K2
  have K3 : c18 (j + 3) = .inl (kd 0, 240, .inl (fun _ => 0)) := (Hc (j + 3) (by omega)).trans K3
  have K4 : c18 (j + 4) = .inl (kd 0, 6, .inl (fun _ => 0)) := (Hc (j + 4) (by omega)).trans K4
  have K5 : c18 (j + 5) = .inl (kd 0, 2560, .inl (fun _ => 0)) := (Hc (j + 5) (by omega)).trans K5
  have K6 : c18 (j + 6) = xQ (kd 3) 2 (va_up (va_up (fun _ => none) 0 (some (ad (1010 + 0)))) 1 (some (ad (1010 + 1)))) := (Hc (j + 6) (by omega)).trans K6
  have K7 : c18 (j + 7) = .inl (kd 0, 60, .inl (fun _ => 0)) := (Hc (j + 7) (by omega)).trans K7
  have K8 : c18 (j + 8) = .inl (kd 0, 4, .inl (fun _ => 0)) := (Hc (j + 8) (by omega)).trans K8
  refine n_aload_n h (i := 0) dX10_init_81 (q := 82) rfl rfl 0 rfl ?_
  refine n_bipush h (v := 60) dX10_init_82 (q := 84) rfl (by decide) ?_
  refine n_newa h (N := 60) m52 (by decide) (by decide) (Nat.le_of_ble_eq_true rfl) (Nat.le_of_ble_eq_true rfl) (Nat.le_of_ble_eq_true rfl) dX10_init_84 (q := 86) rfl (fun t19 a19 c19 T Ha Hc Kn => ?_)
  have HA : ∀ i, i ≤ j → a19 i = a i := fun i hi => (Ha i (by omega)).trans (HA i hi)
  have HC : ∀ i, i < j → c19 i = c i := fun i hi => (Hc i (by omega)).trans (HC i hi)
  have HO : c19 j = .inr (10, [.ref t1, .ref t3, .ref t5, .int 0, .ref t7, .ref t9, .ref t11, .int 0, .int 0, .int 0, .int 0, .ref t15, .int 0, .ref t17, .null, .null, .null, .int 0, .int 0, .null, .null, .null, .null]) := (Hc j (by omega)).trans HO
  have TA1 : a19 (j + 1) = t1 := (Ha (j + 1) (by omega)).trans TA1
  have TA2 : a19 (j + 2) = t3 := (Ha (j + 2) (by omega)).trans TA2
  have TA3 : a19 (j + 3) = t5 := (Ha (j + 3) (by omega)).trans TA3
  have TA4 : a19 (j + 4) = t7 := (Ha (j + 4) (by omega)).trans TA4
  have TA5 : a19 (j + 5) = t9 := (Ha (j + 5) (by omega)).trans TA5
  have TA6 : a19 (j + 6) = t11 := (Ha (j + 6) (by omega)).trans TA6
  have TA7 : a19 (j + 7) = t15 := (Ha (j + 7) (by omega)).trans TA7
  have TA8 : a19 (j + 8) = t17 := (Ha (j + 8) (by omega)).trans TA8
  have K1 : c19 (j + 1) = .inl (kd 0, 240, .inl (fun _ => 0)) := (Hc (j + 1) (by omega)).trans K1
  have K2 : c19 (j + 2) = .inl (kd 0, 240, .inl (fun _ => 0)) := (Hc (j + 2) (by omega)).trans K2
  have K3 : c19 (j + 3) = .inl (kd 0, 240, .inl (fun _ => 0)) := (Hc (j + 3) (by omega)).trans K3
  have K4 : c19 (j + 4) = .inl (kd 0, 6, .inl (fun _ => 0)) := (Hc (j + 4) (by omega)).trans K4
  have K5 : c19 (j + 5) = .inl (kd 0, 2560, .inl (fun _ => 0)) := (Hc (j + 5) (by omega)).trans K5
  have K6 : c19 (j + 6) = xQ (kd 3) 2 (va_up (va_up (fun _ => none) 0 (some (ad (1010 + 0)))) 1 (some (ad (1010 + 1)))) := (Hc (j + 6) (by omega)).trans K6
  have K7 : c19 (j + 7) = .inl (kd 0, 60, .inl (fun _ => 0)) := (Hc (j + 7) (by omega)).trans K7
  have K8 : c19 (j + 8) = .inl (kd 0, 4, .inl (fun _ => 0)) := (Hc (j + 8) (by omega)).trans K8
  have TA9 : a19 (j + 9) = t19 := T
  have K9 : c19 (j + 9) = .inl (kd 0, 60, .inl (fun _ => 0)) := Kn
  refine n_putF h hin (j := j) (k := 14) cls10 (by omega) (HA j (Nat.le_refl j)) HO (Nat.le_of_ble_eq_true rfl) m863 rfl rfl ⟨rfl, rfl⟩ (Nat.le_of_ble_eq_true rfl) dX10_init_86 (q := 89) rfl (fun c20 Hc Kn => ?_)
  have HC : ∀ i, i < j → c20 i = c i := fun i hi => (Hc i (by omega)).trans (HC i hi)
  have HO : c20 j = .inr (10, [.ref t1, .ref t3, .ref t5, .int 0, .ref t7, .ref t9, .ref t11, .int 0, .int 0, .int 0, .int 0, .ref t15, .int 0, .ref t17, .ref t19, .null, .null, .int 0, .int 0, .null, .null, .null, .null]) := Kn
  have K1 : c20 (j + 1) = .inl (kd 0, 240, .inl (fun _ => 0)) := (Hc (j + 1) (by omega)).trans K1
  have K2 : c20 (j + 2) = .inl (kd 0, 240, .inl (fun _ => 0)) := (Hc (j + 2) (by omega)).trans K2
  have K3 : c20 (j + 3) = .inl (kd 0, 240, .inl (fun _ => 0)) := (Hc (j + 3) (by omega)).trans K3
  have K4 : c20 (j + 4) = .inl (kd 0, 6, .inl (fun _ => 0)) := (Hc (j + 4) (by omega)).trans K4
  have K5 : c20 (j + 5) = .inl (kd 0, 2560, .inl (fun _ => 0)) := (Hc (j + 5) (by omega)).trans K5
  have K6 : c20 (j + 6) = xQ (kd 3) 2 (va_up (va_up (fun _ => none) 0 (some (ad (1010 + 0)))) 1 (some (ad (1010 + 1)))) := (Hc (j + 6) (by omega)).trans K6
  have K7 : c20 (j + 7) = .inl (kd 0, 60, .inl (fun _ => 0)) := (Hc (j + 7) (by omega)).trans K7
  have K8 : c20 (j + 8) = .inl (kd 0, 4, .inl (fun _ => 0)) := (Hc (j + 8) (by omega)).trans K8
  have K9 : c20 (j + 9) = .inl (kd 0, 60, .inl (fun _ => 0)) := (Hc (j + 9) (by omega)).trans K9
  refine n_aload_n h (i := 0) dX10_init_89 (q := 90) rfl rfl 0 rfl ?_
  refine n_bipush h (v := 64) dX10_init_90 (q := 92) rfl (by decide) ?_
  refine n_newa h (N := 64) m52 (by decide) (by decide) (Nat.le_of_ble_eq_true rfl) (Nat.le_of_ble_eq_true rfl) (Nat.le_of_ble_eq_true rfl) dX10_init_92 (q := 94) rfl (fun t21 a21 c21 T Ha Hc Kn => ?_)
  have HA : ∀ i, i ≤ j → a21 i = a i := fun i hi => (Ha i (by omega)).trans (HA i hi)
  have HC : ∀ i, i < j → c21 i = c i := fun i hi => (Hc i (by omega)).trans (HC i hi)
  have HO : c21 j = .inr (10, [.ref t1, .ref t3, .ref t5, .int 0, .ref t7, .ref t9, .ref t11, .int 0, .int 0, .int 0, .int 0, .ref t15, .int 0, .ref t17, .ref t19, .null, .null, .int 0, .int 0, .null, .null, .null, .null]) := (Hc j (by omega)).trans HO
  have TA1 : a21 (j + 1) = t1 := (Ha (j + 1) (by omega)).trans TA1
  have TA2 : a21 (j + 2) = t3 := (Ha (j + 2) (by omega)).trans TA2
  have TA3 : a21 (j + 3) = t5 := (Ha (j + 3) (by omega)).trans TA3
  have TA4 : a21 (j + 4) = t7 := (Ha (j + 4) (by omega)).trans TA4
  have TA5 : a21 (j + 5) = t9 := (Ha (j + 5) (by omega)).trans TA5
  have TA6 : a21 (j + 6) = t11 := (Ha (j + 6) (by omega)).trans TA6
  have TA7 : a21 (j + 7) = t15 := (Ha (j + 7) (by omega)).trans TA7
  have TA8 : a21 (j + 8) = t17 := (Ha (j + 8) (by omega)).trans TA8
  have TA9 : a21 (j + 9) = t19 := (Ha (j + 9) (by omega)).trans TA9
  have K1 : c21 (j + 1) = .inl (kd 0, 240, .inl (fun _ => 0)) := (Hc (j + 1) (by omega)).trans K1
  have K2 : c21 (j + 2) = .inl (kd 0, 240, .inl (fun _ => 0)) := (Hc (j + 2) (by omega)).trans K2
  have K3 : c21 (j + 3) = .inl (kd 0, 240, .inl (fun _ => 0)) := (Hc (j + 3) (by omega)).trans K3
  have K4 : c21 (j + 4) = .inl (kd 0, 6, .inl (fun _ => 0)) := (Hc (j + 4) (by omega)).trans K4
  have K5 : c21 (j + 5) = .inl (kd 0, 2560, .inl (fun _ => 0)) := (Hc (j + 5) (by omega)).trans K5
  have K6 : c21 (j + 6) = xQ (kd 3) 2 (va_up (va_up (fun _ => none) 0 (some (ad (1010 + 0)))) 1 (some (ad (1010 + 1)))) := (Hc (j + 6) (by omega)).trans K6
  have K7 : c21 (j + 7) = .inl (kd 0, 60, .inl (fun _ => 0)) := (Hc (j + 7) (by omega)).trans K7
  have K8 : c21 (j + 8) = .inl (kd 0, 4, .inl (fun _ => 0)) := (Hc (j + 8) (by omega)).trans K8
  have K9 : c21 (j + 9) = .inl (kd 0, 60, .inl (fun _ => 0)) := (Hc (j + 9) (by omega)).trans K9
  have TA10 : a21 (j + 10) = t21 := T
  have K10 : c21 (j + 10) = .inl (kd 0, 64, .inl (fun _ => 0)) := Kn
  refine n_putF h hin (j := j) (k := 15) cls10 (by omega) (HA j (Nat.le_refl j)) HO (Nat.le_of_ble_eq_true rfl) m864 rfl rfl ⟨rfl, rfl⟩ (Nat.le_of_ble_eq_true rfl) dX10_init_94 (q := 97) rfl (fun c22 Hc Kn => ?_)
  have HC : ∀ i, i < j → c22 i = c i := fun i hi => (Hc i (by omega)).trans (HC i hi)
  have HO : c22 j = .inr (10, [.ref t1, .ref t3, .ref t5, .int 0, .ref t7, .ref t9, .ref t11, .int 0, .int 0, .int 0, .int 0, .ref t15, .int 0, .ref t17, .ref t19, .ref t21, .null, .int 0, .int 0, .null, .null, .null, .null]) := Kn
  have K1 : c22 (j + 1) = .inl (kd 0, 240, .inl (fun _ => 0)) := (Hc (j + 1) (by omega)).trans K1
  have K2 : c22 (j + 2) = .inl (kd 0, 240, .inl (fun _ => 0)) := (Hc (j + 2) (by omega)).trans K2
  have K3 : c22 (j + 3) = .inl (kd 0, 240, .inl (fun _ => 0)) := (Hc (j + 3) (by omega)).trans K3
  have K4 : c22 (j + 4) = .inl (kd 0, 6, .inl (fun _ => 0)) := (Hc (j + 4) (by omega)).trans K4
  have K5 : c22 (j + 5) = .inl (kd 0, 2560, .inl (fun _ => 0)) := (Hc (j + 5) (by omega)).trans K5
  have K6 : c22 (j + 6) = xQ (kd 3) 2 (va_up (va_up (fun _ => none) 0 (some (ad (1010 + 0)))) 1 (some (ad (1010 + 1)))) := (Hc (j + 6) (by omega)).trans K6
  have K7 : c22 (j + 7) = .inl (kd 0, 60, .inl (fun _ => 0)) := (Hc (j + 7) (by omega)).trans K7
  have K8 : c22 (j + 8) = .inl (kd 0, 4, .inl (fun _ => 0)) := (Hc (j + 8) (by omega)).trans K8
  have K9 : c22 (j + 9) = .inl (kd 0, 60, .inl (fun _ => 0)) := (Hc (j + 9) (by omega)).trans K9
  have K10 : c22 (j + 10) = .inl (kd 0, 64, .inl (fun _ => 0)) := (Hc (j + 10) (by omega)).trans K10
  refine n_aload_n h (i := 0) dX10_init_97 (q := 98) rfl rfl 0 rfl ?_
  refine n_bipush h (v := 40) dX10_init_98 (q := 100) rfl (by decide) ?_
  refine n_newa h (N := 40) m52 (by decide) (by decide) (Nat.le_of_ble_eq_true rfl) (Nat.le_of_ble_eq_true rfl) (Nat.le_of_ble_eq_true rfl) dX10_init_100 (q := 102) rfl (fun t23 a23 c23 T Ha Hc Kn => ?_)
  have HA : ∀ i, i ≤ j → a23 i = a i := fun i hi => (Ha i (by omega)).trans (HA i hi)
  have HC : ∀ i, i < j → c23 i = c i := fun i hi => (Hc i (by omega)).trans (HC i hi)
  have HO : c23 j = .inr (10, [.ref t1, .ref t3, .ref t5, .int 0, .ref t7, .ref t9, .ref t11, .int 0, .int 0, .int 0, .int 0, .ref t15, .int 0, .ref t17, .ref t19, .ref t21, .null, .int 0, .int 0, .null, .null, .null, .null]) := (Hc j (by omega)).trans HO
  have TA1 : a23 (j + 1) = t1 := (Ha (j + 1) (by omega)).trans TA1
  have TA2 : a23 (j + 2) = t3 := (Ha (j + 2) (by omega)).trans TA2
  have TA3 : a23 (j + 3) = t5 := (Ha (j + 3) (by omega)).trans TA3
  have TA4 : a23 (j + 4) = t7 := (Ha (j + 4) (by omega)).trans TA4
  have TA5 : a23 (j + 5) = t9 := (Ha (j + 5) (by omega)).trans TA5
  have TA6 : a23 (j + 6) = t11 := (Ha (j + 6) (by omega)).trans TA6
  have TA7 : a23 (j + 7) = t15 := (Ha (j + 7) (by omega)).trans TA7
  have TA8 : a23 (j + 8) = t17 := (Ha (j + 8) (by omega)).trans TA8
  have TA9 : a23 (j + 9) = t19 := (Ha (j + 9) (by omega)).trans TA9
  have TA10 : a23 (j + 10) = t21 := (Ha (j + 10) (by omega)).trans TA10
  have K1 : c23 (j + 1) = .inl (kd 0, 240, .inl (fun _ => 0)) := (Hc (j + 1) (by omega)).trans K1
  have K2 : c23 (j + 2) = .inl (kd 0, 240, .inl (fun _ => 0)) := (Hc (j + 2) (by omega)).trans K2
  have K3 : c23 (j + 3) = .inl (kd 0, 240, .inl (fun _ => 0)) := (Hc (j + 3) (by omega)).trans K3
  have K4 : c23 (j + 4) = .inl (kd 0, 6, .inl (fun _ => 0)) := (Hc (j + 4) (by omega)).trans K4
  have K5 : c23 (j + 5) = .inl (kd 0, 2560, .inl (fun _ => 0)) := (Hc (j + 5) (by omega)).trans K5
  have K6 : c23 (j + 6) = xQ (kd 3) 2 (va_up (va_up (fun _ => none) 0 (some (ad (1010 + 0)))) 1 (some (ad (1010 + 1)))) := (Hc (j + 6) (by omega)).trans K6
  have K7 : c23 (j + 7) = .inl (kd 0, 60, .inl (fun _ => 0)) := (Hc (j + 7) (by omega)).trans K7
  have K8 : c23 (j + 8) = .inl (kd 0, 4, .inl (fun _ => 0)) := (Hc (j + 8) (by omega)).trans K8
  have K9 : c23 (j + 9) = .inl (kd 0, 60, .inl (fun _ => 0)) := (Hc (j + 9) (by omega)).trans K9
  have K10 : c23 (j + 10) = .inl (kd 0, 64, .inl (fun _ => 0)) := (Hc (j + 10) (by omega)).trans K10
  have TA11 : a23 (j + 11) = t23 := T
  have K11 : c23 (j + 11) = .inl (kd 0, 40, .inl (fun _ => 0)) := Kn
  refine n_putF h hin (j := j) (k := 16) cls10 (by omega) (HA j (Nat.le_refl j)) HO (Nat.le_of_ble_eq_true rfl) m865 rfl rfl ⟨rfl, rfl⟩ (Nat.le_of_ble_eq_true rfl) dX10_init_102 (q := 105) rfl (fun c24 Hc Kn => ?_)
  have HC : ∀ i, i < j → c24 i = c i := fun i hi => (Hc i (by omega)).trans (HC i hi)
  have HO : c24 j = .inr (10, [.ref t1, .ref t3, .ref t5, .int 0, .ref t7, .ref t9, .ref t11, .int 0, .int 0, .int 0, .int 0, .ref t15, .int 0, .ref t17, .ref t19, .ref t21, .ref t23, .int 0, .int 0, .null, .null, .null, .null]) := Kn
  have K1 : c24 (j + 1) = .inl (kd 0, 240, .inl (fun _ => 0)) := (Hc (j + 1) (by omega)).trans K1
  have K2 : c24 (j + 2) = .inl (kd 0, 240, .inl (fun _ => 0)) := (Hc (j + 2) (by omega)).trans K2
  have K3 : c24 (j + 3) = .inl (kd 0, 240, .inl (fun _ => 0)) := (Hc (j + 3) (by omega)).trans K3
  have K4 : c24 (j + 4) = .inl (kd 0, 6, .inl (fun _ => 0)) := (Hc (j + 4) (by omega)).trans K4
  have K5 : c24 (j + 5) = .inl (kd 0, 2560, .inl (fun _ => 0)) := (Hc (j + 5) (by omega)).trans K5
  have K6 : c24 (j + 6) = xQ (kd 3) 2 (va_up (va_up (fun _ => none) 0 (some (ad (1010 + 0)))) 1 (some (ad (1010 + 1)))) := (Hc (j + 6) (by omega)).trans K6
  have K7 : c24 (j + 7) = .inl (kd 0, 60, .inl (fun _ => 0)) := (Hc (j + 7) (by omega)).trans K7
  have K8 : c24 (j + 8) = .inl (kd 0, 4, .inl (fun _ => 0)) := (Hc (j + 8) (by omega)).trans K8
  have K9 : c24 (j + 9) = .inl (kd 0, 60, .inl (fun _ => 0)) := (Hc (j + 9) (by omega)).trans K9
  have K10 : c24 (j + 10) = .inl (kd 0, 64, .inl (fun _ => 0)) := (Hc (j + 10) (by omega)).trans K10
  have K11 : c24 (j + 11) = .inl (kd 0, 40, .inl (fun _ => 0)) := (Hc (j + 11) (by omega)).trans K11
  refine n_aload_n h (i := 0) dX10_init_105 (q := 106) rfl rfl 0 rfl ?_
  refine n_iconst h (v := 4) dX10_init_106 (q := 107) rfl (by decide) ?_
  refine n_newa h (N := 4) m52 (by decide) (by decide) (Nat.le_of_ble_eq_true rfl) (Nat.le_of_ble_eq_true rfl) (Nat.le_of_ble_eq_true rfl) dX10_init_107 (q := 109) rfl (fun t25 a25 c25 T Ha Hc Kn => ?_)
  have HA : ∀ i, i ≤ j → a25 i = a i := fun i hi => (Ha i (by omega)).trans (HA i hi)
  have HC : ∀ i, i < j → c25 i = c i := fun i hi => (Hc i (by omega)).trans (HC i hi)
  have HO : c25 j = .inr (10, [.ref t1, .ref t3, .ref t5, .int 0, .ref t7, .ref t9, .ref t11, .int 0, .int 0, .int 0, .int 0, .ref t15, .int 0, .ref t17, .ref t19, .ref t21, .ref t23, .int 0, .int 0, .null, .null, .null, .null]) := (Hc j (by omega)).trans HO
  have TA1 : a25 (j + 1) = t1 := (Ha (j + 1) (by omega)).trans TA1
  have TA2 : a25 (j + 2) = t3 := (Ha (j + 2) (by omega)).trans TA2
  have TA3 : a25 (j + 3) = t5 := (Ha (j + 3) (by omega)).trans TA3
  have TA4 : a25 (j + 4) = t7 := (Ha (j + 4) (by omega)).trans TA4
  have TA5 : a25 (j + 5) = t9 := (Ha (j + 5) (by omega)).trans TA5
  have TA6 : a25 (j + 6) = t11 := (Ha (j + 6) (by omega)).trans TA6
  have TA7 : a25 (j + 7) = t15 := (Ha (j + 7) (by omega)).trans TA7
  have TA8 : a25 (j + 8) = t17 := (Ha (j + 8) (by omega)).trans TA8
  have TA9 : a25 (j + 9) = t19 := (Ha (j + 9) (by omega)).trans TA9
  have TA10 : a25 (j + 10) = t21 := (Ha (j + 10) (by omega)).trans TA10
  have TA11 : a25 (j + 11) = t23 := (Ha (j + 11) (by omega)).trans TA11
  have K1 : c25 (j + 1) = .inl (kd 0, 240, .inl (fun _ => 0)) := (Hc (j + 1) (by omega)).trans K1
  have K2 : c25 (j + 2) = .inl (kd 0, 240, .inl (fun _ => 0)) := (Hc (j + 2) (by omega)).trans K2
  have K3 : c25 (j + 3) = .inl (kd 0, 240, .inl (fun _ => 0)) := (Hc (j + 3) (by omega)).trans K3
  have K4 : c25 (j + 4) = .inl (kd 0, 6, .inl (fun _ => 0)) := (Hc (j + 4) (by omega)).trans K4
  have K5 : c25 (j + 5) = .inl (kd 0, 2560, .inl (fun _ => 0)) := (Hc (j + 5) (by omega)).trans K5
  have K6 : c25 (j + 6) = xQ (kd 3) 2 (va_up (va_up (fun _ => none) 0 (some (ad (1010 + 0)))) 1 (some (ad (1010 + 1)))) := (Hc (j + 6) (by omega)).trans K6
  have K7 : c25 (j + 7) = .inl (kd 0, 60, .inl (fun _ => 0)) := (Hc (j + 7) (by omega)).trans K7
  have K8 : c25 (j + 8) = .inl (kd 0, 4, .inl (fun _ => 0)) := (Hc (j + 8) (by omega)).trans K8
  have K9 : c25 (j + 9) = .inl (kd 0, 60, .inl (fun _ => 0)) := (Hc (j + 9) (by omega)).trans K9
  have K10 : c25 (j + 10) = .inl (kd 0, 64, .inl (fun _ => 0)) := (Hc (j + 10) (by omega)).trans K10
  have K11 : c25 (j + 11) = .inl (kd 0, 40, .inl (fun _ => 0)) := (Hc (j + 11) (by omega)).trans K11
  have TA12 : a25 (j + 12) = t25 := T
  have K12 : c25 (j + 12) = .inl (kd 0, 4, .inl (fun _ => 0)) := Kn
  refine n_putF h hin (j := j) (k := 19) cls10 (by omega) (HA j (Nat.le_refl j)) HO (Nat.le_of_ble_eq_true rfl) m868 rfl rfl ⟨rfl, rfl⟩ (Nat.le_of_ble_eq_true rfl) dX10_init_109 (q := 112) rfl (fun c26 Hc Kn => ?_)
  have HC : ∀ i, i < j → c26 i = c i := fun i hi => (Hc i (by omega)).trans (HC i hi)
  have HO : c26 j = .inr (10, [.ref t1, .ref t3, .ref t5, .int 0, .ref t7, .ref t9, .ref t11, .int 0, .int 0, .int 0, .int 0, .ref t15, .int 0, .ref t17, .ref t19, .ref t21, .ref t23, .int 0, .int 0, .ref t25, .null, .null, .null]) := Kn
  have K1 : c26 (j + 1) = .inl (kd 0, 240, .inl (fun _ => 0)) := (Hc (j + 1) (by omega)).trans K1
  have K2 : c26 (j + 2) = .inl (kd 0, 240, .inl (fun _ => 0)) := (Hc (j + 2) (by omega)).trans K2
  have K3 : c26 (j + 3) = .inl (kd 0, 240, .inl (fun _ => 0)) := (Hc (j + 3) (by omega)).trans K3
  have K4 : c26 (j + 4) = .inl (kd 0, 6, .inl (fun _ => 0)) := (Hc (j + 4) (by omega)).trans K4
  have K5 : c26 (j + 5) = .inl (kd 0, 2560, .inl (fun _ => 0)) := (Hc (j + 5) (by omega)).trans K5
  have K6 : c26 (j + 6) = xQ (kd 3) 2 (va_up (va_up (fun _ => none) 0 (some (ad (1010 + 0)))) 1 (some (ad (1010 + 1)))) := (Hc (j + 6) (by omega)).trans K6
  have K7 : c26 (j + 7) = .inl (kd 0, 60, .inl (fun _ => 0)) := (Hc (j + 7) (by omega)).trans K7
  have K8 : c26 (j + 8) = .inl (kd 0, 4, .inl (fun _ => 0)) := (Hc (j + 8) (by omega)).trans K8
  have K9 : c26 (j + 9) = .inl (kd 0, 60, .inl (fun _ => 0)) := (Hc (j + 9) (by omega)).trans K9
  have K10 : c26 (j + 10) = .inl (kd 0, 64, .inl (fun _ => 0)) := (Hc (j + 10) (by omega)).trans K10
  have K11 : c26 (j + 11) = .inl (kd 0, 40, .inl (fun _ => 0)) := (Hc (j + 11) (by omega)).trans K11
  have K12 : c26 (j + 12) = .inl (kd 0, 4, .inl (fun _ => 0)) := (Hc (j + 12) (by omega)).trans K12
  refine n_aload_n h (i := 0) dX10_init_112 (q := 113) rfl rfl 0 rfl ?_
  refine n_iconst h (v := 4) dX10_init_113 (q := 114) rfl (by decide) ?_
  refine n_newa h (N := 4) m52 (by decide) (by decide) (Nat.le_of_ble_eq_true rfl) (Nat.le_of_ble_eq_true rfl) (Nat.le_of_ble_eq_true rfl) dX10_init_114 (q := 116) rfl (fun t27 a27 c27 T Ha Hc Kn => ?_)
  have HA : ∀ i, i ≤ j → a27 i = a i := fun i hi => (Ha i (by omega)).trans (HA i hi)
  have HC : ∀ i, i < j → c27 i = c i := fun i hi => (Hc i (by omega)).trans (HC i hi)
  have HO : c27 j = .inr (10, [.ref t1, .ref t3, .ref t5, .int 0, .ref t7, .ref t9, .ref t11, .int 0, .int 0, .int 0, .int 0, .ref t15, .int 0, .ref t17, .ref t19, .ref t21, .ref t23, .int 0, .int 0, .ref t25, .null, .null, .null]) := (Hc j (by omega)).trans HO
  have TA1 : a27 (j + 1) = t1 := (Ha (j + 1) (by omega)).trans TA1
  have TA2 : a27 (j + 2) = t3 := (Ha (j + 2) (by omega)).trans TA2
  have TA3 : a27 (j + 3) = t5 := (Ha (j + 3) (by omega)).trans TA3
  have TA4 : a27 (j + 4) = t7 := (Ha (j + 4) (by omega)).trans TA4
  have TA5 : a27 (j + 5) = t9 := (Ha (j + 5) (by omega)).trans TA5
  have TA6 : a27 (j + 6) = t11 := (Ha (j + 6) (by omega)).trans TA6
  have TA7 : a27 (j + 7) = t15 := (Ha (j + 7) (by omega)).trans TA7
  have TA8 : a27 (j + 8) = t17 := (Ha (j + 8) (by omega)).trans TA8
  have TA9 : a27 (j + 9) = t19 := (Ha (j + 9) (by omega)).trans TA9
  have TA10 : a27 (j + 10) = t21 := (Ha (j + 10) (by omega)).trans TA10
  have TA11 : a27 (j + 11) = t23 := (Ha (j + 11) (by omega)).trans TA11
  have TA12 : a27 (j + 12) = t25 := (Ha (j + 12) (by omega)).trans TA12
  have K1 : c27 (j + 1) = .inl (kd 0, 240, .inl (fun _ => 0)) := (Hc (j + 1) (by omega)).trans K1
  have K2 : c27 (j + 2) = .inl (kd 0, 240, .inl (fun _ => 0)) := (Hc (j + 2) (by omega)).trans K2
  have K3 : c27 (j + 3) = .inl (kd 0, 240, .inl (fun _ => 0)) := (Hc (j + 3) (by omega)).trans K3
  have K4 : c27 (j + 4) = .inl (kd 0, 6, .inl (fun _ => 0)) := (Hc (j + 4) (by omega)).trans K4
  have K5 : c27 (j + 5) = .inl (kd 0, 2560, .inl (fun _ => 0)) := (Hc (j + 5) (by omega)).trans K5
  have K6 : c27 (j + 6) = xQ (kd 3) 2 (va_up (va_up (fun _ => none) 0 (some (ad (1010 + 0)))) 1 (some (ad (1010 + 1)))) := (Hc (j + 6) (by omega)).trans K6
  have K7 : c27 (j + 7) = .inl (kd 0, 60, .inl (fun _ => 0)) := (Hc (j + 7) (by omega)).trans K7
  have K8 : c27 (j + 8) = .inl (kd 0, 4, .inl (fun _ => 0)) := (Hc (j + 8) (by omega)).trans K8
  have K9 : c27 (j + 9) = .inl (kd 0, 60, .inl (fun _ => 0)) := (Hc (j + 9) (by omega)).trans K9
  have K10 : c27 (j + 10) = .inl (kd 0, 64, .inl (fun _ => 0)) := (Hc (j + 10) (by omega)).trans K10
  have K11 : c27 (j + 11) = .inl (kd 0, 40, .inl (fun _ => 0)) := (Hc (j + 11) (by omega)).trans K11
  have K12 : c27 (j + 12) = .inl (kd 0, 4, .inl (fun _ => 0)) := (Hc (j + 12) (by omega)).trans K12
  have TA13 : a27 (j + 13) = t27 := T
  have K13 : c27 (j + 13) = .inl (kd 0, 4, .inl (fun _ => 0)) := Kn
  refine n_putF h hin (j := j) (k := 20) cls10 (by omega) (HA j (Nat.le_refl j)) HO (Nat.le_of_ble_eq_true rfl) m869 rfl rfl ⟨rfl, rfl⟩ (Nat.le_of_ble_eq_true rfl) dX10_init_116 (q := 119) rfl (fun c28 Hc Kn => ?_)
  have HC : ∀ i, i < j → c28 i = c i := fun i hi => (Hc i (by omega)).trans (HC i hi)
  have HO : c28 j = .inr (10, [.ref t1, .ref t3, .ref t5, .int 0, .ref t7, .ref t9, .ref t11, .int 0, .int 0, .int 0, .int 0, .ref t15, .int 0, .ref t17, .ref t19, .ref t21, .ref t23, .int 0, .int 0, .ref t25, .ref t27, .null, .null]) := Kn
  have K1 : c28 (j + 1) = .inl (kd 0, 240, .inl (fun _ => 0)) := (Hc (j + 1) (by omega)).trans K1
  have K2 : c28 (j + 2) = .inl (kd 0, 240, .inl (fun _ => 0)) := (Hc (j + 2) (by omega)).trans K2
  have K3 : c28 (j + 3) = .inl (kd 0, 240, .inl (fun _ => 0)) := (Hc (j + 3) (by omega)).trans K3
  have K4 : c28 (j + 4) = .inl (kd 0, 6, .inl (fun _ => 0)) := (Hc (j + 4) (by omega)).trans K4
  have K5 : c28 (j + 5) = .inl (kd 0, 2560, .inl (fun _ => 0)) := (Hc (j + 5) (by omega)).trans K5
  have K6 : c28 (j + 6) = xQ (kd 3) 2 (va_up (va_up (fun _ => none) 0 (some (ad (1010 + 0)))) 1 (some (ad (1010 + 1)))) := (Hc (j + 6) (by omega)).trans K6
  have K7 : c28 (j + 7) = .inl (kd 0, 60, .inl (fun _ => 0)) := (Hc (j + 7) (by omega)).trans K7
  have K8 : c28 (j + 8) = .inl (kd 0, 4, .inl (fun _ => 0)) := (Hc (j + 8) (by omega)).trans K8
  have K9 : c28 (j + 9) = .inl (kd 0, 60, .inl (fun _ => 0)) := (Hc (j + 9) (by omega)).trans K9
  have K10 : c28 (j + 10) = .inl (kd 0, 64, .inl (fun _ => 0)) := (Hc (j + 10) (by omega)).trans K10
  have K11 : c28 (j + 11) = .inl (kd 0, 40, .inl (fun _ => 0)) := (Hc (j + 11) (by omega)).trans K11
  have K12 : c28 (j + 12) = .inl (kd 0, 4, .inl (fun _ => 0)) := (Hc (j + 12) (by omega)).trans K12
  have K13 : c28 (j + 13) = .inl (kd 0, 4, .inl (fun _ => 0)) := (Hc (j + 13) (by omega)).trans K13
  refine n_aload_n h (i := 0) dX10_init_119 (q := 120) rfl rfl 0 rfl ?_
  refine n_sipush h (v := 160) dX10_init_120 (q := 123) rfl (by decide) ?_
  refine n_newa h (N := 160) m52 (by decide) (by decide) (Nat.le_of_ble_eq_true rfl) (Nat.le_of_ble_eq_true rfl) (Nat.le_of_ble_eq_true rfl) dX10_init_123 (q := 125) rfl (fun t29 a29 c29 T Ha Hc Kn => ?_)
  have HA : ∀ i, i ≤ j → a29 i = a i := fun i hi => (Ha i (by omega)).trans (HA i hi)
  have HC : ∀ i, i < j → c29 i = c i := fun i hi => (Hc i (by omega)).trans (HC i hi)
  have HO : c29 j = .inr (10, [.ref t1, .ref t3, .ref t5, .int 0, .ref t7, .ref t9, .ref t11, .int 0, .int 0, .int 0, .int 0, .ref t15, .int 0, .ref t17, .ref t19, .ref t21, .ref t23, .int 0, .int 0, .ref t25, .ref t27, .null, .null]) := (Hc j (by omega)).trans HO
  have TA1 : a29 (j + 1) = t1 := (Ha (j + 1) (by omega)).trans TA1
  have TA2 : a29 (j + 2) = t3 := (Ha (j + 2) (by omega)).trans TA2
  have TA3 : a29 (j + 3) = t5 := (Ha (j + 3) (by omega)).trans TA3
  have TA4 : a29 (j + 4) = t7 := (Ha (j + 4) (by omega)).trans TA4
  have TA5 : a29 (j + 5) = t9 := (Ha (j + 5) (by omega)).trans TA5
  have TA6 : a29 (j + 6) = t11 := (Ha (j + 6) (by omega)).trans TA6
  have TA7 : a29 (j + 7) = t15 := (Ha (j + 7) (by omega)).trans TA7
  have TA8 : a29 (j + 8) = t17 := (Ha (j + 8) (by omega)).trans TA8
  have TA9 : a29 (j + 9) = t19 := (Ha (j + 9) (by omega)).trans TA9
  have TA10 : a29 (j + 10) = t21 := (Ha (j + 10) (by omega)).trans TA10
  have TA11 : a29 (j + 11) = t23 := (Ha (j + 11) (by omega)).trans TA11
  have TA12 : a29 (j + 12) = t25 := (Ha (j + 12) (by omega)).trans TA12
  have TA13 : a29 (j + 13) = t27 := (Ha (j + 13) (by omega)).trans TA13
  have K1 : c29 (j + 1) = .inl (kd 0, 240, .inl (fun _ => 0)) := (Hc (j + 1) (by omega)).trans K1
  have K2 : c29 (j + 2) = .inl (kd 0, 240, .inl (fun _ => 0)) := (Hc (j + 2) (by omega)).trans K2
  have K3 : c29 (j + 3) = .inl (kd 0, 240, .inl (fun _ => 0)) := (Hc (j + 3) (by omega)).trans K3
  have K4 : c29 (j + 4) = .inl (kd 0, 6, .inl (fun _ => 0)) := (Hc (j + 4) (by omega)).trans K4
  have K5 : c29 (j + 5) = .inl (kd 0, 2560, .inl (fun _ => 0)) := (Hc (j + 5) (by omega)).trans K5
  have K6 : c29 (j + 6) = xQ (kd 3) 2 (va_up (va_up (fun _ => none) 0 (some (ad (1010 + 0)))) 1 (some (ad (1010 + 1)))) := (Hc (j + 6) (by omega)).trans K6
  have K7 : c29 (j + 7) = .inl (kd 0, 60, .inl (fun _ => 0)) := (Hc (j + 7) (by omega)).trans K7
  have K8 : c29 (j + 8) = .inl (kd 0, 4, .inl (fun _ => 0)) := (Hc (j + 8) (by omega)).trans K8
  have K9 : c29 (j + 9) = .inl (kd 0, 60, .inl (fun _ => 0)) := (Hc (j + 9) (by omega)).trans K9
  have K10 : c29 (j + 10) = .inl (kd 0, 64, .inl (fun _ => 0)) := (Hc (j + 10) (by omega)).trans K10
  have K11 : c29 (j + 11) = .inl (kd 0, 40, .inl (fun _ => 0)) := (Hc (j + 11) (by omega)).trans K11
  have K12 : c29 (j + 12) = .inl (kd 0, 4, .inl (fun _ => 0)) := (Hc (j + 12) (by omega)).trans K12
  have K13 : c29 (j + 13) = .inl (kd 0, 4, .inl (fun _ => 0)) := (Hc (j + 13) (by omega)).trans K13
  have TA14 : a29 (j + 14) = t29 := T
  have K14 : c29 (j + 14) = .inl (kd 0, 160, .inl (fun _ => 0)) := Kn
  refine n_putF h hin (j := j) (k := 21) cls10 (by omega) (HA j (Nat.le_refl j)) HO (Nat.le_of_ble_eq_true rfl) m870 rfl rfl ⟨rfl, rfl⟩ (Nat.le_of_ble_eq_true rfl) dX10_init_125 (q := 128) rfl (fun c30 Hc Kn => ?_)
  have HC : ∀ i, i < j → c30 i = c i := fun i hi => (Hc i (by omega)).trans (HC i hi)
  have HO : c30 j = .inr (10, [.ref t1, .ref t3, .ref t5, .int 0, .ref t7, .ref t9, .ref t11, .int 0, .int 0, .int 0, .int 0, .ref t15, .int 0, .ref t17, .ref t19, .ref t21, .ref t23, .int 0, .int 0, .ref t25, .ref t27, .ref t29, .null]) := Kn
  have K1 : c30 (j + 1) = .inl (kd 0, 240, .inl (fun _ => 0)) := (Hc (j + 1) (by omega)).trans K1
  have K2 : c30 (j + 2) = .inl (kd 0, 240, .inl (fun _ => 0)) := (Hc (j + 2) (by omega)).trans K2
  have K3 : c30 (j + 3) = .inl (kd 0, 240, .inl (fun _ => 0)) := (Hc (j + 3) (by omega)).trans K3
  have K4 : c30 (j + 4) = .inl (kd 0, 6, .inl (fun _ => 0)) := (Hc (j + 4) (by omega)).trans K4
  have K5 : c30 (j + 5) = .inl (kd 0, 2560, .inl (fun _ => 0)) := (Hc (j + 5) (by omega)).trans K5
  have K6 : c30 (j + 6) = xQ (kd 3) 2 (va_up (va_up (fun _ => none) 0 (some (ad (1010 + 0)))) 1 (some (ad (1010 + 1)))) := (Hc (j + 6) (by omega)).trans K6
  have K7 : c30 (j + 7) = .inl (kd 0, 60, .inl (fun _ => 0)) := (Hc (j + 7) (by omega)).trans K7
  have K8 : c30 (j + 8) = .inl (kd 0, 4, .inl (fun _ => 0)) := (Hc (j + 8) (by omega)).trans K8
  have K9 : c30 (j + 9) = .inl (kd 0, 60, .inl (fun _ => 0)) := (Hc (j + 9) (by omega)).trans K9
  have K10 : c30 (j + 10) = .inl (kd 0, 64, .inl (fun _ => 0)) := (Hc (j + 10) (by omega)).trans K10
  have K11 : c30 (j + 11) = .inl (kd 0, 40, .inl (fun _ => 0)) := (Hc (j + 11) (by omega)).trans K11
  have K12 : c30 (j + 12) = .inl (kd 0, 4, .inl (fun _ => 0)) := (Hc (j + 12) (by omega)).trans K12
  have K13 : c30 (j + 13) = .inl (kd 0, 4, .inl (fun _ => 0)) := (Hc (j + 13) (by omega)).trans K13
  have K14 : c30 (j + 14) = .inl (kd 0, 160, .inl (fun _ => 0)) := (Hc (j + 14) (by omega)).trans K14
  refine n_aload_n h (i := 0) dX10_init_128 (q := 129) rfl rfl 0 rfl ?_
  refine n_bipush h (v := 40) dX10_init_129 (q := 131) rfl (by decide) ?_
  refine n_newa h (N := 40) m52 (by decide) (by decide) (Nat.le_of_ble_eq_true rfl) (Nat.le_of_ble_eq_true rfl) (Nat.le_of_ble_eq_true rfl) dX10_init_131 (q := 133) rfl (fun t31 a31 c31 T Ha Hc Kn => ?_)
  have HA : ∀ i, i ≤ j → a31 i = a i := fun i hi => (Ha i (by omega)).trans (HA i hi)
  have HC : ∀ i, i < j → c31 i = c i := fun i hi => (Hc i (by omega)).trans (HC i hi)
  have HO : c31 j = .inr (10, [.ref t1, .ref t3, .ref t5, .int 0, .ref t7, .ref t9, .ref t11, .int 0, .int 0, .int 0, .int 0, .ref t15, .int 0, .ref t17, .ref t19, .ref t21, .ref t23, .int 0, .int 0, .ref t25, .ref t27, .ref t29, .null]) := (Hc j (by omega)).trans HO
  have TA1 : a31 (j + 1) = t1 := (Ha (j + 1) (by omega)).trans TA1
  have TA2 : a31 (j + 2) = t3 := (Ha (j + 2) (by omega)).trans TA2
  have TA3 : a31 (j + 3) = t5 := (Ha (j + 3) (by omega)).trans TA3
  have TA4 : a31 (j + 4) = t7 := (Ha (j + 4) (by omega)).trans TA4
  have TA5 : a31 (j + 5) = t9 := (Ha (j + 5) (by omega)).trans TA5
  have TA6 : a31 (j + 6) = t11 := (Ha (j + 6) (by omega)).trans TA6
  have TA7 : a31 (j + 7) = t15 := (Ha (j + 7) (by omega)).trans TA7
  have TA8 : a31 (j + 8) = t17 := (Ha (j + 8) (by omega)).trans TA8
  have TA9 : a31 (j + 9) = t19 := (Ha (j + 9) (by omega)).trans TA9
  have TA10 : a31 (j + 10) = t21 := (Ha (j + 10) (by omega)).trans TA10
  have TA11 : a31 (j + 11) = t23 := (Ha (j + 11) (by omega)).trans TA11
  have TA12 : a31 (j + 12) = t25 := (Ha (j + 12) (by omega)).trans TA12
  have TA13 : a31 (j + 13) = t27 := (Ha (j + 13) (by omega)).trans TA13
  have TA14 : a31 (j + 14) = t29 := (Ha (j + 14) (by omega)).trans TA14
  have K1 : c31 (j + 1) = .inl (kd 0, 240, .inl (fun _ => 0)) := (Hc (j + 1) (by omega)).trans K1
  have K2 : c31 (j + 2) = .inl (kd 0, 240, .inl (fun _ => 0)) := (Hc (j + 2) (by omega)).trans K2
  have K3 : c31 (j + 3) = .inl (kd 0, 240, .inl (fun _ => 0)) := (Hc (j + 3) (by omega)).trans K3
  have K4 : c31 (j + 4) = .inl (kd 0, 6, .inl (fun _ => 0)) := (Hc (j + 4) (by omega)).trans K4
  have K5 : c31 (j + 5) = .inl (kd 0, 2560, .inl (fun _ => 0)) := (Hc (j + 5) (by omega)).trans K5
  have K6 : c31 (j + 6) = xQ (kd 3) 2 (va_up (va_up (fun _ => none) 0 (some (ad (1010 + 0)))) 1 (some (ad (1010 + 1)))) := (Hc (j + 6) (by omega)).trans K6
  have K7 : c31 (j + 7) = .inl (kd 0, 60, .inl (fun _ => 0)) := (Hc (j + 7) (by omega)).trans K7
  have K8 : c31 (j + 8) = .inl (kd 0, 4, .inl (fun _ => 0)) := (Hc (j + 8) (by omega)).trans K8
  have K9 : c31 (j + 9) = .inl (kd 0, 60, .inl (fun _ => 0)) := (Hc (j + 9) (by omega)).trans K9
  have K10 : c31 (j + 10) = .inl (kd 0, 64, .inl (fun _ => 0)) := (Hc (j + 10) (by omega)).trans K10
  have K11 : c31 (j + 11) = .inl (kd 0, 40, .inl (fun _ => 0)) := (Hc (j + 11) (by omega)).trans K11
  have K12 : c31 (j + 12) = .inl (kd 0, 4, .inl (fun _ => 0)) := (Hc (j + 12) (by omega)).trans K12
  have K13 : c31 (j + 13) = .inl (kd 0, 4, .inl (fun _ => 0)) := (Hc (j + 13) (by omega)).trans K13
  have K14 : c31 (j + 14) = .inl (kd 0, 160, .inl (fun _ => 0)) := (Hc (j + 14) (by omega)).trans K14
  have TA15 : a31 (j + 15) = t31 := T
  have K15 : c31 (j + 15) = .inl (kd 0, 40, .inl (fun _ => 0)) := Kn
  refine n_putF h hin (j := j) (k := 22) cls10 (by omega) (HA j (Nat.le_refl j)) HO (Nat.le_of_ble_eq_true rfl) m871 rfl rfl ⟨rfl, rfl⟩ (Nat.le_of_ble_eq_true rfl) dX10_init_133 (q := 136) rfl (fun c32 Hc Kn => ?_)
  have HC : ∀ i, i < j → c32 i = c i := fun i hi => (Hc i (by omega)).trans (HC i hi)
  have HO : c32 j = .inr (10, [.ref t1, .ref t3, .ref t5, .int 0, .ref t7, .ref t9, .ref t11, .int 0, .int 0, .int 0, .int 0, .ref t15, .int 0, .ref t17, .ref t19, .ref t21, .ref t23, .int 0, .int 0, .ref t25, .ref t27, .ref t29, .ref t31]) := Kn
  have K1 : c32 (j + 1) = .inl (kd 0, 240, .inl (fun _ => 0)) := (Hc (j + 1) (by omega)).trans K1
  have K2 : c32 (j + 2) = .inl (kd 0, 240, .inl (fun _ => 0)) := (Hc (j + 2) (by omega)).trans K2
  have K3 : c32 (j + 3) = .inl (kd 0, 240, .inl (fun _ => 0)) := (Hc (j + 3) (by omega)).trans K3
  have K4 : c32 (j + 4) = .inl (kd 0, 6, .inl (fun _ => 0)) := (Hc (j + 4) (by omega)).trans K4
  have K5 : c32 (j + 5) = .inl (kd 0, 2560, .inl (fun _ => 0)) := (Hc (j + 5) (by omega)).trans K5
  have K6 : c32 (j + 6) = xQ (kd 3) 2 (va_up (va_up (fun _ => none) 0 (some (ad (1010 + 0)))) 1 (some (ad (1010 + 1)))) := (Hc (j + 6) (by omega)).trans K6
  have K7 : c32 (j + 7) = .inl (kd 0, 60, .inl (fun _ => 0)) := (Hc (j + 7) (by omega)).trans K7
  have K8 : c32 (j + 8) = .inl (kd 0, 4, .inl (fun _ => 0)) := (Hc (j + 8) (by omega)).trans K8
  have K9 : c32 (j + 9) = .inl (kd 0, 60, .inl (fun _ => 0)) := (Hc (j + 9) (by omega)).trans K9
  have K10 : c32 (j + 10) = .inl (kd 0, 64, .inl (fun _ => 0)) := (Hc (j + 10) (by omega)).trans K10
  have K11 : c32 (j + 11) = .inl (kd 0, 40, .inl (fun _ => 0)) := (Hc (j + 11) (by omega)).trans K11
  have K12 : c32 (j + 12) = .inl (kd 0, 4, .inl (fun _ => 0)) := (Hc (j + 12) (by omega)).trans K12
  have K13 : c32 (j + 13) = .inl (kd 0, 4, .inl (fun _ => 0)) := (Hc (j + 13) (by omega)).trans K13
  have K14 : c32 (j + 14) = .inl (kd 0, 160, .inl (fun _ => 0)) := (Hc (j + 14) (by omega)).trans K14
  have K15 : c32 (j + 15) = .inl (kd 0, 40, .inl (fun _ => 0)) := (Hc (j + 15) (by omega)).trans K15
  refine n_aload_n h (i := 0) dX10_init_136 (q := 137) rfl rfl 0 rfl ?_
  refine n_get h (j := j) (k := 0) (v := .ref t1) cls10 (by omega) (HA j (Nat.le_refl j)) HO (Nat.le_of_ble_eq_true rfl) m849 rfl dX10_init_137 (q := 140) rfl ?_
  refine n_iconst h (v := 1) dX10_init_140 (q := 141) rfl (by decide) ?_
  refine n_iconst h (v := 2) dX10_init_141 (q := 142) rfl (by decide) ?_
  refine n_iast h (j := j + 1) (by omega) TA1 K1 (vp_in_nI (n := 1) (by decide) (by decide)) dX10_init_142 (q := 143) rfl (fun c33 Hc Kn => ?_)
  have HC : ∀ i, i < j → c33 i = c i := fun i hi => (Hc i (by omega)).trans (HC i hi)
  have HO : c33 j = .inr (10, [.ref t1, .ref t3, .ref t5, .int 0, .ref t7, .ref t9, .ref t11, .int 0, .int 0, .int 0, .int 0, .ref t15, .int 0, .ref t17, .ref t19, .ref t21, .ref t23, .int 0, .int 0, .ref t25, .ref t27, .ref t29, .ref t31]) := (Hc j (by omega)).trans HO
  have K2 : c33 (j + 2) = .inl (kd 0, 240, .inl (fun _ => 0)) := (Hc (j + 2) (by omega)).trans K2
  have K3 : c33 (j + 3) = .inl (kd 0, 240, .inl (fun _ => 0)) := (Hc (j + 3) (by omega)).trans K3
  have K4 : c33 (j + 4) = .inl (kd 0, 6, .inl (fun _ => 0)) := (Hc (j + 4) (by omega)).trans K4
  have K5 : c33 (j + 5) = .inl (kd 0, 2560, .inl (fun _ => 0)) := (Hc (j + 5) (by omega)).trans K5
  have K6 : c33 (j + 6) = xQ (kd 3) 2 (va_up (va_up (fun _ => none) 0 (some (ad (1010 + 0)))) 1 (some (ad (1010 + 1)))) := (Hc (j + 6) (by omega)).trans K6
  have K7 : c33 (j + 7) = .inl (kd 0, 60, .inl (fun _ => 0)) := (Hc (j + 7) (by omega)).trans K7
  have K8 : c33 (j + 8) = .inl (kd 0, 4, .inl (fun _ => 0)) := (Hc (j + 8) (by omega)).trans K8
  have K9 : c33 (j + 9) = .inl (kd 0, 60, .inl (fun _ => 0)) := (Hc (j + 9) (by omega)).trans K9
  have K10 : c33 (j + 10) = .inl (kd 0, 64, .inl (fun _ => 0)) := (Hc (j + 10) (by omega)).trans K10
  have K11 : c33 (j + 11) = .inl (kd 0, 40, .inl (fun _ => 0)) := (Hc (j + 11) (by omega)).trans K11
  have K12 : c33 (j + 12) = .inl (kd 0, 4, .inl (fun _ => 0)) := (Hc (j + 12) (by omega)).trans K12
  have K13 : c33 (j + 13) = .inl (kd 0, 4, .inl (fun _ => 0)) := (Hc (j + 13) (by omega)).trans K13
  have K14 : c33 (j + 14) = .inl (kd 0, 160, .inl (fun _ => 0)) := (Hc (j + 14) (by omega)).trans K14
  have K15 : c33 (j + 15) = .inl (kd 0, 40, .inl (fun _ => 0)) := (Hc (j + 15) (by omega)).trans K15
  have K1 : c33 (j + 1) = .inl (kd 0, 240, .inl (upd (fun _ => 0) 1 2)) := Kn
  refine n_aload_n h (i := 0) dX10_init_143 (q := 144) rfl rfl 0 rfl ?_
  refine n_get h (j := j) (k := 0) (v := .ref t1) cls10 (by omega) (HA j (Nat.le_refl j)) HO (Nat.le_of_ble_eq_true rfl) m849 rfl dX10_init_144 (q := 147) rfl ?_
  refine n_bipush h (v := 11) dX10_init_147 (q := 149) rfl (by decide) ?_
  refine n_iconst h (v := 1) dX10_init_149 (q := 150) rfl (by decide) ?_
  refine n_iast h (j := j + 1) (by omega) TA1 K1 (vp_in_nI (n := 11) (by decide) (by decide)) dX10_init_150 (q := 151) rfl (fun c34 Hc Kn => ?_)
  have HC : ∀ i, i < j → c34 i = c i := fun i hi => (Hc i (by omega)).trans (HC i hi)
  have HO : c34 j = .inr (10, [.ref t1, .ref t3, .ref t5, .int 0, .ref t7, .ref t9, .ref t11, .int 0, .int 0, .int 0, .int 0, .ref t15, .int 0, .ref t17, .ref t19, .ref t21, .ref t23, .int 0, .int 0, .ref t25, .ref t27, .ref t29, .ref t31]) := (Hc j (by omega)).trans HO
  have K2 : c34 (j + 2) = .inl (kd 0, 240, .inl (fun _ => 0)) := (Hc (j + 2) (by omega)).trans K2
  have K3 : c34 (j + 3) = .inl (kd 0, 240, .inl (fun _ => 0)) := (Hc (j + 3) (by omega)).trans K3
  have K4 : c34 (j + 4) = .inl (kd 0, 6, .inl (fun _ => 0)) := (Hc (j + 4) (by omega)).trans K4
  have K5 : c34 (j + 5) = .inl (kd 0, 2560, .inl (fun _ => 0)) := (Hc (j + 5) (by omega)).trans K5
  have K6 : c34 (j + 6) = xQ (kd 3) 2 (va_up (va_up (fun _ => none) 0 (some (ad (1010 + 0)))) 1 (some (ad (1010 + 1)))) := (Hc (j + 6) (by omega)).trans K6
  have K7 : c34 (j + 7) = .inl (kd 0, 60, .inl (fun _ => 0)) := (Hc (j + 7) (by omega)).trans K7
  have K8 : c34 (j + 8) = .inl (kd 0, 4, .inl (fun _ => 0)) := (Hc (j + 8) (by omega)).trans K8
  have K9 : c34 (j + 9) = .inl (kd 0, 60, .inl (fun _ => 0)) := (Hc (j + 9) (by omega)).trans K9
  have K10 : c34 (j + 10) = .inl (kd 0, 64, .inl (fun _ => 0)) := (Hc (j + 10) (by omega)).trans K10
  have K11 : c34 (j + 11) = .inl (kd 0, 40, .inl (fun _ => 0)) := (Hc (j + 11) (by omega)).trans K11
  have K12 : c34 (j + 12) = .inl (kd 0, 4, .inl (fun _ => 0)) := (Hc (j + 12) (by omega)).trans K12
  have K13 : c34 (j + 13) = .inl (kd 0, 4, .inl (fun _ => 0)) := (Hc (j + 13) (by omega)).trans K13
  have K14 : c34 (j + 14) = .inl (kd 0, 160, .inl (fun _ => 0)) := (Hc (j + 14) (by omega)).trans K14
  have K15 : c34 (j + 15) = .inl (kd 0, 40, .inl (fun _ => 0)) := (Hc (j + 15) (by omega)).trans K15
  have K1 : c34 (j + 1) = .inl (kd 0, 240, .inl (upd (upd (fun _ => 0) 1 2) 11 1)) := Kn
  exact n_ret h hr hlk dX10_init_151 ⟨HA, HC, (by rw [TA1, TA2, TA3, TA4, TA5, TA6, TA7, TA8, TA9, TA10, TA11, TA12, TA13, TA14, TA15]; exact HO), K1, K2, K3, K4, K5, K6, K7, K8, K9, K10, K11, K12, K13, K14, K15⟩
