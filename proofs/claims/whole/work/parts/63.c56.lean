def kOpera (kd : Nat → ClassId) (a : bAd) (j : Nat) (c : bC) : Prop := c j = .inr (9, [.ref (a (j + 1)), .ref (a (j + 10)), .ref (a (j + 19)), .ref (a (j + 22)), .ref (a (j + 31)), .ref (a (j + 40)), .int 0, .ref (a (j + 43)), .ref (a (j + 52)), .ref (a (j + 54)), .ref (a (j + 55)), .ref (a (j + 60)), .ref (a (j + 69)), .ref (a (j + 206))]) ∧ kLaws kd a (j + 1) c ∧ kScene kd a (j + 10) c ∧ kDesk kd a (j + 19) c ∧ kLaws kd a (j + 22) c ∧ kScene kd a (j + 31) c ∧ kDesk kd a (j + 40) c ∧ c (j + 43) = xQ (kd 1) 4 (va_up (va_up (va_up (va_up (fun _ => none) 0 (some (a (j + 44)))) 1 (some (a (j + 46)))) 2 (some (a (j + 48)))) 3 (some (a (j + 50)))) ∧ kSheet kd a (j + 44) c ∧ kSheet kd a (j + 46) c ∧ kSheet kd a (j + 48) c ∧ kSheet kd a (j + 50) c ∧ kVoices kd a (j + 52) c ∧ c (j + 54) = .inl (kd 0, 6, .inl (fun _ => 0)) ∧ kReader kd a (j + 55) c ∧ kScene kd a (j + 60) c ∧ kOutlook kd a (j + 69) c ∧ c (j + 206) = .inl (kd 0, 64, .inl (fun _ => 0))
set_option maxHeartbeats 4000000 in
set_option maxRecDepth 100000 in
theorem c_X9_init {D : va_G} {kd : Nat → ClassId} {ad : bAd} {B j : Nat} {a : bAd} {c : bC} (hc0 : c j = .inr (9, [.null, .null, .null, .null, .null, .null, .int 0, .null, .null, .null, .null, .null, .null, .null])) : MN yX9_init cX9_init { frames := 3, cells := 206, slots := 7301, locals := 60 } D kd ad B a c j (j + 207) 206 7301 (pK (kOpera kd) j a c) := by
  refine n_met (by decide) rfl (fun x h hin hr hlk => ?_)
  have HO := hc0
  have HA : ∀ i, i ≤ j → a i = a i := fun _ _ => rfl
  have HC : ∀ i, i < j → c i = c i := fun _ _ => rfl
  refine n_aload_n h (i := 0) dX9_init_0 (q := 1) rfl rfl 0 rfl ?_
  refine n_obj h m26 m27 m28 ⟨Nat.le_of_ble_eq_true rfl, Nat.le_of_ble_eq_true rfl⟩ dX9_init_1 (q := 4) rfl ?_
  refine n_aload_n h (i := 0) dX9_init_4 (q := 5) rfl rfl 0 rfl ?_
  refine n_new h (fs := [.int 0, .null, .null, .null, .null]) cls3 m29 m30 m2 (by decide) (Nat.le_of_ble_eq_true rfl) (Nat.le_of_ble_eq_true rfl) dX9_init_5 (q := 8) rfl (fun t1 a1 c1 T Ha Hc Kn => ?_)
  have HA : ∀ i, i ≤ j → a1 i = a i := fun i hi => (Ha i (by omega)).trans (HA i hi)
  have HC : ∀ i, i < j → c1 i = c i := fun i hi => (Hc i (by omega)).trans (HC i hi)
  have HO : c1 j = .inr (9, [.null, .null, .null, .null, .null, .null, .int 0, .null, .null, .null, .null, .null, .null, .null]) := (Hc j (by omega)).trans HO
  have TA1 : a1 (j + 1) = t1 := T
  have Z1 : c1 (j + 1) = .inr (3, [.int 0, .null, .null, .null, .null]) := Kn
  refine n_dup h dX9_init_8 (q := 9) rfl rfl ?_
  refine n_init h (j := j + 1) (c_X3_init Z1) cal_X3_init m32 m31 rfl TA1 ⟨rfl, rfl, Nat.le_of_ble_eq_true rfl, Nat.le_of_ble_eq_true rfl⟩ ⟨Nat.le_of_ble_eq_true rfl, Nat.le_of_ble_eq_true rfl⟩ (Nat.le_of_ble_eq_true rfl) dX9_init_9 (q := 12) rfl (fun a2 c2 P => ?_)
  obtain ⟨Ha, Hc, Kn⟩ := P
  have HA : ∀ i, i ≤ j → a2 i = a i := fun i hi => (Ha i (by omega)).trans (HA i hi)
  have HC : ∀ i, i < j → c2 i = c i := fun i hi => (Hc i (by omega)).trans (HC i hi)
  have HO : c2 j = .inr (9, [.null, .null, .null, .null, .null, .null, .int 0, .null, .null, .null, .null, .null, .null, .null]) := (Hc j (by omega)).trans HO
  have TA1 : a2 (j + 1) = t1 := (Ha (j + 1) (by omega)).trans TA1
  have K1 : kLaws kd a2 (j + 1) c2 := Kn
  refine n_putF h hin (j := j) (k := 0) cls9 (by omega) (HA j (Nat.le_refl j)) HO (Nat.le_of_ble_eq_true rfl) m265 rfl rfl ⟨rfl, rfl⟩ (Nat.le_of_ble_eq_true rfl) dX9_init_12 (q := 15) rfl (fun c3 Hc Kn => ?_)
  have HC : ∀ i, i < j → c3 i = c i := fun i hi => (Hc i (by omega)).trans (HC i hi)
  have HO : c3 j = .inr (9, [.ref t1, .null, .null, .null, .null, .null, .int 0, .null, .null, .null, .null, .null, .null, .null]) := Kn
  have K1 : kLaws kd a2 (j + 1) c3 := K1.at (fun i h1 h2 => rfl) (fun i h1 h2 => Hc i (by omega))
  refine n_aload_n h (i := 0) dX9_init_15 (q := 16) rfl rfl 0 rfl ?_
  refine n_new h (fs := [.int 0, .int 0, .int 0, .null, .int 0, .null, .null, .null]) cls6 m75 m76 m5 (by decide) (Nat.le_of_ble_eq_true rfl) (Nat.le_of_ble_eq_true rfl) dX9_init_16 (q := 19) rfl (fun t4 a4 c4 T Ha Hc Kn => ?_)
  have HA : ∀ i, i ≤ j → a4 i = a i := fun i hi => (Ha i (by omega)).trans (HA i hi)
  have HC : ∀ i, i < j → c4 i = c i := fun i hi => (Hc i (by omega)).trans (HC i hi)
  have HO : c4 j = .inr (9, [.ref t1, .null, .null, .null, .null, .null, .int 0, .null, .null, .null, .null, .null, .null, .null]) := (Hc j (by omega)).trans HO
  have TA1 : a4 (j + 1) = t1 := (Ha (j + 1) (by omega)).trans TA1
  have K1 : kLaws kd a4 (j + 1) c4 := K1.at (fun i h1 h2 => Ha i (by omega)) (fun i h1 h2 => Hc i (by omega))
  have TA10 : a4 (j + 10) = t4 := T
  have Z10 : c4 (j + 10) = .inr (6, [.int 0, .int 0, .int 0, .null, .int 0, .null, .null, .null]) := Kn
  refine n_dup h dX9_init_19 (q := 20) rfl rfl ?_
  refine n_initN h (j := j + 10) (c_X6_init Z10) cal_X6_init m78 m77 rfl TA10 ⟨rfl, rfl, Nat.le_of_ble_eq_true rfl, Nat.le_of_ble_eq_true rfl⟩ ⟨Nat.le_of_ble_eq_true rfl, Nat.le_of_ble_eq_true rfl⟩ (Nat.le_of_ble_eq_true rfl) dX9_init_20 (q := 23) rfl (fun a5 c5 P => ?_)
  obtain ⟨Ha, Hc, Kn⟩ := P
  have HA : ∀ i, i ≤ j → a5 i = a i := fun i hi => (Ha i (by omega)).trans (HA i hi)
  have HC : ∀ i, i < j → c5 i = c i := fun i hi => (Hc i (by omega)).trans (HC i hi)
  have HO : c5 j = .inr (9, [.ref t1, .null, .null, .null, .null, .null, .int 0, .null, .null, .null, .null, .null, .null, .null]) := (Hc j (by omega)).trans HO
  have TA1 : a5 (j + 1) = t1 := (Ha (j + 1) (by omega)).trans TA1
  have TA10 : a5 (j + 10) = t4 := (Ha (j + 10) (by omega)).trans TA10
  have K1 : kLaws kd a5 (j + 1) c5 := K1.at (fun i h1 h2 => Ha i (by omega)) (fun i h1 h2 => Hc i (by omega))
  have K10 : kScene kd a5 (j + 10) c5 := Kn
  refine n_putF h hin (j := j) (k := 1) cls9 (by omega) (HA j (Nat.le_refl j)) HO (Nat.le_of_ble_eq_true rfl) m266 rfl rfl ⟨rfl, rfl⟩ (Nat.le_of_ble_eq_true rfl) dX9_init_23 (q := 26) rfl (fun c6 Hc Kn => ?_)
  have HC : ∀ i, i < j → c6 i = c i := fun i hi => (Hc i (by omega)).trans (HC i hi)
  have HO : c6 j = .inr (9, [.ref t1, .ref t4, .null, .null, .null, .null, .int 0, .null, .null, .null, .null, .null, .null, .null]) := Kn
  have K1 : kLaws kd a5 (j + 1) c6 := K1.at (fun i h1 h2 => rfl) (fun i h1 h2 => Hc i (by omega))
  have K10 : kScene kd a5 (j + 10) c6 := K10.at (fun i h1 h2 => rfl) (fun i h1 h2 => Hc i (by omega))
  refine n_aload_n h (i := 0) dX9_init_26 (q := 27) rfl rfl 0 rfl ?_
  refine n_new h (fs := [.null, .int 0, .null, .int 0]) cls1 m145 m146 m7 (by decide) (Nat.le_of_ble_eq_true rfl) (Nat.le_of_ble_eq_true rfl) dX9_init_27 (q := 30) rfl (fun t7 a7 c7 T Ha Hc Kn => ?_)
  have HA : ∀ i, i ≤ j → a7 i = a i := fun i hi => (Ha i (by omega)).trans (HA i hi)
  have HC : ∀ i, i < j → c7 i = c i := fun i hi => (Hc i (by omega)).trans (HC i hi)
  have HO : c7 j = .inr (9, [.ref t1, .ref t4, .null, .null, .null, .null, .int 0, .null, .null, .null, .null, .null, .null, .null]) := (Hc j (by omega)).trans HO
  have TA1 : a7 (j + 1) = t1 := (Ha (j + 1) (by omega)).trans TA1
  have TA10 : a7 (j + 10) = t4 := (Ha (j + 10) (by omega)).trans TA10
  have K1 : kLaws kd a7 (j + 1) c7 := K1.at (fun i h1 h2 => Ha i (by omega)) (fun i h1 h2 => Hc i (by omega))
  have K10 : kScene kd a7 (j + 10) c7 := K10.at (fun i h1 h2 => Ha i (by omega)) (fun i h1 h2 => Hc i (by omega))
  have TA19 : a7 (j + 19) = t7 := T
  have Z19 : c7 (j + 19) = .inr (1, [.null, .int 0, .null, .int 0]) := Kn
  refine n_dup h dX9_init_30 (q := 31) rfl rfl ?_
  refine n_initN h (j := j + 19) (c_X1_init Z19) cal_X1_init m148 m147 rfl TA19 ⟨rfl, rfl, Nat.le_of_ble_eq_true rfl, Nat.le_of_ble_eq_true rfl⟩ ⟨Nat.le_of_ble_eq_true rfl, Nat.le_of_ble_eq_true rfl⟩ (Nat.le_of_ble_eq_true rfl) dX9_init_31 (q := 34) rfl (fun a8 c8 P => ?_)
  obtain ⟨Ha, Hc, Kn⟩ := P
  have HA : ∀ i, i ≤ j → a8 i = a i := fun i hi => (Ha i (by omega)).trans (HA i hi)
  have HC : ∀ i, i < j → c8 i = c i := fun i hi => (Hc i (by omega)).trans (HC i hi)
  have HO : c8 j = .inr (9, [.ref t1, .ref t4, .null, .null, .null, .null, .int 0, .null, .null, .null, .null, .null, .null, .null]) := (Hc j (by omega)).trans HO
  have TA1 : a8 (j + 1) = t1 := (Ha (j + 1) (by omega)).trans TA1
  have TA10 : a8 (j + 10) = t4 := (Ha (j + 10) (by omega)).trans TA10
  have TA19 : a8 (j + 19) = t7 := (Ha (j + 19) (by omega)).trans TA19
  have K1 : kLaws kd a8 (j + 1) c8 := K1.at (fun i h1 h2 => Ha i (by omega)) (fun i h1 h2 => Hc i (by omega))
  have K10 : kScene kd a8 (j + 10) c8 := K10.at (fun i h1 h2 => Ha i (by omega)) (fun i h1 h2 => Hc i (by omega))
  have K19 : kDesk kd a8 (j + 19) c8 := Kn
  refine n_putF h hin (j := j) (k := 2) cls9 (by omega) (HA j (Nat.le_refl j)) HO (Nat.le_of_ble_eq_true rfl) m267 rfl rfl ⟨rfl, rfl⟩ (Nat.le_of_ble_eq_true rfl) dX9_init_34 (q := 37) rfl (fun c9 Hc Kn => ?_)
  have HC : ∀ i, i < j → c9 i = c i := fun i hi => (Hc i (by omega)).trans (HC i hi)
  have HO : c9 j = .inr (9, [.ref t1, .ref t4, .ref t7, .null, .null, .null, .int 0, .null, .null, .null, .null, .null, .null, .null]) := Kn
  have K1 : kLaws kd a8 (j + 1) c9 := K1.at (fun i h1 h2 => rfl) (fun i h1 h2 => Hc i (by omega))
  have K10 : kScene kd a8 (j + 10) c9 := K10.at (fun i h1 h2 => rfl) (fun i h1 h2 => Hc i (by omega))
  have K19 : kDesk kd a8 (j + 19) c9 := K19.at (fun i h1 h2 => rfl) (fun i h1 h2 => Hc i (by omega))
  refine n_aload_n h (i := 0) dX9_init_37 (q := 38) rfl rfl 0 rfl ?_
  refine n_new h (fs := [.int 0, .null, .null, .null, .null]) cls3 m29 m30 m2 (by decide) (Nat.le_of_ble_eq_true rfl) (Nat.le_of_ble_eq_true rfl) dX9_init_38 (q := 41) rfl (fun t10 a10 c10 T Ha Hc Kn => ?_)
  have HA : ∀ i, i ≤ j → a10 i = a i := fun i hi => (Ha i (by omega)).trans (HA i hi)
  have HC : ∀ i, i < j → c10 i = c i := fun i hi => (Hc i (by omega)).trans (HC i hi)
  have HO : c10 j = .inr (9, [.ref t1, .ref t4, .ref t7, .null, .null, .null, .int 0, .null, .null, .null, .null, .null, .null, .null]) := (Hc j (by omega)).trans HO
  have TA1 : a10 (j + 1) = t1 := (Ha (j + 1) (by omega)).trans TA1
  have TA10 : a10 (j + 10) = t4 := (Ha (j + 10) (by omega)).trans TA10
  have TA19 : a10 (j + 19) = t7 := (Ha (j + 19) (by omega)).trans TA19
  have K1 : kLaws kd a10 (j + 1) c10 := K1.at (fun i h1 h2 => Ha i (by omega)) (fun i h1 h2 => Hc i (by omega))
  have K10 : kScene kd a10 (j + 10) c10 := K10.at (fun i h1 h2 => Ha i (by omega)) (fun i h1 h2 => Hc i (by omega))
  have K19 : kDesk kd a10 (j + 19) c10 := K19.at (fun i h1 h2 => Ha i (by omega)) (fun i h1 h2 => Hc i (by omega))
  have TA22 : a10 (j + 22) = t10 := T
  have Z22 : c10 (j + 22) = .inr (3, [.int 0, .null, .null, .null, .null]) := Kn
  refine n_dup h dX9_init_41 (q := 42) rfl rfl ?_
  refine n_init h (j := j + 22) (c_X3_init Z22) cal_X3_init m32 m31 rfl TA22 ⟨rfl, rfl, Nat.le_of_ble_eq_true rfl, Nat.le_of_ble_eq_true rfl⟩ ⟨Nat.le_of_ble_eq_true rfl, Nat.le_of_ble_eq_true rfl⟩ (Nat.le_of_ble_eq_true rfl) dX9_init_42 (q := 45) rfl (fun a11 c11 P => ?_)
  obtain ⟨Ha, Hc, Kn⟩ := P
  have HA : ∀ i, i ≤ j → a11 i = a i := fun i hi => (Ha i (by omega)).trans (HA i hi)
  have HC : ∀ i, i < j → c11 i = c i := fun i hi => (Hc i (by omega)).trans (HC i hi)
  have HO : c11 j = .inr (9, [.ref t1, .ref t4, .ref t7, .null, .null, .null, .int 0, .null, .null, .null, .null, .null, .null, .null]) := (Hc j (by omega)).trans HO
  have TA1 : a11 (j + 1) = t1 := (Ha (j + 1) (by omega)).trans TA1
  have TA10 : a11 (j + 10) = t4 := (Ha (j + 10) (by omega)).trans TA10
  have TA19 : a11 (j + 19) = t7 := (Ha (j + 19) (by omega)).trans TA19
  have TA22 : a11 (j + 22) = t10 := (Ha (j + 22) (by omega)).trans TA22
  have K1 : kLaws kd a11 (j + 1) c11 := K1.at (fun i h1 h2 => Ha i (by omega)) (fun i h1 h2 => Hc i (by omega))
  have K10 : kScene kd a11 (j + 10) c11 := K10.at (fun i h1 h2 => Ha i (by omega)) (fun i h1 h2 => Hc i (by omega))
  have K19 : kDesk kd a11 (j + 19) c11 := K19.at (fun i h1 h2 => Ha i (by omega)) (fun i h1 h2 => Hc i (by omega))
  have K22 : kLaws kd a11 (j + 22) c11 := Kn
  refine n_putF h hin (j := j) (k := 3) cls9 (by omega) (HA j (Nat.le_refl j)) HO (Nat.le_of_ble_eq_true rfl) m268 rfl rfl ⟨rfl, rfl⟩ (Nat.le_of_ble_eq_true rfl) dX9_init_45 (q := 48) rfl (fun c12 Hc Kn => ?_)
  have HC : ∀ i, i < j → c12 i = c i := fun i hi => (Hc i (by omega)).trans (HC i hi)
  have HO : c12 j = .inr (9, [.ref t1, .ref t4, .ref t7, .ref t10, .null, .null, .int 0, .null, .null, .null, .null, .null, .null, .null]) := Kn
  have K1 : kLaws kd a11 (j + 1) c12 := K1.at (fun i h1 h2 => rfl) (fun i h1 h2 => Hc i (by omega))
  have K10 : kScene kd a11 (j + 10) c12 := K10.at (fun i h1 h2 => rfl) (fun i h1 h2 => Hc i (by omega))
  have K19 : kDesk kd a11 (j + 19) c12 := K19.at (fun i h1 h2 => rfl) (fun i h1 h2 => Hc i (by omega))
  have K22 : kLaws kd a11 (j + 22) c12 := K22.at (fun i h1 h2 => rfl) (fun i h1 h2 => Hc i (by omega))
  refine n_aload_n h (i := 0) dX9_init_48 (q := 49) rfl rfl 0 rfl ?_
  refine n_new h (fs := [.int 0, .int 0, .int 0, .null, .int 0, .null, .null, .null]) cls6 m75 m76 m5 (by decide) (Nat.le_of_ble_eq_true rfl) (Nat.le_of_ble_eq_true rfl) dX9_init_49 (q := 52) rfl (fun t13 a13 c13 T Ha Hc Kn => ?_)
  have HA : ∀ i, i ≤ j → a13 i = a i := fun i hi => (Ha i (by omega)).trans (HA i hi)
  have HC : ∀ i, i < j → c13 i = c i := fun i hi => (Hc i (by omega)).trans (HC i hi)
  have HO : c13 j = .inr (9, [.ref t1, .ref t4, .ref t7, .ref t10, .null, .null, .int 0, .null, .null, .null, .null, .null, .null, .null]) := (Hc j (by omega)).trans HO
  have TA1 : a13 (j + 1) = t1 := (Ha (j + 1) (by omega)).trans TA1
  have TA10 : a13 (j + 10) = t4 := (Ha (j + 10) (by omega)).trans TA10
  have TA19 : a13 (j + 19) = t7 := (Ha (j + 19) (by omega)).trans TA19
  have TA22 : a13 (j + 22) = t10 := (Ha (j + 22) (by omega)).trans TA22
  have K1 : kLaws kd a13 (j + 1) c13 := K1.at (fun i h1 h2 => Ha i (by omega)) (fun i h1 h2 => Hc i (by omega))
  have K10 : kScene kd a13 (j + 10) c13 := K10.at (fun i h1 h2 => Ha i (by omega)) (fun i h1 h2 => Hc i (by omega))
  have K19 : kDesk kd a13 (j + 19) c13 := K19.at (fun i h1 h2 => Ha i (by omega)) (fun i h1 h2 => Hc i (by omega))
  have K22 : kLaws kd a13 (j + 22) c13 := K22.at (fun i h1 h2 => Ha i (by omega)) (fun i h1 h2 => Hc i (by omega))
  have TA31 : a13 (j + 31) = t13 := T
  have Z31 : c13 (j + 31) = .inr (6, [.int 0, .int 0, .int 0, .null, .int 0, .null, .null, .null]) := Kn
  refine n_dup h dX9_init_52 (q := 53) rfl rfl ?_
  refine n_initN h (j := j + 31) (c_X6_init Z31) cal_X6_init m78 m77 rfl TA31 ⟨rfl, rfl, Nat.le_of_ble_eq_true rfl, Nat.le_of_ble_eq_true rfl⟩ ⟨Nat.le_of_ble_eq_true rfl, Nat.le_of_ble_eq_true rfl⟩ (Nat.le_of_ble_eq_true rfl) dX9_init_53 (q := 56) rfl (fun a14 c14 P => ?_)
  obtain ⟨Ha, Hc, Kn⟩ := P
  have HA : ∀ i, i ≤ j → a14 i = a i := fun i hi => (Ha i (by omega)).trans (HA i hi)
  have HC : ∀ i, i < j → c14 i = c i := fun i hi => (Hc i (by omega)).trans (HC i hi)
  have HO : c14 j = .inr (9, [.ref t1, .ref t4, .ref t7, .ref t10, .null, .null, .int 0, .null, .null, .null, .null, .null, .null, .null]) := (Hc j (by omega)).trans HO
  have TA1 : a14 (j + 1) = t1 := (Ha (j + 1) (by omega)).trans TA1
  have TA10 : a14 (j + 10) = t4 := (Ha (j + 10) (by omega)).trans TA10
  have TA19 : a14 (j + 19) = t7 := (Ha (j + 19) (by omega)).trans TA19
  have TA22 : a14 (j + 22) = t10 := (Ha (j + 22) (by omega)).trans TA22
  have TA31 : a14 (j + 31) = t13 := (Ha (j + 31) (by omega)).trans TA31
  have K1 : kLaws kd a14 (j + 1) c14 := K1.at (fun i h1 h2 => Ha i (by omega)) (fun i h1 h2 => Hc i (by omega))
  have K10 : kScene kd a14 (j + 10) c14 := K10.at (fun i h1 h2 => Ha i (by omega)) (fun i h1 h2 => Hc i (by omega))
  have K19 : kDesk kd a14 (j + 19) c14 := K19.at (fun i h1 h2 => Ha i (by omega)) (fun i h1 h2 => Hc i (by omega))
  have K22 : kLaws kd a14 (j + 22) c14 := K22.at (fun i h1 h2 => Ha i (by omega)) (fun i h1 h2 => Hc i (by omega))
  have K31 : kScene kd a14 (j + 31) c14 := Kn
  refine n_putF h hin (j := j) (k := 4) cls9 (by omega) (HA j (Nat.le_refl j)) HO (Nat.le_of_ble_eq_true rfl) m269 rfl rfl ⟨rfl, rfl⟩ (Nat.le_of_ble_eq_true rfl) dX9_init_56 (q := 59) rfl (fun c15 Hc Kn => ?_)
  have HC : ∀ i, i < j → c15 i = c i := fun i hi => (Hc i (by omega)).trans (HC i hi)
  have HO : c15 j = .inr (9, [.ref t1, .ref t4, .ref t7, .ref t10, .ref t13, .null, .int 0, .null, .null, .null, .null, .null, .null, .null]) := Kn
  have K1 : kLaws kd a14 (j + 1) c15 := K1.at (fun i h1 h2 => rfl) (fun i h1 h2 => Hc i (by omega))
  have K10 : kScene kd a14 (j + 10) c15 := K10.at (fun i h1 h2 => rfl) (fun i h1 h2 => Hc i (by omega))
  have K19 : kDesk kd a14 (j + 19) c15 := K19.at (fun i h1 h2 => rfl) (fun i h1 h2 => Hc i (by omega))
  have K22 : kLaws kd a14 (j + 22) c15 := K22.at (fun i h1 h2 => rfl) (fun i h1 h2 => Hc i (by omega))
  have K31 : kScene kd a14 (j + 31) c15 := K31.at (fun i h1 h2 => rfl) (fun i h1 h2 => Hc i (by omega))
  refine n_aload_n h (i := 0) dX9_init_59 (q := 60) rfl rfl 0 rfl ?_
  refine n_new h (fs := [.null, .int 0, .null, .int 0]) cls1 m145 m146 m7 (by decide) (Nat.le_of_ble_eq_true rfl) (Nat.le_of_ble_eq_true rfl) dX9_init_60 (q := 63) rfl (fun t16 a16 c16 T Ha Hc Kn => ?_)
  have HA : ∀ i, i ≤ j → a16 i = a i := fun i hi => (Ha i (by omega)).trans (HA i hi)
  have HC : ∀ i, i < j → c16 i = c i := fun i hi => (Hc i (by omega)).trans (HC i hi)
  have HO : c16 j = .inr (9, [.ref t1, .ref t4, .ref t7, .ref t10, .ref t13, .null, .int 0, .null, .null, .null, .null, .null, .null, .null]) := (Hc j (by omega)).trans HO
  have TA1 : a16 (j + 1) = t1 := (Ha (j + 1) (by omega)).trans TA1
  have TA10 : a16 (j + 10) = t4 := (Ha (j + 10) (by omega)).trans TA10
  have TA19 : a16 (j + 19) = t7 := (Ha (j + 19) (by omega)).trans TA19
  have TA22 : a16 (j + 22) = t10 := (Ha (j + 22) (by omega)).trans TA22
  have TA31 : a16 (j + 31) = t13 := (Ha (j + 31) (by omega)).trans TA31
  have K1 : kLaws kd a16 (j + 1) c16 := K1.at (fun i h1 h2 => Ha i (by omega)) (fun i h1 h2 => Hc i (by omega))
  have K10 : kScene kd a16 (j + 10) c16 := K10.at (fun i h1 h2 => Ha i (by omega)) (fun i h1 h2 => Hc i (by omega))
  have K19 : kDesk kd a16 (j + 19) c16 := K19.at (fun i h1 h2 => Ha i (by omega)) (fun i h1 h2 => Hc i (by omega))
  have K22 : kLaws kd a16 (j + 22) c16 := K22.at (fun i h1 h2 => Ha i (by omega)) (fun i h1 h2 => Hc i (by omega))
  have K31 : kScene kd a16 (j + 31) c16 := K31.at (fun i h1 h2 => Ha i (by omega)) (fun i h1 h2 => Hc i (by omega))
  have TA40 : a16 (j + 40) = t16 := T
  have Z40 : c16 (j + 40) = .inr (1, [.null, .int 0, .null, .int 0]) := Kn
  refine n_dup h dX9_init_63 (q := 64) rfl rfl ?_
  refine n_initN h (j := j + 40) (c_X1_init Z40) cal_X1_init m148 m147 rfl TA40 ⟨rfl, rfl, Nat.le_of_ble_eq_true rfl, Nat.le_of_ble_eq_true rfl⟩ ⟨Nat.le_of_ble_eq_true rfl, Nat.le_of_ble_eq_true rfl⟩ (Nat.le_of_ble_eq_true rfl) dX9_init_64 (q := 67) rfl (fun a17 c17 P => ?_)
  obtain ⟨Ha, Hc, Kn⟩ := P
  have HA : ∀ i, i ≤ j → a17 i = a i := fun i hi => (Ha i (by omega)).trans (HA i hi)
  have HC : ∀ i, i < j → c17 i = c i := fun i hi => (Hc i (by omega)).trans (HC i hi)
  have HO : c17 j = .inr (9, [.ref t1, .ref t4, .ref t7, .ref t10, .ref t13, .null, .int 0, .null, .null, .null, .null, .null, .null, .null]) := (Hc j (by omega)).trans HO
  have TA1 : a17 (j + 1) = t1 := (Ha (j + 1) (by omega)).trans TA1
  have TA10 : a17 (j + 10) = t4 := (Ha (j + 10) (by omega)).trans TA10
  have TA19 : a17 (j + 19) = t7 := (Ha (j + 19) (by omega)).trans TA19
  have TA22 : a17 (j + 22) = t10 := (Ha (j + 22) (by omega)).trans TA22
  have TA31 : a17 (j + 31) = t13 := (Ha (j + 31) (by omega)).trans TA31
  have TA40 : a17 (j + 40) = t16 := (Ha (j + 40) (by omega)).trans TA40
  have K1 : kLaws kd a17 (j + 1) c17 := K1.at (fun i h1 h2 => Ha i (by omega)) (fun i h1 h2 => Hc i (by omega))
  have K10 : kScene kd a17 (j + 10) c17 := K10.at (fun i h1 h2 => Ha i (by omega)) (fun i h1 h2 => Hc i (by omega))
  have K19 : kDesk kd a17 (j + 19) c17 := K19.at (fun i h1 h2 => Ha i (by omega)) (fun i h1 h2 => Hc i (by omega))
  have K22 : kLaws kd a17 (j + 22) c17 := K22.at (fun i h1 h2 => Ha i (by omega)) (fun i h1 h2 => Hc i (by omega))
  have K31 : kScene kd a17 (j + 31) c17 := K31.at (fun i h1 h2 => Ha i (by omega)) (fun i h1 h2 => Hc i (by omega))
  have K40 : kDesk kd a17 (j + 40) c17 := Kn
  refine n_putF h hin (j := j) (k := 5) cls9 (by omega) (HA j (Nat.le_refl j)) HO (Nat.le_of_ble_eq_true rfl) m270 rfl rfl ⟨rfl, rfl⟩ (Nat.le_of_ble_eq_true rfl) dX9_init_67 (q := 70) rfl (fun c18 Hc Kn => ?_)
  have HC : ∀ i, i < j → c18 i = c i := fun i hi => (Hc i (by omega)).trans (HC i hi)
  have HO : c18 j = .inr (9, [.ref t1, .ref t4, .ref t7, .ref t10, .ref t13, .ref t16, .int 0, .null, .null, .null, .null, .null, .null, .null]) := Kn
  have K1 : kLaws kd a17 (j + 1) c18 := K1.at (fun i h1 h2 => rfl) (fun i h1 h2 => Hc i (by omega))
  have K10 : kScene kd a17 (j + 10) c18 := K10.at (fun i h1 h2 => rfl) (fun i h1 h2 => Hc i (by omega))
  have K19 : kDesk kd a17 (j + 19) c18 := K19.at (fun i h1 h2 => rfl) (fun i h1 h2 => Hc i (by omega))
  have K22 : kLaws kd a17 (j + 22) c18 := K22.at (fun i h1 h2 => rfl) (fun i h1 h2 => Hc i (by omega))
  have K31 : kScene kd a17 (j + 31) c18 := K31.at (fun i h1 h2 => rfl) (fun i h1 h2 => Hc i (by omega))
  have K40 : kDesk kd a17 (j + 40) c18 := K40.at (fun i h1 h2 => rfl) (fun i h1 h2 => Hc i (by omega))
  refine n_aload_n h (i := 0) dX9_init_70 (q := 71) rfl rfl 0 rfl ?_
  refine n_iconst h (v := 4) dX9_init_71 (q := 72) rfl (by decide) ?_
  refine n_anew h (N := 4) (t0 := 1) m168 h.kn.2.2.2.1 rfl (by decide) (by decide) (by decide) (Nat.le_of_ble_eq_true rfl) (Nat.le_of_ble_eq_true rfl) (Nat.le_of_ble_eq_true rfl) dX9_init_72 (q := 75) rfl (fun t19 a19 c19 T Ha Hc Kn => ?_)
  have HA : ∀ i, i ≤ j → a19 i = a i := fun i hi => (Ha i (by omega)).trans (HA i hi)
  have HC : ∀ i, i < j → c19 i = c i := fun i hi => (Hc i (by omega)).trans (HC i hi)
  have HO : c19 j = .inr (9, [.ref t1, .ref t4, .ref t7, .ref t10, .ref t13, .ref t16, .int 0, .null, .null, .null, .null, .null, .null, .null]) := (Hc j (by omega)).trans HO
  have TA1 : a19 (j + 1) = t1 := (Ha (j + 1) (by omega)).trans TA1
  have TA10 : a19 (j + 10) = t4 := (Ha (j + 10) (by omega)).trans TA10
  have TA19 : a19 (j + 19) = t7 := (Ha (j + 19) (by omega)).trans TA19
  have TA22 : a19 (j + 22) = t10 := (Ha (j + 22) (by omega)).trans TA22
  have TA31 : a19 (j + 31) = t13 := (Ha (j + 31) (by omega)).trans TA31
  have TA40 : a19 (j + 40) = t16 := (Ha (j + 40) (by omega)).trans TA40
  have K1 : kLaws kd a19 (j + 1) c19 := K1.at (fun i h1 h2 => Ha i (by omega)) (fun i h1 h2 => Hc i (by omega))
  have K10 : kScene kd a19 (j + 10) c19 := K10.at (fun i h1 h2 => Ha i (by omega)) (fun i h1 h2 => Hc i (by omega))
  have K19 : kDesk kd a19 (j + 19) c19 := K19.at (fun i h1 h2 => Ha i (by omega)) (fun i h1 h2 => Hc i (by omega))
  have K22 : kLaws kd a19 (j + 22) c19 := K22.at (fun i h1 h2 => Ha i (by omega)) (fun i h1 h2 => Hc i (by omega))
  have K31 : kScene kd a19 (j + 31) c19 := K31.at (fun i h1 h2 => Ha i (by omega)) (fun i h1 h2 => Hc i (by omega))
  have K40 : kDesk kd a19 (j + 40) c19 := K40.at (fun i h1 h2 => Ha i (by omega)) (fun i h1 h2 => Hc i (by omega))
  have TA43 : a19 (j + 43) = t19 := T
  have K43 : c19 (j + 43) = xQ (kd 1) 4 (fun _ => none) := Kn
  refine n_dup h dX9_init_75 (q := 76) rfl rfl ?_
  refine n_iconst h (v := 0) dX9_init_76 (q := 77) rfl (by decide) ?_
  refine n_new h (fs := [.int 0, .int 0, .null]) cls7 m168 m170 m8 (by decide) (Nat.le_of_ble_eq_true rfl) (Nat.le_of_ble_eq_true rfl) dX9_init_77 (q := 80) rfl (fun t20 a20 c20 T Ha Hc Kn => ?_)
  have HA : ∀ i, i ≤ j → a20 i = a i := fun i hi => (Ha i (by omega)).trans (HA i hi)
  have HC : ∀ i, i < j → c20 i = c i := fun i hi => (Hc i (by omega)).trans (HC i hi)
  have HO : c20 j = .inr (9, [.ref t1, .ref t4, .ref t7, .ref t10, .ref t13, .ref t16, .int 0, .null, .null, .null, .null, .null, .null, .null]) := (Hc j (by omega)).trans HO
  have TA1 : a20 (j + 1) = t1 := (Ha (j + 1) (by omega)).trans TA1
  have TA10 : a20 (j + 10) = t4 := (Ha (j + 10) (by omega)).trans TA10
  have TA19 : a20 (j + 19) = t7 := (Ha (j + 19) (by omega)).trans TA19
  have TA22 : a20 (j + 22) = t10 := (Ha (j + 22) (by omega)).trans TA22
  have TA31 : a20 (j + 31) = t13 := (Ha (j + 31) (by omega)).trans TA31
  have TA40 : a20 (j + 40) = t16 := (Ha (j + 40) (by omega)).trans TA40
  have TA43 : a20 (j + 43) = t19 := (Ha (j + 43) (by omega)).trans TA43
  have K1 : kLaws kd a20 (j + 1) c20 := K1.at (fun i h1 h2 => Ha i (by omega)) (fun i h1 h2 => Hc i (by omega))
  have K10 : kScene kd a20 (j + 10) c20 := K10.at (fun i h1 h2 => Ha i (by omega)) (fun i h1 h2 => Hc i (by omega))
  have K19 : kDesk kd a20 (j + 19) c20 := K19.at (fun i h1 h2 => Ha i (by omega)) (fun i h1 h2 => Hc i (by omega))
  have K22 : kLaws kd a20 (j + 22) c20 := K22.at (fun i h1 h2 => Ha i (by omega)) (fun i h1 h2 => Hc i (by omega))
  have K31 : kScene kd a20 (j + 31) c20 := K31.at (fun i h1 h2 => Ha i (by omega)) (fun i h1 h2 => Hc i (by omega))
  have K40 : kDesk kd a20 (j + 40) c20 := K40.at (fun i h1 h2 => Ha i (by omega)) (fun i h1 h2 => Hc i (by omega))
  have K43 : c20 (j + 43) = xQ (kd 1) 4 (fun _ => none) := (Hc (j + 43) (by omega)).trans K43
  have TA44 : a20 (j + 44) = t20 := T
  have Z44 : c20 (j + 44) = .inr (7, [.int 0, .int 0, .null]) := Kn
  refine n_dup h dX9_init_80 (q := 81) rfl rfl ?_
  refine n_initN h (j := j + 44) (c_X7_init Z44) cal_X7_init m172 m171 rfl TA44 ⟨rfl, rfl, Nat.le_of_ble_eq_true rfl, Nat.le_of_ble_eq_true rfl⟩ ⟨Nat.le_of_ble_eq_true rfl, Nat.le_of_ble_eq_true rfl⟩ (Nat.le_of_ble_eq_true rfl) dX9_init_81 (q := 84) rfl (fun a21 c21 P => ?_)
  obtain ⟨Ha, Hc, Kn⟩ := P
  have HA : ∀ i, i ≤ j → a21 i = a i := fun i hi => (Ha i (by omega)).trans (HA i hi)
  have HC : ∀ i, i < j → c21 i = c i := fun i hi => (Hc i (by omega)).trans (HC i hi)
  have HO : c21 j = .inr (9, [.ref t1, .ref t4, .ref t7, .ref t10, .ref t13, .ref t16, .int 0, .null, .null, .null, .null, .null, .null, .null]) := (Hc j (by omega)).trans HO
  have TA1 : a21 (j + 1) = t1 := (Ha (j + 1) (by omega)).trans TA1
  have TA10 : a21 (j + 10) = t4 := (Ha (j + 10) (by omega)).trans TA10
  have TA19 : a21 (j + 19) = t7 := (Ha (j + 19) (by omega)).trans TA19
  have TA22 : a21 (j + 22) = t10 := (Ha (j + 22) (by omega)).trans TA22
  have TA31 : a21 (j + 31) = t13 := (Ha (j + 31) (by omega)).trans TA31
  have TA40 : a21 (j + 40) = t16 := (Ha (j + 40) (by omega)).trans TA40
  have TA43 : a21 (j + 43) = t19 := (Ha (j + 43) (by omega)).trans TA43
  have TA44 : a21 (j + 44) = t20 := (Ha (j + 44) (by omega)).trans TA44
  have K1 : kLaws kd a21 (j + 1) c21 := K1.at (fun i h1 h2 => Ha i (by omega)) (fun i h1 h2 => Hc i (by omega))
  have K10 : kScene kd a21 (j + 10) c21 := K10.at (fun i h1 h2 => Ha i (by omega)) (fun i h1 h2 => Hc i (by omega))
  have K19 : kDesk kd a21 (j + 19) c21 := K19.at (fun i h1 h2 => Ha i (by omega)) (fun i h1 h2 => Hc i (by omega))
  have K22 : kLaws kd a21 (j + 22) c21 := K22.at (fun i h1 h2 => Ha i (by omega)) (fun i h1 h2 => Hc i (by omega))
  have K31 : kScene kd a21 (j + 31) c21 := K31.at (fun i h1 h2 => Ha i (by omega)) (fun i h1 h2 => Hc i (by omega))
  have K40 : kDesk kd a21 (j + 40) c21 := K40.at (fun i h1 h2 => Ha i (by omega)) (fun i h1 h2 => Hc i (by omega))
  have K43 : c21 (j + 43) = xQ (kd 1) 4 (fun _ => none) := (Hc (j + 43) (by omega)).trans K43
  have K44 : kSheet kd a21 (j + 44) c21 := Kn
  refine n_aast h (t0 := 1) (j := j + 43) (jv := j + 44) (by omega) TA43 K43 rfl (by omega) TA44 K44.1 rfl (vp_in_nI (n := 0) (by decide) (by decide)) dX9_init_84 (q := 85) rfl (fun c22 Hc Kn => ?_)
  have HC : ∀ i, i < j → c22 i = c i := fun i hi => (Hc i (by omega)).trans (HC i hi)
  have HO : c22 j = .inr (9, [.ref t1, .ref t4, .ref t7, .ref t10, .ref t13, .ref t16, .int 0, .null, .null, .null, .null, .null, .null, .null]) := (Hc j (by omega)).trans HO
  have K1 : kLaws kd a21 (j + 1) c22 := K1.at (fun i h1 h2 => rfl) (fun i h1 h2 => Hc i (by omega))
  have K10 : kScene kd a21 (j + 10) c22 := K10.at (fun i h1 h2 => rfl) (fun i h1 h2 => Hc i (by omega))
  have K19 : kDesk kd a21 (j + 19) c22 := K19.at (fun i h1 h2 => rfl) (fun i h1 h2 => Hc i (by omega))
  have K22 : kLaws kd a21 (j + 22) c22 := K22.at (fun i h1 h2 => rfl) (fun i h1 h2 => Hc i (by omega))
  have K31 : kScene kd a21 (j + 31) c22 := K31.at (fun i h1 h2 => rfl) (fun i h1 h2 => Hc i (by omega))
  have K40 : kDesk kd a21 (j + 40) c22 := K40.at (fun i h1 h2 => rfl) (fun i h1 h2 => Hc i (by omega))
  have K44 : kSheet kd a21 (j + 44) c22 := K44.at (fun i h1 h2 => rfl) (fun i h1 h2 => Hc i (by omega))
  have K43 : c22 (j + 43) = xQ (kd 1) 4 (va_up (fun _ => none) 0 (some t20)) := Kn
  refine n_dup h dX9_init_85 (q := 86) rfl rfl ?_
  refine n_iconst h (v := 1) dX9_init_86 (q := 87) rfl (by decide) ?_
  refine n_new h (fs := [.int 0, .int 0, .null]) cls7 m168 m170 m8 (by decide) (Nat.le_of_ble_eq_true rfl) (Nat.le_of_ble_eq_true rfl) dX9_init_87 (q := 90) rfl (fun t23 a23 c23 T Ha Hc Kn => ?_)
  have HA : ∀ i, i ≤ j → a23 i = a i := fun i hi => (Ha i (by omega)).trans (HA i hi)
  have HC : ∀ i, i < j → c23 i = c i := fun i hi => (Hc i (by omega)).trans (HC i hi)
  have HO : c23 j = .inr (9, [.ref t1, .ref t4, .ref t7, .ref t10, .ref t13, .ref t16, .int 0, .null, .null, .null, .null, .null, .null, .null]) := (Hc j (by omega)).trans HO
  have TA1 : a23 (j + 1) = t1 := (Ha (j + 1) (by omega)).trans TA1
  have TA10 : a23 (j + 10) = t4 := (Ha (j + 10) (by omega)).trans TA10
  have TA19 : a23 (j + 19) = t7 := (Ha (j + 19) (by omega)).trans TA19
  have TA22 : a23 (j + 22) = t10 := (Ha (j + 22) (by omega)).trans TA22
  have TA31 : a23 (j + 31) = t13 := (Ha (j + 31) (by omega)).trans TA31
  have TA40 : a23 (j + 40) = t16 := (Ha (j + 40) (by omega)).trans TA40
  have TA43 : a23 (j + 43) = t19 := (Ha (j + 43) (by omega)).trans TA43
  have TA44 : a23 (j + 44) = t20 := (Ha (j + 44) (by omega)).trans TA44
  have K1 : kLaws kd a23 (j + 1) c23 := K1.at (fun i h1 h2 => Ha i (by omega)) (fun i h1 h2 => Hc i (by omega))
  have K10 : kScene kd a23 (j + 10) c23 := K10.at (fun i h1 h2 => Ha i (by omega)) (fun i h1 h2 => Hc i (by omega))
  have K19 : kDesk kd a23 (j + 19) c23 := K19.at (fun i h1 h2 => Ha i (by omega)) (fun i h1 h2 => Hc i (by omega))
  have K22 : kLaws kd a23 (j + 22) c23 := K22.at (fun i h1 h2 => Ha i (by omega)) (fun i h1 h2 => Hc i (by omega))
  have K31 : kScene kd a23 (j + 31) c23 := K31.at (fun i h1 h2 => Ha i (by omega)) (fun i h1 h2 => Hc i (by omega))
  have K40 : kDesk kd a23 (j + 40) c23 := K40.at (fun i h1 h2 => Ha i (by omega)) (fun i h1 h2 => Hc i (by omega))
  have K44 : kSheet kd a23 (j + 44) c23 := K44.at (fun i h1 h2 => Ha i (by omega)) (fun i h1 h2 => Hc i (by omega))
  have K43 : c23 (j + 43) = xQ (kd 1) 4 (va_up (fun _ => none) 0 (some t20)) := (Hc (j + 43) (by omega)).trans K43
  have TA46 : a23 (j + 46) = t23 := T
  have Z46 : c23 (j + 46) = .inr (7, [.int 0, .int 0, .null]) := Kn
  refine n_dup h dX9_init_90 (q := 91) rfl rfl ?_
  refine n_initN h (j := j + 46) (c_X7_init Z46) cal_X7_init m172 m171 rfl TA46 ⟨rfl, rfl, Nat.le_of_ble_eq_true rfl, Nat.le_of_ble_eq_true rfl⟩ ⟨Nat.le_of_ble_eq_true rfl, Nat.le_of_ble_eq_true rfl⟩ (Nat.le_of_ble_eq_true rfl) dX9_init_91 (q := 94) rfl (fun a24 c24 P => ?_)
  obtain ⟨Ha, Hc, Kn⟩ := P
  have HA : ∀ i, i ≤ j → a24 i = a i := fun i hi => (Ha i (by omega)).trans (HA i hi)
  have HC : ∀ i, i < j → c24 i = c i := fun i hi => (Hc i (by omega)).trans (HC i hi)
  have HO : c24 j = .inr (9, [.ref t1, .ref t4, .ref t7, .ref t10, .ref t13, .ref t16, .int 0, .null, .null, .null, .null, .null, .null, .null]) := (Hc j (by omega)).trans HO
  have TA1 : a24 (j + 1) = t1 := (Ha (j + 1) (by omega)).trans TA1
  have TA10 : a24 (j + 10) = t4 := (Ha (j + 10) (by omega)).trans TA10
  have TA19 : a24 (j + 19) = t7 := (Ha (j + 19) (by omega)).trans TA19
  have TA22 : a24 (j + 22) = t10 := (Ha (j + 22) (by omega)).trans TA22
  have TA31 : a24 (j + 31) = t13 := (Ha (j + 31) (by omega)).trans TA31
  have TA40 : a24 (j + 40) = t16 := (Ha (j + 40) (by omega)).trans TA40
  have TA43 : a24 (j + 43) = t19 := (Ha (j + 43) (by omega)).trans TA43
  have TA44 : a24 (j + 44) = t20 := (Ha (j + 44) (by omega)).trans TA44
  have TA46 : a24 (j + 46) = t23 := (Ha (j + 46) (by omega)).trans TA46
  have K1 : kLaws kd a24 (j + 1) c24 := K1.at (fun i h1 h2 => Ha i (by omega)) (fun i h1 h2 => Hc i (by omega))
  have K10 : kScene kd a24 (j + 10) c24 := K10.at (fun i h1 h2 => Ha i (by omega)) (fun i h1 h2 => Hc i (by omega))
  have K19 : kDesk kd a24 (j + 19) c24 := K19.at (fun i h1 h2 => Ha i (by omega)) (fun i h1 h2 => Hc i (by omega))
  have K22 : kLaws kd a24 (j + 22) c24 := K22.at (fun i h1 h2 => Ha i (by omega)) (fun i h1 h2 => Hc i (by omega))
  have K31 : kScene kd a24 (j + 31) c24 := K31.at (fun i h1 h2 => Ha i (by omega)) (fun i h1 h2 => Hc i (by omega))
  have K40 : kDesk kd a24 (j + 40) c24 := K40.at (fun i h1 h2 => Ha i (by omega)) (fun i h1 h2 => Hc i (by omega))
  have K44 : kSheet kd a24 (j + 44) c24 := K44.at (fun i h1 h2 => Ha i (by omega)) (fun i h1 h2 => Hc i (by omega))
  have K43 : c24 (j + 43) = xQ (kd 1) 4 (va_up (fun _ => none) 0 (some t20)) := (Hc (j + 43) (by omega)).trans K43
  have K46 : kSheet kd a24 (j + 46) c24 := Kn
  refine n_aast h (t0 := 1) (j := j + 43) (jv := j + 46) (by omega) TA43 K43 rfl (by omega) TA46 K46.1 rfl (vp_in_nI (n := 1) (by decide) (by decide)) dX9_init_94 (q := 95) rfl (fun c25 Hc Kn => ?_)
  have HC : ∀ i, i < j → c25 i = c i := fun i hi => (Hc i (by omega)).trans (HC i hi)
  have HO : c25 j = .inr (9, [.ref t1, .ref t4, .ref t7, .ref t10, .ref t13, .ref t16, .int 0, .null, .null, .null, .null, .null, .null, .null]) := (Hc j (by omega)).trans HO
  have K1 : kLaws kd a24 (j + 1) c25 := K1.at (fun i h1 h2 => rfl) (fun i h1 h2 => Hc i (by omega))
  have K10 : kScene kd a24 (j + 10) c25 := K10.at (fun i h1 h2 => rfl) (fun i h1 h2 => Hc i (by omega))
  have K19 : kDesk kd a24 (j + 19) c25 := K19.at (fun i h1 h2 => rfl) (fun i h1 h2 => Hc i (by omega))
  have K22 : kLaws kd a24 (j + 22) c25 := K22.at (fun i h1 h2 => rfl) (fun i h1 h2 => Hc i (by omega))
  have K31 : kScene kd a24 (j + 31) c25 := K31.at (fun i h1 h2 => rfl) (fun i h1 h2 => Hc i (by omega))
  have K40 : kDesk kd a24 (j + 40) c25 := K40.at (fun i h1 h2 => rfl) (fun i h1 h2 => Hc i (by omega))
  have K44 : kSheet kd a24 (j + 44) c25 := K44.at (fun i h1 h2 => rfl) (fun i h1 h2 => Hc i (by omega))
  have K46 : kSheet kd a24 (j + 46) c25 := K46.at (fun i h1 h2 => rfl) (fun i h1 h2 => Hc i (by omega))
  have K43 : c25 (j + 43) = xQ (kd 1) 4 (va_up (va_up (fun _ => none) 0 (some t20)) 1 (some t23)) := Kn
  refine n_dup h dX9_init_95 (q := 96) rfl rfl ?_
  refine n_iconst h (v := 2) dX9_init_96 (q := 97) rfl (by decide) ?_
  refine n_new h (fs := [.int 0, .int 0, .null]) cls7 m168 m170 m8 (by decide) (Nat.le_of_ble_eq_true rfl) (Nat.le_of_ble_eq_true rfl) dX9_init_97 (q := 100) rfl (fun t26 a26 c26 T Ha Hc Kn => ?_)
  have HA : ∀ i, i ≤ j → a26 i = a i := fun i hi => (Ha i (by omega)).trans (HA i hi)
  have HC : ∀ i, i < j → c26 i = c i := fun i hi => (Hc i (by omega)).trans (HC i hi)
  have HO : c26 j = .inr (9, [.ref t1, .ref t4, .ref t7, .ref t10, .ref t13, .ref t16, .int 0, .null, .null, .null, .null, .null, .null, .null]) := (Hc j (by omega)).trans HO
  have TA1 : a26 (j + 1) = t1 := (Ha (j + 1) (by omega)).trans TA1
  have TA10 : a26 (j + 10) = t4 := (Ha (j + 10) (by omega)).trans TA10
  have TA19 : a26 (j + 19) = t7 := (Ha (j + 19) (by omega)).trans TA19
  have TA22 : a26 (j + 22) = t10 := (Ha (j + 22) (by omega)).trans TA22
  have TA31 : a26 (j + 31) = t13 := (Ha (j + 31) (by omega)).trans TA31
  have TA40 : a26 (j + 40) = t16 := (Ha (j + 40) (by omega)).trans TA40
  have TA43 : a26 (j + 43) = t19 := (Ha (j + 43) (by omega)).trans TA43
  have TA44 : a26 (j + 44) = t20 := (Ha (j + 44) (by omega)).trans TA44
  have TA46 : a26 (j + 46) = t23 := (Ha (j + 46) (by omega)).trans TA46
  have K1 : kLaws kd a26 (j + 1) c26 := K1.at (fun i h1 h2 => Ha i (by omega)) (fun i h1 h2 => Hc i (by omega))
  have K10 : kScene kd a26 (j + 10) c26 := K10.at (fun i h1 h2 => Ha i (by omega)) (fun i h1 h2 => Hc i (by omega))
  have K19 : kDesk kd a26 (j + 19) c26 := K19.at (fun i h1 h2 => Ha i (by omega)) (fun i h1 h2 => Hc i (by omega))
  have K22 : kLaws kd a26 (j + 22) c26 := K22.at (fun i h1 h2 => Ha i (by omega)) (fun i h1 h2 => Hc i (by omega))
  have K31 : kScene kd a26 (j + 31) c26 := K31.at (fun i h1 h2 => Ha i (by omega)) (fun i h1 h2 => Hc i (by omega))
  have K40 : kDesk kd a26 (j + 40) c26 := K40.at (fun i h1 h2 => Ha i (by omega)) (fun i h1 h2 => Hc i (by omega))
  have K44 : kSheet kd a26 (j + 44) c26 := K44.at (fun i h1 h2 => Ha i (by omega)) (fun i h1 h2 => Hc i (by omega))
  have K46 : kSheet kd a26 (j + 46) c26 := K46.at (fun i h1 h2 => Ha i (by omega)) (fun i h1 h2 => Hc i (by omega))
  have K43 : c26 (j + 43) = xQ (kd 1) 4 (va_up (va_up (fun _ => none) 0 (some t20)) 1 (some t23)) := (Hc (j + 43) (by omega)).trans K43
  have TA48 : a26 (j + 48) = t26 := T
  have Z48 : c26 (j + 48) = .inr (7, [.int 0, .int 0, .null]) := Kn
  refine n_dup h dX9_init_100 (q := 101) rfl rfl ?_
  refine n_initN h (j := j + 48) (c_X7_init Z48) cal_X7_init m172 m171 rfl TA48 ⟨rfl, rfl, Nat.le_of_ble_eq_true rfl, Nat.le_of_ble_eq_true rfl⟩ ⟨Nat.le_of_ble_eq_true rfl, Nat.le_of_ble_eq_true rfl⟩ (Nat.le_of_ble_eq_true rfl) dX9_init_101 (q := 104) rfl (fun a27 c27 P => ?_)
  obtain ⟨Ha, Hc, Kn⟩ := P
  have HA : ∀ i, i ≤ j → a27 i = a i := fun i hi => (Ha i (by omega)).trans (HA i hi)
  have HC : ∀ i, i < j → c27 i = c i := fun i hi => (Hc i (by omega)).trans (HC i hi)
  have HO : c27 j = .inr (9, [.ref t1, .ref t4, .ref t7, .ref t10, .ref t13, .ref t16, .int 0, .null, .null, .null, .null, .null, .null, .null]) := (Hc j (by omega)).trans HO
  have TA1 : a27 (j + 1) = t1 := (Ha (j + 1) (by omega)).trans TA1
  have TA10 : a27 (j + 10) = t4 := (Ha (j + 10) (by omega)).trans TA10
  have TA19 : a27 (j + 19) = t7 := (Ha (j + 19) (by omega)).trans TA19
  have TA22 : a27 (j + 22) = t10 := (Ha (j + 22) (by omega)).trans TA22
  have TA31 : a27 (j + 31) = t13 := (Ha (j + 31) (by omega)).trans TA31
  have TA40 : a27 (j + 40) = t16 := (Ha (j + 40) (by omega)).trans TA40
  have TA43 : a27 (j + 43) = t19 := (Ha (j + 43) (by omega)).trans TA43
  have TA44 : a27 (j + 44) = t20 := (Ha (j + 44) (by omega)).trans TA44
  have TA46 : a27 (j + 46) = t23 := (Ha (j + 46) (by omega)).trans TA46
  have TA48 : a27 (j + 48) = t26 := (Ha (j + 48) (by omega)).trans TA48
  have K1 : kLaws kd a27 (j + 1) c27 := K1.at (fun i h1 h2 => Ha i (by omega)) (fun i h1 h2 => Hc i (by omega))
  have K10 : kScene kd a27 (j + 10) c27 := K10.at (fun i h1 h2 => Ha i (by omega)) (fun i h1 h2 => Hc i (by omega))
  have K19 : kDesk kd a27 (j + 19) c27 := K19.at (fun i h1 h2 => Ha i (by omega)) (fun i h1 h2 => Hc i (by omega))
  have K22 : kLaws kd a27 (j + 22) c27 := K22.at (fun i h1 h2 => Ha i (by omega)) (fun i h1 h2 => Hc i (by omega))
  have K31 : kScene kd a27 (j + 31) c27 := K31.at (fun i h1 h2 => Ha i (by omega)) (fun i h1 h2 => Hc i (by omega))
  have K40 : kDesk kd a27 (j + 40) c27 := K40.at (fun i h1 h2 => Ha i (by omega)) (fun i h1 h2 => Hc i (by omega))
  have K44 : kSheet kd a27 (j + 44) c27 := K44.at (fun i h1 h2 => Ha i (by omega)) (fun i h1 h2 => Hc i (by omega))
  have K46 : kSheet kd a27 (j + 46) c27 := K46.at (fun i h1 h2 => Ha i (by omega)) (fun i h1 h2 => Hc i (by omega))
  have K43 : c27 (j + 43) = xQ (kd 1) 4 (va_up (va_up (fun _ => none) 0 (some t20)) 1 (some t23)) := (Hc (j + 43) (by omega)).trans K43
  have K48 : kSheet kd a27 (j + 48) c27 := Kn
  refine n_aast h (t0 := 1) (j := j + 43) (jv := j + 48) (by omega) TA43 K43 rfl (by omega) TA48 K48.1 rfl (vp_in_nI (n := 2) (by decide) (by decide)) dX9_init_104 (q := 105) rfl (fun c28 Hc Kn => ?_)
  have HC : ∀ i, i < j → c28 i = c i := fun i hi => (Hc i (by omega)).trans (HC i hi)
  have HO : c28 j = .inr (9, [.ref t1, .ref t4, .ref t7, .ref t10, .ref t13, .ref t16, .int 0, .null, .null, .null, .null, .null, .null, .null]) := (Hc j (by omega)).trans HO
  have K1 : kLaws kd a27 (j + 1) c28 := K1.at (fun i h1 h2 => rfl) (fun i h1 h2 => Hc i (by omega))
  have K10 : kScene kd a27 (j + 10) c28 := K10.at (fun i h1 h2 => rfl) (fun i h1 h2 => Hc i (by omega))
  have K19 : kDesk kd a27 (j + 19) c28 := K19.at (fun i h1 h2 => rfl) (fun i h1 h2 => Hc i (by omega))
  have K22 : kLaws kd a27 (j + 22) c28 := K22.at (fun i h1 h2 => rfl) (fun i h1 h2 => Hc i (by omega))
  have K31 : kScene kd a27 (j + 31) c28 := K31.at (fun i h1 h2 => rfl) (fun i h1 h2 => Hc i (by omega))
  have K40 : kDesk kd a27 (j + 40) c28 := K40.at (fun i h1 h2 => rfl) (fun i h1 h2 => Hc i (by omega))
  have K44 : kSheet kd a27 (j + 44) c28 := K44.at (fun i h1 h2 => rfl) (fun i h1 h2 => Hc i (by omega))
  have K46 : kSheet kd a27 (j + 46) c28 := K46.at (fun i h1 h2 => rfl) (fun i h1 h2 => Hc i (by omega))
  have K48 : kSheet kd a27 (j + 48) c28 := K48.at (fun i h1 h2 => rfl) (fun i h1 h2 => Hc i (by omega))
  have K43 : c28 (j + 43) = xQ (kd 1) 4 (va_up (va_up (va_up (fun _ => none) 0 (some t20)) 1 (some t23)) 2 (some t26)) := Kn
  refine n_dup h dX9_init_105 (q := 106) rfl rfl ?_
  refine n_iconst h (v := 3) dX9_init_106 (q := 107) rfl (by decide) ?_
  refine n_new h (fs := [.int 0, .int 0, .null]) cls7 m168 m170 m8 (by decide) (Nat.le_of_ble_eq_true rfl) (Nat.le_of_ble_eq_true rfl) dX9_init_107 (q := 110) rfl (fun t29 a29 c29 T Ha Hc Kn => ?_)
  have HA : ∀ i, i ≤ j → a29 i = a i := fun i hi => (Ha i (by omega)).trans (HA i hi)
  have HC : ∀ i, i < j → c29 i = c i := fun i hi => (Hc i (by omega)).trans (HC i hi)
  have HO : c29 j = .inr (9, [.ref t1, .ref t4, .ref t7, .ref t10, .ref t13, .ref t16, .int 0, .null, .null, .null, .null, .null, .null, .null]) := (Hc j (by omega)).trans HO
  have TA1 : a29 (j + 1) = t1 := (Ha (j + 1) (by omega)).trans TA1
  have TA10 : a29 (j + 10) = t4 := (Ha (j + 10) (by omega)).trans TA10
  have TA19 : a29 (j + 19) = t7 := (Ha (j + 19) (by omega)).trans TA19
  have TA22 : a29 (j + 22) = t10 := (Ha (j + 22) (by omega)).trans TA22
  have TA31 : a29 (j + 31) = t13 := (Ha (j + 31) (by omega)).trans TA31
  have TA40 : a29 (j + 40) = t16 := (Ha (j + 40) (by omega)).trans TA40
  have TA43 : a29 (j + 43) = t19 := (Ha (j + 43) (by omega)).trans TA43
  have TA44 : a29 (j + 44) = t20 := (Ha (j + 44) (by omega)).trans TA44
  have TA46 : a29 (j + 46) = t23 := (Ha (j + 46) (by omega)).trans TA46
  have TA48 : a29 (j + 48) = t26 := (Ha (j + 48) (by omega)).trans TA48
  have K1 : kLaws kd a29 (j + 1) c29 := K1.at (fun i h1 h2 => Ha i (by omega)) (fun i h1 h2 => Hc i (by omega))
  have K10 : kScene kd a29 (j + 10) c29 := K10.at (fun i h1 h2 => Ha i (by omega)) (fun i h1 h2 => Hc i (by omega))
  have K19 : kDesk kd a29 (j + 19) c29 := K19.at (fun i h1 h2 => Ha i (by omega)) (fun i h1 h2 => Hc i (by omega))
  have K22 : kLaws kd a29 (j + 22) c29 := K22.at (fun i h1 h2 => Ha i (by omega)) (fun i h1 h2 => Hc i (by omega))
  have K31 : kScene kd a29 (j + 31) c29 := K31.at (fun i h1 h2 => Ha i (by omega)) (fun i h1 h2 => Hc i (by omega))
  have K40 : kDesk kd a29 (j + 40) c29 := K40.at (fun i h1 h2 => Ha i (by omega)) (fun i h1 h2 => Hc i (by omega))
  have K44 : kSheet kd a29 (j + 44) c29 := K44.at (fun i h1 h2 => Ha i (by omega)) (fun i h1 h2 => Hc i (by omega))
  have K46 : kSheet kd a29 (j + 46) c29 := K46.at (fun i h1 h2 => Ha i (by omega)) (fun i h1 h2 => Hc i (by omega))
  have K48 : kSheet kd a29 (j + 48) c29 := K48.at (fun i h1 h2 => Ha i (by omega)) (fun i h1 h2 => Hc i (by omega))
  have K43 : c29 (j + 43) = xQ (kd 1) 4 (va_up (va_up (va_up (fun _ => none) 0 (some t20)) 1 (some t23)) 2 (some t26)) := (Hc (j + 43) (by omega)).trans K43
  have TA50 : a29 (j + 50) = t29 := T
  have Z50 : c29 (j + 50) = .inr (7, [.int 0, .int 0, .null]) := Kn
  refine n_dup h dX9_init_110 (q := 111) rfl rfl ?_
  refine n_initN h (j := j + 50) (c_X7_init Z50) cal_X7_init m172 m171 rfl TA50 ⟨rfl, rfl, Nat.le_of_ble_eq_true rfl, Nat.le_of_ble_eq_true rfl⟩ ⟨Nat.le_of_ble_eq_true rfl, Nat.le_of_ble_eq_true rfl⟩ (Nat.le_of_ble_eq_true rfl) dX9_init_111 (q := 114) rfl (fun a30 c30 P => ?_)
  obtain ⟨Ha, Hc, Kn⟩ := P
  have HA : ∀ i, i ≤ j → a30 i = a i := fun i hi => (Ha i (by omega)).trans (HA i hi)
  have HC : ∀ i, i < j → c30 i = c i := fun i hi => (Hc i (by omega)).trans (HC i hi)
  have HO : c30 j = .inr (9, [.ref t1, .ref t4, .ref t7, .ref t10, .ref t13, .ref t16, .int 0, .null, .null, .null, .null, .null, .null, .null]) := (Hc j (by omega)).trans HO
  have TA1 : a30 (j + 1) = t1 := (Ha (j + 1) (by omega)).trans TA1
  have TA10 : a30 (j + 10) = t4 := (Ha (j + 10) (by omega)).trans TA10
  have TA19 : a30 (j + 19) = t7 := (Ha (j + 19) (by omega)).trans TA19
  have TA22 : a30 (j + 22) = t10 := (Ha (j + 22) (by omega)).trans TA22
  have TA31 : a30 (j + 31) = t13 := (Ha (j + 31) (by omega)).trans TA31
  have TA40 : a30 (j + 40) = t16 := (Ha (j + 40) (by omega)).trans TA40
  have TA43 : a30 (j + 43) = t19 := (Ha (j + 43) (by omega)).trans TA43
  have TA44 : a30 (j + 44) = t20 := (Ha (j + 44) (by omega)).trans TA44
  have TA46 : a30 (j + 46) = t23 := (Ha (j + 46) (by omega)).trans TA46
  have TA48 : a30 (j + 48) = t26 := (Ha (j + 48) (by omega)).trans TA48
  have TA50 : a30 (j + 50) = t29 := (Ha (j + 50) (by omega)).trans TA50
  have K1 : kLaws kd a30 (j + 1) c30 := K1.at (fun i h1 h2 => Ha i (by omega)) (fun i h1 h2 => Hc i (by omega))
  have K10 : kScene kd a30 (j + 10) c30 := K10.at (fun i h1 h2 => Ha i (by omega)) (fun i h1 h2 => Hc i (by omega))
  have K19 : kDesk kd a30 (j + 19) c30 := K19.at (fun i h1 h2 => Ha i (by omega)) (fun i h1 h2 => Hc i (by omega))
  have K22 : kLaws kd a30 (j + 22) c30 := K22.at (fun i h1 h2 => Ha i (by omega)) (fun i h1 h2 => Hc i (by omega))
  have K31 : kScene kd a30 (j + 31) c30 := K31.at (fun i h1 h2 => Ha i (by omega)) (fun i h1 h2 => Hc i (by omega))
  have K40 : kDesk kd a30 (j + 40) c30 := K40.at (fun i h1 h2 => Ha i (by omega)) (fun i h1 h2 => Hc i (by omega))
  have K44 : kSheet kd a30 (j + 44) c30 := K44.at (fun i h1 h2 => Ha i (by omega)) (fun i h1 h2 => Hc i (by omega))
  have K46 : kSheet kd a30 (j + 46) c30 := K46.at (fun i h1 h2 => Ha i (by omega)) (fun i h1 h2 => Hc i (by omega))
  have K48 : kSheet kd a30 (j + 48) c30 := K48.at (fun i h1 h2 => Ha i (by omega)) (fun i h1 h2 => Hc i (by omega))
  have K43 : c30 (j + 43) = xQ (kd 1) 4 (va_up (va_up (va_up (fun _ => none) 0 (some t20)) 1 (some t23)) 2 (some t26)) := (Hc (j + 43) (by omega)).trans K43
  have K50 : kSheet kd a30 (j + 50) c30 := Kn
  refine n_aast h (t0 := 1) (j := j + 43) (jv := j + 50) (by omega) TA43 K43 rfl (by omega) TA50 K50.1 rfl (vp_in_nI (n := 3) (by decide) (by decide)) dX9_init_114 (q := 115) rfl (fun c31 Hc Kn => ?_)
  have HC : ∀ i, i < j → c31 i = c i := fun i hi => (Hc i (by omega)).trans (HC i hi)
  have HO : c31 j = .inr (9, [.ref t1, .ref t4, .ref t7, .ref t10, .ref t13, .ref t16, .int 0, .null, .null, .null, .null, .null, .null, .null]) := (Hc j (by omega)).trans HO
  have K1 : kLaws kd a30 (j + 1) c31 := K1.at (fun i h1 h2 => rfl) (fun i h1 h2 => Hc i (by omega))
  have K10 : kScene kd a30 (j + 10) c31 := K10.at (fun i h1 h2 => rfl) (fun i h1 h2 => Hc i (by omega))
  have K19 : kDesk kd a30 (j + 19) c31 := K19.at (fun i h1 h2 => rfl) (fun i h1 h2 => Hc i (by omega))
  have K22 : kLaws kd a30 (j + 22) c31 := K22.at (fun i h1 h2 => rfl) (fun i h1 h2 => Hc i (by omega))
  have K31 : kScene kd a30 (j + 31) c31 := K31.at (fun i h1 h2 => rfl) (fun i h1 h2 => Hc i (by omega))
  have K40 : kDesk kd a30 (j + 40) c31 := K40.at (fun i h1 h2 => rfl) (fun i h1 h2 => Hc i (by omega))
  have K44 : kSheet kd a30 (j + 44) c31 := K44.at (fun i h1 h2 => rfl) (fun i h1 h2 => Hc i (by omega))
  have K46 : kSheet kd a30 (j + 46) c31 := K46.at (fun i h1 h2 => rfl) (fun i h1 h2 => Hc i (by omega))
  have K48 : kSheet kd a30 (j + 48) c31 := K48.at (fun i h1 h2 => rfl) (fun i h1 h2 => Hc i (by omega))
  have K50 : kSheet kd a30 (j + 50) c31 := K50.at (fun i h1 h2 => rfl) (fun i h1 h2 => Hc i (by omega))
  have K43 : c31 (j + 43) = xQ (kd 1) 4 (va_up (va_up (va_up (va_up (fun _ => none) 0 (some t20)) 1 (some t23)) 2 (some t26)) 3 (some t29)) := Kn
  refine n_putF h hin (j := j) (k := 7) cls9 (by omega) (HA j (Nat.le_refl j)) HO (Nat.le_of_ble_eq_true rfl) m272 rfl rfl ⟨rfl, rfl⟩ (Nat.le_of_ble_eq_true rfl) dX9_init_115 (q := 118) rfl (fun c32 Hc Kn => ?_)
  have HC : ∀ i, i < j → c32 i = c i := fun i hi => (Hc i (by omega)).trans (HC i hi)
  have HO : c32 j = .inr (9, [.ref t1, .ref t4, .ref t7, .ref t10, .ref t13, .ref t16, .int 0, .ref t19, .null, .null, .null, .null, .null, .null]) := Kn
  have K1 : kLaws kd a30 (j + 1) c32 := K1.at (fun i h1 h2 => rfl) (fun i h1 h2 => Hc i (by omega))
  have K10 : kScene kd a30 (j + 10) c32 := K10.at (fun i h1 h2 => rfl) (fun i h1 h2 => Hc i (by omega))
  have K19 : kDesk kd a30 (j + 19) c32 := K19.at (fun i h1 h2 => rfl) (fun i h1 h2 => Hc i (by omega))
  have K22 : kLaws kd a30 (j + 22) c32 := K22.at (fun i h1 h2 => rfl) (fun i h1 h2 => Hc i (by omega))
  have K31 : kScene kd a30 (j + 31) c32 := K31.at (fun i h1 h2 => rfl) (fun i h1 h2 => Hc i (by omega))
  have K40 : kDesk kd a30 (j + 40) c32 := K40.at (fun i h1 h2 => rfl) (fun i h1 h2 => Hc i (by omega))
  have K44 : kSheet kd a30 (j + 44) c32 := K44.at (fun i h1 h2 => rfl) (fun i h1 h2 => Hc i (by omega))
  have K46 : kSheet kd a30 (j + 46) c32 := K46.at (fun i h1 h2 => rfl) (fun i h1 h2 => Hc i (by omega))
  have K48 : kSheet kd a30 (j + 48) c32 := K48.at (fun i h1 h2 => rfl) (fun i h1 h2 => Hc i (by omega))
  have K50 : kSheet kd a30 (j + 50) c32 := K50.at (fun i h1 h2 => rfl) (fun i h1 h2 => Hc i (by omega))
  have K43 : c32 (j + 43) = xQ (kd 1) 4 (va_up (va_up (va_up (va_up (fun _ => none) 0 (some t20)) 1 (some t23)) 2 (some t26)) 3 (some t29)) := (Hc (j + 43) (by omega)).trans K43
  refine n_aload_n h (i := 0) dX9_init_118 (q := 119) rfl rfl 0 rfl ?_
  refine n_new h (fs := [.null, .int 0, .int 0, .int 0, .int 0]) cls8 m188 m189 m9 (by decide) (Nat.le_of_ble_eq_true rfl) (Nat.le_of_ble_eq_true rfl) dX9_init_119 (q := 122) rfl (fun t33 a33 c33 T Ha Hc Kn => ?_)
  have HA : ∀ i, i ≤ j → a33 i = a i := fun i hi => (Ha i (by omega)).trans (HA i hi)
  have HC : ∀ i, i < j → c33 i = c i := fun i hi => (Hc i (by omega)).trans (HC i hi)
  have HO : c33 j = .inr (9, [.ref t1, .ref t4, .ref t7, .ref t10, .ref t13, .ref t16, .int 0, .ref t19, .null, .null, .null, .null, .null, .null]) := (Hc j (by omega)).trans HO
  have TA1 : a33 (j + 1) = t1 := (Ha (j + 1) (by omega)).trans TA1
  have TA10 : a33 (j + 10) = t4 := (Ha (j + 10) (by omega)).trans TA10
  have TA19 : a33 (j + 19) = t7 := (Ha (j + 19) (by omega)).trans TA19
  have TA22 : a33 (j + 22) = t10 := (Ha (j + 22) (by omega)).trans TA22
  have TA31 : a33 (j + 31) = t13 := (Ha (j + 31) (by omega)).trans TA31
  have TA40 : a33 (j + 40) = t16 := (Ha (j + 40) (by omega)).trans TA40
  have TA43 : a33 (j + 43) = t19 := (Ha (j + 43) (by omega)).trans TA43
  have TA44 : a33 (j + 44) = t20 := (Ha (j + 44) (by omega)).trans TA44
  have TA46 : a33 (j + 46) = t23 := (Ha (j + 46) (by omega)).trans TA46
  have TA48 : a33 (j + 48) = t26 := (Ha (j + 48) (by omega)).trans TA48
  have TA50 : a33 (j + 50) = t29 := (Ha (j + 50) (by omega)).trans TA50
  have K1 : kLaws kd a33 (j + 1) c33 := K1.at (fun i h1 h2 => Ha i (by omega)) (fun i h1 h2 => Hc i (by omega))
  have K10 : kScene kd a33 (j + 10) c33 := K10.at (fun i h1 h2 => Ha i (by omega)) (fun i h1 h2 => Hc i (by omega))
  have K19 : kDesk kd a33 (j + 19) c33 := K19.at (fun i h1 h2 => Ha i (by omega)) (fun i h1 h2 => Hc i (by omega))
  have K22 : kLaws kd a33 (j + 22) c33 := K22.at (fun i h1 h2 => Ha i (by omega)) (fun i h1 h2 => Hc i (by omega))
  have K31 : kScene kd a33 (j + 31) c33 := K31.at (fun i h1 h2 => Ha i (by omega)) (fun i h1 h2 => Hc i (by omega))
  have K40 : kDesk kd a33 (j + 40) c33 := K40.at (fun i h1 h2 => Ha i (by omega)) (fun i h1 h2 => Hc i (by omega))
  have K44 : kSheet kd a33 (j + 44) c33 := K44.at (fun i h1 h2 => Ha i (by omega)) (fun i h1 h2 => Hc i (by omega))
  have K46 : kSheet kd a33 (j + 46) c33 := K46.at (fun i h1 h2 => Ha i (by omega)) (fun i h1 h2 => Hc i (by omega))
  have K48 : kSheet kd a33 (j + 48) c33 := K48.at (fun i h1 h2 => Ha i (by omega)) (fun i h1 h2 => Hc i (by omega))
  have K50 : kSheet kd a33 (j + 50) c33 := K50.at (fun i h1 h2 => Ha i (by omega)) (fun i h1 h2 => Hc i (by omega))
  have K43 : c33 (j + 43) = xQ (kd 1) 4 (va_up (va_up (va_up (va_up (fun _ => none) 0 (some t20)) 1 (some t23)) 2 (some t26)) 3 (some t29)) := (Hc (j + 43) (by omega)).trans K43
  have TA52 : a33 (j + 52) = t33 := T
  have Z52 : c33 (j + 52) = .inr (8, [.null, .int 0, .int 0, .int 0, .int 0]) := Kn
  refine n_dup h dX9_init_122 (q := 123) rfl rfl ?_
  refine n_initN h (j := j + 52) (c_X8_init Z52) cal_X8_init m191 m190 rfl TA52 ⟨rfl, rfl, Nat.le_of_ble_eq_true rfl, Nat.le_of_ble_eq_true rfl⟩ ⟨Nat.le_of_ble_eq_true rfl, Nat.le_of_ble_eq_true rfl⟩ (Nat.le_of_ble_eq_true rfl) dX9_init_123 (q := 126) rfl (fun a34 c34 P => ?_)
  obtain ⟨Ha, Hc, Kn⟩ := P
  have HA : ∀ i, i ≤ j → a34 i = a i := fun i hi => (Ha i (by omega)).trans (HA i hi)
  have HC : ∀ i, i < j → c34 i = c i := fun i hi => (Hc i (by omega)).trans (HC i hi)
  have HO : c34 j = .inr (9, [.ref t1, .ref t4, .ref t7, .ref t10, .ref t13, .ref t16, .int 0, .ref t19, .null, .null, .null, .null, .null, .null]) := (Hc j (by omega)).trans HO
  have TA1 : a34 (j + 1) = t1 := (Ha (j + 1) (by omega)).trans TA1
  have TA10 : a34 (j + 10) = t4 := (Ha (j + 10) (by omega)).trans TA10
  have TA19 : a34 (j + 19) = t7 := (Ha (j + 19) (by omega)).trans TA19
  have TA22 : a34 (j + 22) = t10 := (Ha (j + 22) (by omega)).trans TA22
  have TA31 : a34 (j + 31) = t13 := (Ha (j + 31) (by omega)).trans TA31
  have TA40 : a34 (j + 40) = t16 := (Ha (j + 40) (by omega)).trans TA40
  have TA43 : a34 (j + 43) = t19 := (Ha (j + 43) (by omega)).trans TA43
  have TA44 : a34 (j + 44) = t20 := (Ha (j + 44) (by omega)).trans TA44
  have TA46 : a34 (j + 46) = t23 := (Ha (j + 46) (by omega)).trans TA46
  have TA48 : a34 (j + 48) = t26 := (Ha (j + 48) (by omega)).trans TA48
  have TA50 : a34 (j + 50) = t29 := (Ha (j + 50) (by omega)).trans TA50
  have TA52 : a34 (j + 52) = t33 := (Ha (j + 52) (by omega)).trans TA52
  have K1 : kLaws kd a34 (j + 1) c34 := K1.at (fun i h1 h2 => Ha i (by omega)) (fun i h1 h2 => Hc i (by omega))
  have K10 : kScene kd a34 (j + 10) c34 := K10.at (fun i h1 h2 => Ha i (by omega)) (fun i h1 h2 => Hc i (by omega))
  have K19 : kDesk kd a34 (j + 19) c34 := K19.at (fun i h1 h2 => Ha i (by omega)) (fun i h1 h2 => Hc i (by omega))
  have K22 : kLaws kd a34 (j + 22) c34 := K22.at (fun i h1 h2 => Ha i (by omega)) (fun i h1 h2 => Hc i (by omega))
  have K31 : kScene kd a34 (j + 31) c34 := K31.at (fun i h1 h2 => Ha i (by omega)) (fun i h1 h2 => Hc i (by omega))
  have K40 : kDesk kd a34 (j + 40) c34 := K40.at (fun i h1 h2 => Ha i (by omega)) (fun i h1 h2 => Hc i (by omega))
  have K44 : kSheet kd a34 (j + 44) c34 := K44.at (fun i h1 h2 => Ha i (by omega)) (fun i h1 h2 => Hc i (by omega))
  have K46 : kSheet kd a34 (j + 46) c34 := K46.at (fun i h1 h2 => Ha i (by omega)) (fun i h1 h2 => Hc i (by omega))
  have K48 : kSheet kd a34 (j + 48) c34 := K48.at (fun i h1 h2 => Ha i (by omega)) (fun i h1 h2 => Hc i (by omega))
  have K50 : kSheet kd a34 (j + 50) c34 := K50.at (fun i h1 h2 => Ha i (by omega)) (fun i h1 h2 => Hc i (by omega))
  have K43 : c34 (j + 43) = xQ (kd 1) 4 (va_up (va_up (va_up (va_up (fun _ => none) 0 (some t20)) 1 (some t23)) 2 (some t26)) 3 (some t29)) := (Hc (j + 43) (by omega)).trans K43
  have K52 : kVoices kd a34 (j + 52) c34 := Kn
  refine n_putF h hin (j := j) (k := 8) cls9 (by omega) (HA j (Nat.le_refl j)) HO (Nat.le_of_ble_eq_true rfl) m273 rfl rfl ⟨rfl, rfl⟩ (Nat.le_of_ble_eq_true rfl) dX9_init_126 (q := 129) rfl (fun c35 Hc Kn => ?_)
  have HC : ∀ i, i < j → c35 i = c i := fun i hi => (Hc i (by omega)).trans (HC i hi)
  have HO : c35 j = .inr (9, [.ref t1, .ref t4, .ref t7, .ref t10, .ref t13, .ref t16, .int 0, .ref t19, .ref t33, .null, .null, .null, .null, .null]) := Kn
  have K1 : kLaws kd a34 (j + 1) c35 := K1.at (fun i h1 h2 => rfl) (fun i h1 h2 => Hc i (by omega))
  have K10 : kScene kd a34 (j + 10) c35 := K10.at (fun i h1 h2 => rfl) (fun i h1 h2 => Hc i (by omega))
  have K19 : kDesk kd a34 (j + 19) c35 := K19.at (fun i h1 h2 => rfl) (fun i h1 h2 => Hc i (by omega))
  have K22 : kLaws kd a34 (j + 22) c35 := K22.at (fun i h1 h2 => rfl) (fun i h1 h2 => Hc i (by omega))
  have K31 : kScene kd a34 (j + 31) c35 := K31.at (fun i h1 h2 => rfl) (fun i h1 h2 => Hc i (by omega))
  have K40 : kDesk kd a34 (j + 40) c35 := K40.at (fun i h1 h2 => rfl) (fun i h1 h2 => Hc i (by omega))
  have K44 : kSheet kd a34 (j + 44) c35 := K44.at (fun i h1 h2 => rfl) (fun i h1 h2 => Hc i (by omega))
  have K46 : kSheet kd a34 (j + 46) c35 := K46.at (fun i h1 h2 => rfl) (fun i h1 h2 => Hc i (by omega))
  have K48 : kSheet kd a34 (j + 48) c35 := K48.at (fun i h1 h2 => rfl) (fun i h1 h2 => Hc i (by omega))
  have K50 : kSheet kd a34 (j + 50) c35 := K50.at (fun i h1 h2 => rfl) (fun i h1 h2 => Hc i (by omega))
  have K43 : c35 (j + 43) = xQ (kd 1) 4 (va_up (va_up (va_up (va_up (fun _ => none) 0 (some t20)) 1 (some t23)) 2 (some t26)) 3 (some t29)) := (Hc (j + 43) (by omega)).trans K43
  have K52 : kVoices kd a34 (j + 52) c35 := K52.at (fun i h1 h2 => rfl) (fun i h1 h2 => Hc i (by omega))
  refine n_aload_n h (i := 0) dX9_init_129 (q := 130) rfl rfl 0 rfl ?_
  refine n_bipush h (v := 6) dX9_init_130 (q := 132) rfl (by decide) ?_
  refine n_newa h (N := 6) m52 (by decide) (by decide) (Nat.le_of_ble_eq_true rfl) (Nat.le_of_ble_eq_true rfl) (Nat.le_of_ble_eq_true rfl) dX9_init_132 (q := 134) rfl (fun t36 a36 c36 T Ha Hc Kn => ?_)
  have HA : ∀ i, i ≤ j → a36 i = a i := fun i hi => (Ha i (by omega)).trans (HA i hi)
  have HC : ∀ i, i < j → c36 i = c i := fun i hi => (Hc i (by omega)).trans (HC i hi)
  have HO : c36 j = .inr (9, [.ref t1, .ref t4, .ref t7, .ref t10, .ref t13, .ref t16, .int 0, .ref t19, .ref t33, .null, .null, .null, .null, .null]) := (Hc j (by omega)).trans HO
  have TA1 : a36 (j + 1) = t1 := (Ha (j + 1) (by omega)).trans TA1
  have TA10 : a36 (j + 10) = t4 := (Ha (j + 10) (by omega)).trans TA10
  have TA19 : a36 (j + 19) = t7 := (Ha (j + 19) (by omega)).trans TA19
  have TA22 : a36 (j + 22) = t10 := (Ha (j + 22) (by omega)).trans TA22
  have TA31 : a36 (j + 31) = t13 := (Ha (j + 31) (by omega)).trans TA31
  have TA40 : a36 (j + 40) = t16 := (Ha (j + 40) (by omega)).trans TA40
  have TA43 : a36 (j + 43) = t19 := (Ha (j + 43) (by omega)).trans TA43
  have TA44 : a36 (j + 44) = t20 := (Ha (j + 44) (by omega)).trans TA44
  have TA46 : a36 (j + 46) = t23 := (Ha (j + 46) (by omega)).trans TA46
  have TA48 : a36 (j + 48) = t26 := (Ha (j + 48) (by omega)).trans TA48
  have TA50 : a36 (j + 50) = t29 := (Ha (j + 50) (by omega)).trans TA50
  have TA52 : a36 (j + 52) = t33 := (Ha (j + 52) (by omega)).trans TA52
  have K1 : kLaws kd a36 (j + 1) c36 := K1.at (fun i h1 h2 => Ha i (by omega)) (fun i h1 h2 => Hc i (by omega))
  have K10 : kScene kd a36 (j + 10) c36 := K10.at (fun i h1 h2 => Ha i (by omega)) (fun i h1 h2 => Hc i (by omega))
  have K19 : kDesk kd a36 (j + 19) c36 := K19.at (fun i h1 h2 => Ha i (by omega)) (fun i h1 h2 => Hc i (by omega))
  have K22 : kLaws kd a36 (j + 22) c36 := K22.at (fun i h1 h2 => Ha i (by omega)) (fun i h1 h2 => Hc i (by omega))
  have K31 : kScene kd a36 (j + 31) c36 := K31.at (fun i h1 h2 => Ha i (by omega)) (fun i h1 h2 => Hc i (by omega))
  have K40 : kDesk kd a36 (j + 40) c36 := K40.at (fun i h1 h2 => Ha i (by omega)) (fun i h1 h2 => Hc i (by omega))
  have K44 : kSheet kd a36 (j + 44) c36 := K44.at (fun i h1 h2 => Ha i (by omega)) (fun i h1 h2 => Hc i (by omega))
  have K46 : kSheet kd a36 (j + 46) c36 := K46.at (fun i h1 h2 => Ha i (by omega)) (fun i h1 h2 => Hc i (by omega))
  have K48 : kSheet kd a36 (j + 48) c36 := K48.at (fun i h1 h2 => Ha i (by omega)) (fun i h1 h2 => Hc i (by omega))
  have K50 : kSheet kd a36 (j + 50) c36 := K50.at (fun i h1 h2 => Ha i (by omega)) (fun i h1 h2 => Hc i (by omega))
  have K43 : c36 (j + 43) = xQ (kd 1) 4 (va_up (va_up (va_up (va_up (fun _ => none) 0 (some t20)) 1 (some t23)) 2 (some t26)) 3 (some t29)) := (Hc (j + 43) (by omega)).trans K43
  have K52 : kVoices kd a36 (j + 52) c36 := K52.at (fun i h1 h2 => Ha i (by omega)) (fun i h1 h2 => Hc i (by omega))
  have TA54 : a36 (j + 54) = t36 := T
  have K54 : c36 (j + 54) = .inl (kd 0, 6, .inl (fun _ => 0)) := Kn
  refine n_putF h hin (j := j) (k := 9) cls9 (by omega) (HA j (Nat.le_refl j)) HO (Nat.le_of_ble_eq_true rfl) m274 rfl rfl ⟨rfl, rfl⟩ (Nat.le_of_ble_eq_true rfl) dX9_init_134 (q := 137) rfl (fun c37 Hc Kn => ?_)
  have HC : ∀ i, i < j → c37 i = c i := fun i hi => (Hc i (by omega)).trans (HC i hi)
  have HO : c37 j = .inr (9, [.ref t1, .ref t4, .ref t7, .ref t10, .ref t13, .ref t16, .int 0, .ref t19, .ref t33, .ref t36, .null, .null, .null, .null]) := Kn
  have K1 : kLaws kd a36 (j + 1) c37 := K1.at (fun i h1 h2 => rfl) (fun i h1 h2 => Hc i (by omega))
  have K10 : kScene kd a36 (j + 10) c37 := K10.at (fun i h1 h2 => rfl) (fun i h1 h2 => Hc i (by omega))
  have K19 : kDesk kd a36 (j + 19) c37 := K19.at (fun i h1 h2 => rfl) (fun i h1 h2 => Hc i (by omega))
  have K22 : kLaws kd a36 (j + 22) c37 := K22.at (fun i h1 h2 => rfl) (fun i h1 h2 => Hc i (by omega))
  have K31 : kScene kd a36 (j + 31) c37 := K31.at (fun i h1 h2 => rfl) (fun i h1 h2 => Hc i (by omega))
  have K40 : kDesk kd a36 (j + 40) c37 := K40.at (fun i h1 h2 => rfl) (fun i h1 h2 => Hc i (by omega))
  have K44 : kSheet kd a36 (j + 44) c37 := K44.at (fun i h1 h2 => rfl) (fun i h1 h2 => Hc i (by omega))
  have K46 : kSheet kd a36 (j + 46) c37 := K46.at (fun i h1 h2 => rfl) (fun i h1 h2 => Hc i (by omega))
  have K48 : kSheet kd a36 (j + 48) c37 := K48.at (fun i h1 h2 => rfl) (fun i h1 h2 => Hc i (by omega))
  have K50 : kSheet kd a36 (j + 50) c37 := K50.at (fun i h1 h2 => rfl) (fun i h1 h2 => Hc i (by omega))
  have K43 : c37 (j + 43) = xQ (kd 1) 4 (va_up (va_up (va_up (va_up (fun _ => none) 0 (some t20)) 1 (some t23)) 2 (some t26)) 3 (some t29)) := (Hc (j + 43) (by omega)).trans K43
  have K52 : kVoices kd a36 (j + 52) c37 := K52.at (fun i h1 h2 => rfl) (fun i h1 h2 => Hc i (by omega))
  have K54 : c37 (j + 54) = .inl (kd 0, 6, .inl (fun _ => 0)) := (Hc (j + 54) (by omega)).trans K54
  refine n_aload_n h (i := 0) dX9_init_137 (q := 138) rfl rfl 0 rfl ?_
  refine n_new h (fs := [.null, .null, .int 0, .int 0, .int 0]) cls5 m212 m213 m10 (by decide) (Nat.le_of_ble_eq_true rfl) (Nat.le_of_ble_eq_true rfl) dX9_init_138 (q := 141) rfl (fun t38 a38 c38 T Ha Hc Kn => ?_)
  have HA : ∀ i, i ≤ j → a38 i = a i := fun i hi => (Ha i (by omega)).trans (HA i hi)
  have HC : ∀ i, i < j → c38 i = c i := fun i hi => (Hc i (by omega)).trans (HC i hi)
  have HO : c38 j = .inr (9, [.ref t1, .ref t4, .ref t7, .ref t10, .ref t13, .ref t16, .int 0, .ref t19, .ref t33, .ref t36, .null, .null, .null, .null]) := (Hc j (by omega)).trans HO
  have TA1 : a38 (j + 1) = t1 := (Ha (j + 1) (by omega)).trans TA1
  have TA10 : a38 (j + 10) = t4 := (Ha (j + 10) (by omega)).trans TA10
  have TA19 : a38 (j + 19) = t7 := (Ha (j + 19) (by omega)).trans TA19
  have TA22 : a38 (j + 22) = t10 := (Ha (j + 22) (by omega)).trans TA22
  have TA31 : a38 (j + 31) = t13 := (Ha (j + 31) (by omega)).trans TA31
  have TA40 : a38 (j + 40) = t16 := (Ha (j + 40) (by omega)).trans TA40
  have TA43 : a38 (j + 43) = t19 := (Ha (j + 43) (by omega)).trans TA43
  have TA44 : a38 (j + 44) = t20 := (Ha (j + 44) (by omega)).trans TA44
  have TA46 : a38 (j + 46) = t23 := (Ha (j + 46) (by omega)).trans TA46
  have TA48 : a38 (j + 48) = t26 := (Ha (j + 48) (by omega)).trans TA48
  have TA50 : a38 (j + 50) = t29 := (Ha (j + 50) (by omega)).trans TA50
  have TA52 : a38 (j + 52) = t33 := (Ha (j + 52) (by omega)).trans TA52
  have TA54 : a38 (j + 54) = t36 := (Ha (j + 54) (by omega)).trans TA54
  have K1 : kLaws kd a38 (j + 1) c38 := K1.at (fun i h1 h2 => Ha i (by omega)) (fun i h1 h2 => Hc i (by omega))
  have K10 : kScene kd a38 (j + 10) c38 := K10.at (fun i h1 h2 => Ha i (by omega)) (fun i h1 h2 => Hc i (by omega))
  have K19 : kDesk kd a38 (j + 19) c38 := K19.at (fun i h1 h2 => Ha i (by omega)) (fun i h1 h2 => Hc i (by omega))
  have K22 : kLaws kd a38 (j + 22) c38 := K22.at (fun i h1 h2 => Ha i (by omega)) (fun i h1 h2 => Hc i (by omega))
  have K31 : kScene kd a38 (j + 31) c38 := K31.at (fun i h1 h2 => Ha i (by omega)) (fun i h1 h2 => Hc i (by omega))
  have K40 : kDesk kd a38 (j + 40) c38 := K40.at (fun i h1 h2 => Ha i (by omega)) (fun i h1 h2 => Hc i (by omega))
  have K44 : kSheet kd a38 (j + 44) c38 := K44.at (fun i h1 h2 => Ha i (by omega)) (fun i h1 h2 => Hc i (by omega))
  have K46 : kSheet kd a38 (j + 46) c38 := K46.at (fun i h1 h2 => Ha i (by omega)) (fun i h1 h2 => Hc i (by omega))
  have K48 : kSheet kd a38 (j + 48) c38 := K48.at (fun i h1 h2 => Ha i (by omega)) (fun i h1 h2 => Hc i (by omega))
  have K50 : kSheet kd a38 (j + 50) c38 := K50.at (fun i h1 h2 => Ha i (by omega)) (fun i h1 h2 => Hc i (by omega))
  have K43 : c38 (j + 43) = xQ (kd 1) 4 (va_up (va_up (va_up (va_up (fun _ => none) 0 (some t20)) 1 (some t23)) 2 (some t26)) 3 (some t29)) := (Hc (j + 43) (by omega)).trans K43
  have K52 : kVoices kd a38 (j + 52) c38 := K52.at (fun i h1 h2 => Ha i (by omega)) (fun i h1 h2 => Hc i (by omega))
  have K54 : c38 (j + 54) = .inl (kd 0, 6, .inl (fun _ => 0)) := (Hc (j + 54) (by omega)).trans K54
  have TA55 : a38 (j + 55) = t38 := T
  have Z55 : c38 (j + 55) = .inr (5, [.null, .null, .int 0, .int 0, .int 0]) := Kn
  refine n_dup h dX9_init_141 (q := 142) rfl rfl ?_
  refine n_initN h (j := j + 55) (c_X5_init Z55) cal_X5_init m215 m214 rfl TA55 ⟨rfl, rfl, Nat.le_of_ble_eq_true rfl, Nat.le_of_ble_eq_true rfl⟩ ⟨Nat.le_of_ble_eq_true rfl, Nat.le_of_ble_eq_true rfl⟩ (Nat.le_of_ble_eq_true rfl) dX9_init_142 (q := 145) rfl (fun a39 c39 P => ?_)
  obtain ⟨Ha, Hc, Kn⟩ := P
  have HA : ∀ i, i ≤ j → a39 i = a i := fun i hi => (Ha i (by omega)).trans (HA i hi)
  have HC : ∀ i, i < j → c39 i = c i := fun i hi => (Hc i (by omega)).trans (HC i hi)
  have HO : c39 j = .inr (9, [.ref t1, .ref t4, .ref t7, .ref t10, .ref t13, .ref t16, .int 0, .ref t19, .ref t33, .ref t36, .null, .null, .null, .null]) := (Hc j (by omega)).trans HO
  have TA1 : a39 (j + 1) = t1 := (Ha (j + 1) (by omega)).trans TA1
  have TA10 : a39 (j + 10) = t4 := (Ha (j + 10) (by omega)).trans TA10
  have TA19 : a39 (j + 19) = t7 := (Ha (j + 19) (by omega)).trans TA19
  have TA22 : a39 (j + 22) = t10 := (Ha (j + 22) (by omega)).trans TA22
  have TA31 : a39 (j + 31) = t13 := (Ha (j + 31) (by omega)).trans TA31
  have TA40 : a39 (j + 40) = t16 := (Ha (j + 40) (by omega)).trans TA40
  have TA43 : a39 (j + 43) = t19 := (Ha (j + 43) (by omega)).trans TA43
  have TA44 : a39 (j + 44) = t20 := (Ha (j + 44) (by omega)).trans TA44
  have TA46 : a39 (j + 46) = t23 := (Ha (j + 46) (by omega)).trans TA46
  have TA48 : a39 (j + 48) = t26 := (Ha (j + 48) (by omega)).trans TA48
  have TA50 : a39 (j + 50) = t29 := (Ha (j + 50) (by omega)).trans TA50
  have TA52 : a39 (j + 52) = t33 := (Ha (j + 52) (by omega)).trans TA52
  have TA54 : a39 (j + 54) = t36 := (Ha (j + 54) (by omega)).trans TA54
  have TA55 : a39 (j + 55) = t38 := (Ha (j + 55) (by omega)).trans TA55
  have K1 : kLaws kd a39 (j + 1) c39 := K1.at (fun i h1 h2 => Ha i (by omega)) (fun i h1 h2 => Hc i (by omega))
  have K10 : kScene kd a39 (j + 10) c39 := K10.at (fun i h1 h2 => Ha i (by omega)) (fun i h1 h2 => Hc i (by omega))
  have K19 : kDesk kd a39 (j + 19) c39 := K19.at (fun i h1 h2 => Ha i (by omega)) (fun i h1 h2 => Hc i (by omega))
  have K22 : kLaws kd a39 (j + 22) c39 := K22.at (fun i h1 h2 => Ha i (by omega)) (fun i h1 h2 => Hc i (by omega))
  have K31 : kScene kd a39 (j + 31) c39 := K31.at (fun i h1 h2 => Ha i (by omega)) (fun i h1 h2 => Hc i (by omega))
  have K40 : kDesk kd a39 (j + 40) c39 := K40.at (fun i h1 h2 => Ha i (by omega)) (fun i h1 h2 => Hc i (by omega))
  have K44 : kSheet kd a39 (j + 44) c39 := K44.at (fun i h1 h2 => Ha i (by omega)) (fun i h1 h2 => Hc i (by omega))
  have K46 : kSheet kd a39 (j + 46) c39 := K46.at (fun i h1 h2 => Ha i (by omega)) (fun i h1 h2 => Hc i (by omega))
  have K48 : kSheet kd a39 (j + 48) c39 := K48.at (fun i h1 h2 => Ha i (by omega)) (fun i h1 h2 => Hc i (by omega))
  have K50 : kSheet kd a39 (j + 50) c39 := K50.at (fun i h1 h2 => Ha i (by omega)) (fun i h1 h2 => Hc i (by omega))
  have K43 : c39 (j + 43) = xQ (kd 1) 4 (va_up (va_up (va_up (va_up (fun _ => none) 0 (some t20)) 1 (some t23)) 2 (some t26)) 3 (some t29)) := (Hc (j + 43) (by omega)).trans K43
  have K52 : kVoices kd a39 (j + 52) c39 := K52.at (fun i h1 h2 => Ha i (by omega)) (fun i h1 h2 => Hc i (by omega))
  have K54 : c39 (j + 54) = .inl (kd 0, 6, .inl (fun _ => 0)) := (Hc (j + 54) (by omega)).trans K54
  have K55 : kReader kd a39 (j + 55) c39 := Kn
  refine n_putF h hin (j := j) (k := 10) cls9 (by omega) (HA j (Nat.le_refl j)) HO (Nat.le_of_ble_eq_true rfl) m275 rfl rfl ⟨rfl, rfl⟩ (Nat.le_of_ble_eq_true rfl) dX9_init_145 (q := 148) rfl (fun c40 Hc Kn => ?_)
  have HC : ∀ i, i < j → c40 i = c i := fun i hi => (Hc i (by omega)).trans (HC i hi)
  have HO : c40 j = .inr (9, [.ref t1, .ref t4, .ref t7, .ref t10, .ref t13, .ref t16, .int 0, .ref t19, .ref t33, .ref t36, .ref t38, .null, .null, .null]) := Kn
  have K1 : kLaws kd a39 (j + 1) c40 := K1.at (fun i h1 h2 => rfl) (fun i h1 h2 => Hc i (by omega))
  have K10 : kScene kd a39 (j + 10) c40 := K10.at (fun i h1 h2 => rfl) (fun i h1 h2 => Hc i (by omega))
  have K19 : kDesk kd a39 (j + 19) c40 := K19.at (fun i h1 h2 => rfl) (fun i h1 h2 => Hc i (by omega))
  have K22 : kLaws kd a39 (j + 22) c40 := K22.at (fun i h1 h2 => rfl) (fun i h1 h2 => Hc i (by omega))
  have K31 : kScene kd a39 (j + 31) c40 := K31.at (fun i h1 h2 => rfl) (fun i h1 h2 => Hc i (by omega))
  have K40 : kDesk kd a39 (j + 40) c40 := K40.at (fun i h1 h2 => rfl) (fun i h1 h2 => Hc i (by omega))
  have K44 : kSheet kd a39 (j + 44) c40 := K44.at (fun i h1 h2 => rfl) (fun i h1 h2 => Hc i (by omega))
  have K46 : kSheet kd a39 (j + 46) c40 := K46.at (fun i h1 h2 => rfl) (fun i h1 h2 => Hc i (by omega))
  have K48 : kSheet kd a39 (j + 48) c40 := K48.at (fun i h1 h2 => rfl) (fun i h1 h2 => Hc i (by omega))
  have K50 : kSheet kd a39 (j + 50) c40 := K50.at (fun i h1 h2 => rfl) (fun i h1 h2 => Hc i (by omega))
  have K43 : c40 (j + 43) = xQ (kd 1) 4 (va_up (va_up (va_up (va_up (fun _ => none) 0 (some t20)) 1 (some t23)) 2 (some t26)) 3 (some t29)) := (Hc (j + 43) (by omega)).trans K43
  have K52 : kVoices kd a39 (j + 52) c40 := K52.at (fun i h1 h2 => rfl) (fun i h1 h2 => Hc i (by omega))
  have K54 : c40 (j + 54) = .inl (kd 0, 6, .inl (fun _ => 0)) := (Hc (j + 54) (by omega)).trans K54
  have K55 : kReader kd a39 (j + 55) c40 := K55.at (fun i h1 h2 => rfl) (fun i h1 h2 => Hc i (by omega))
  refine n_aload_n h (i := 0) dX9_init_148 (q := 149) rfl rfl 0 rfl ?_
  refine n_new h (fs := [.int 0, .int 0, .int 0, .null, .int 0, .null, .null, .null]) cls6 m75 m76 m5 (by decide) (Nat.le_of_ble_eq_true rfl) (Nat.le_of_ble_eq_true rfl) dX9_init_149 (q := 152) rfl (fun t41 a41 c41 T Ha Hc Kn => ?_)
  have HA : ∀ i, i ≤ j → a41 i = a i := fun i hi => (Ha i (by omega)).trans (HA i hi)
  have HC : ∀ i, i < j → c41 i = c i := fun i hi => (Hc i (by omega)).trans (HC i hi)
  have HO : c41 j = .inr (9, [.ref t1, .ref t4, .ref t7, .ref t10, .ref t13, .ref t16, .int 0, .ref t19, .ref t33, .ref t36, .ref t38, .null, .null, .null]) := (Hc j (by omega)).trans HO
  have TA1 : a41 (j + 1) = t1 := (Ha (j + 1) (by omega)).trans TA1
  have TA10 : a41 (j + 10) = t4 := (Ha (j + 10) (by omega)).trans TA10
  have TA19 : a41 (j + 19) = t7 := (Ha (j + 19) (by omega)).trans TA19
  have TA22 : a41 (j + 22) = t10 := (Ha (j + 22) (by omega)).trans TA22
  have TA31 : a41 (j + 31) = t13 := (Ha (j + 31) (by omega)).trans TA31
  have TA40 : a41 (j + 40) = t16 := (Ha (j + 40) (by omega)).trans TA40
  have TA43 : a41 (j + 43) = t19 := (Ha (j + 43) (by omega)).trans TA43
  have TA44 : a41 (j + 44) = t20 := (Ha (j + 44) (by omega)).trans TA44
  have TA46 : a41 (j + 46) = t23 := (Ha (j + 46) (by omega)).trans TA46
  have TA48 : a41 (j + 48) = t26 := (Ha (j + 48) (by omega)).trans TA48
  have TA50 : a41 (j + 50) = t29 := (Ha (j + 50) (by omega)).trans TA50
  have TA52 : a41 (j + 52) = t33 := (Ha (j + 52) (by omega)).trans TA52
  have TA54 : a41 (j + 54) = t36 := (Ha (j + 54) (by omega)).trans TA54
  have TA55 : a41 (j + 55) = t38 := (Ha (j + 55) (by omega)).trans TA55
  have K1 : kLaws kd a41 (j + 1) c41 := K1.at (fun i h1 h2 => Ha i (by omega)) (fun i h1 h2 => Hc i (by omega))
  have K10 : kScene kd a41 (j + 10) c41 := K10.at (fun i h1 h2 => Ha i (by omega)) (fun i h1 h2 => Hc i (by omega))
  have K19 : kDesk kd a41 (j + 19) c41 := K19.at (fun i h1 h2 => Ha i (by omega)) (fun i h1 h2 => Hc i (by omega))
  have K22 : kLaws kd a41 (j + 22) c41 := K22.at (fun i h1 h2 => Ha i (by omega)) (fun i h1 h2 => Hc i (by omega))
  have K31 : kScene kd a41 (j + 31) c41 := K31.at (fun i h1 h2 => Ha i (by omega)) (fun i h1 h2 => Hc i (by omega))
  have K40 : kDesk kd a41 (j + 40) c41 := K40.at (fun i h1 h2 => Ha i (by omega)) (fun i h1 h2 => Hc i (by omega))
  have K44 : kSheet kd a41 (j + 44) c41 := K44.at (fun i h1 h2 => Ha i (by omega)) (fun i h1 h2 => Hc i (by omega))
  have K46 : kSheet kd a41 (j + 46) c41 := K46.at (fun i h1 h2 => Ha i (by omega)) (fun i h1 h2 => Hc i (by omega))
  have K48 : kSheet kd a41 (j + 48) c41 := K48.at (fun i h1 h2 => Ha i (by omega)) (fun i h1 h2 => Hc i (by omega))
  have K50 : kSheet kd a41 (j + 50) c41 := K50.at (fun i h1 h2 => Ha i (by omega)) (fun i h1 h2 => Hc i (by omega))
  have K43 : c41 (j + 43) = xQ (kd 1) 4 (va_up (va_up (va_up (va_up (fun _ => none) 0 (some t20)) 1 (some t23)) 2 (some t26)) 3 (some t29)) := (Hc (j + 43) (by omega)).trans K43
  have K52 : kVoices kd a41 (j + 52) c41 := K52.at (fun i h1 h2 => Ha i (by omega)) (fun i h1 h2 => Hc i (by omega))
  have K54 : c41 (j + 54) = .inl (kd 0, 6, .inl (fun _ => 0)) := (Hc (j + 54) (by omega)).trans K54
  have K55 : kReader kd a41 (j + 55) c41 := K55.at (fun i h1 h2 => Ha i (by omega)) (fun i h1 h2 => Hc i (by omega))
  have TA60 : a41 (j + 60) = t41 := T
  have Z60 : c41 (j + 60) = .inr (6, [.int 0, .int 0, .int 0, .null, .int 0, .null, .null, .null]) := Kn
  refine n_dup h dX9_init_152 (q := 153) rfl rfl ?_
  refine n_initN h (j := j + 60) (c_X6_init Z60) cal_X6_init m78 m77 rfl TA60 ⟨rfl, rfl, Nat.le_of_ble_eq_true rfl, Nat.le_of_ble_eq_true rfl⟩ ⟨Nat.le_of_ble_eq_true rfl, Nat.le_of_ble_eq_true rfl⟩ (Nat.le_of_ble_eq_true rfl) dX9_init_153 (q := 156) rfl (fun a42 c42 P => ?_)
  obtain ⟨Ha, Hc, Kn⟩ := P
  have HA : ∀ i, i ≤ j → a42 i = a i := fun i hi => (Ha i (by omega)).trans (HA i hi)
  have HC : ∀ i, i < j → c42 i = c i := fun i hi => (Hc i (by omega)).trans (HC i hi)
  have HO : c42 j = .inr (9, [.ref t1, .ref t4, .ref t7, .ref t10, .ref t13, .ref t16, .int 0, .ref t19, .ref t33, .ref t36, .ref t38, .null, .null, .null]) := (Hc j (by omega)).trans HO
  have TA1 : a42 (j + 1) = t1 := (Ha (j + 1) (by omega)).trans TA1
  have TA10 : a42 (j + 10) = t4 := (Ha (j + 10) (by omega)).trans TA10
  have TA19 : a42 (j + 19) = t7 := (Ha (j + 19) (by omega)).trans TA19
  have TA22 : a42 (j + 22) = t10 := (Ha (j + 22) (by omega)).trans TA22
  have TA31 : a42 (j + 31) = t13 := (Ha (j + 31) (by omega)).trans TA31
  have TA40 : a42 (j + 40) = t16 := (Ha (j + 40) (by omega)).trans TA40
  have TA43 : a42 (j + 43) = t19 := (Ha (j + 43) (by omega)).trans TA43
  have TA44 : a42 (j + 44) = t20 := (Ha (j + 44) (by omega)).trans TA44
  have TA46 : a42 (j + 46) = t23 := (Ha (j + 46) (by omega)).trans TA46
  have TA48 : a42 (j + 48) = t26 := (Ha (j + 48) (by omega)).trans TA48
  have TA50 : a42 (j + 50) = t29 := (Ha (j + 50) (by omega)).trans TA50
  have TA52 : a42 (j + 52) = t33 := (Ha (j + 52) (by omega)).trans TA52
  have TA54 : a42 (j + 54) = t36 := (Ha (j + 54) (by omega)).trans TA54
  have TA55 : a42 (j + 55) = t38 := (Ha (j + 55) (by omega)).trans TA55
  have TA60 : a42 (j + 60) = t41 := (Ha (j + 60) (by omega)).trans TA60
  have K1 : kLaws kd a42 (j + 1) c42 := K1.at (fun i h1 h2 => Ha i (by omega)) (fun i h1 h2 => Hc i (by omega))
  have K10 : kScene kd a42 (j + 10) c42 := K10.at (fun i h1 h2 => Ha i (by omega)) (fun i h1 h2 => Hc i (by omega))
  have K19 : kDesk kd a42 (j + 19) c42 := K19.at (fun i h1 h2 => Ha i (by omega)) (fun i h1 h2 => Hc i (by omega))
  have K22 : kLaws kd a42 (j + 22) c42 := K22.at (fun i h1 h2 => Ha i (by omega)) (fun i h1 h2 => Hc i (by omega))
  have K31 : kScene kd a42 (j + 31) c42 := K31.at (fun i h1 h2 => Ha i (by omega)) (fun i h1 h2 => Hc i (by omega))
  have K40 : kDesk kd a42 (j + 40) c42 := K40.at (fun i h1 h2 => Ha i (by omega)) (fun i h1 h2 => Hc i (by omega))
  have K44 : kSheet kd a42 (j + 44) c42 := K44.at (fun i h1 h2 => Ha i (by omega)) (fun i h1 h2 => Hc i (by omega))
  have K46 : kSheet kd a42 (j + 46) c42 := K46.at (fun i h1 h2 => Ha i (by omega)) (fun i h1 h2 => Hc i (by omega))
  have K48 : kSheet kd a42 (j + 48) c42 := K48.at (fun i h1 h2 => Ha i (by omega)) (fun i h1 h2 => Hc i (by omega))
  have K50 : kSheet kd a42 (j + 50) c42 := K50.at (fun i h1 h2 => Ha i (by omega)) (fun i h1 h2 => Hc i (by omega))
  have K43 : c42 (j + 43) = xQ (kd 1) 4 (va_up (va_up (va_up (va_up (fun _ => none) 0 (some t20)) 1 (some t23)) 2 (some t26)) 3 (some t29)) := (Hc (j + 43) (by omega)).trans K43
  have K52 : kVoices kd a42 (j + 52) c42 := K52.at (fun i h1 h2 => Ha i (by omega)) (fun i h1 h2 => Hc i (by omega))
  have K54 : c42 (j + 54) = .inl (kd 0, 6, .inl (fun _ => 0)) := (Hc (j + 54) (by omega)).trans K54
  have K55 : kReader kd a42 (j + 55) c42 := K55.at (fun i h1 h2 => Ha i (by omega)) (fun i h1 h2 => Hc i (by omega))
  have K60 : kScene kd a42 (j + 60) c42 := Kn
  refine n_putF h hin (j := j) (k := 11) cls9 (by omega) (HA j (Nat.le_refl j)) HO (Nat.le_of_ble_eq_true rfl) m276 rfl rfl ⟨rfl, rfl⟩ (Nat.le_of_ble_eq_true rfl) dX9_init_156 (q := 159) rfl (fun c43 Hc Kn => ?_)
  have HC : ∀ i, i < j → c43 i = c i := fun i hi => (Hc i (by omega)).trans (HC i hi)
  have HO : c43 j = .inr (9, [.ref t1, .ref t4, .ref t7, .ref t10, .ref t13, .ref t16, .int 0, .ref t19, .ref t33, .ref t36, .ref t38, .ref t41, .null, .null]) := Kn
  have K1 : kLaws kd a42 (j + 1) c43 := K1.at (fun i h1 h2 => rfl) (fun i h1 h2 => Hc i (by omega))
  have K10 : kScene kd a42 (j + 10) c43 := K10.at (fun i h1 h2 => rfl) (fun i h1 h2 => Hc i (by omega))
  have K19 : kDesk kd a42 (j + 19) c43 := K19.at (fun i h1 h2 => rfl) (fun i h1 h2 => Hc i (by omega))
  have K22 : kLaws kd a42 (j + 22) c43 := K22.at (fun i h1 h2 => rfl) (fun i h1 h2 => Hc i (by omega))
  have K31 : kScene kd a42 (j + 31) c43 := K31.at (fun i h1 h2 => rfl) (fun i h1 h2 => Hc i (by omega))
  have K40 : kDesk kd a42 (j + 40) c43 := K40.at (fun i h1 h2 => rfl) (fun i h1 h2 => Hc i (by omega))
  have K44 : kSheet kd a42 (j + 44) c43 := K44.at (fun i h1 h2 => rfl) (fun i h1 h2 => Hc i (by omega))
  have K46 : kSheet kd a42 (j + 46) c43 := K46.at (fun i h1 h2 => rfl) (fun i h1 h2 => Hc i (by omega))
  have K48 : kSheet kd a42 (j + 48) c43 := K48.at (fun i h1 h2 => rfl) (fun i h1 h2 => Hc i (by omega))
  have K50 : kSheet kd a42 (j + 50) c43 := K50.at (fun i h1 h2 => rfl) (fun i h1 h2 => Hc i (by omega))
  have K43 : c43 (j + 43) = xQ (kd 1) 4 (va_up (va_up (va_up (va_up (fun _ => none) 0 (some t20)) 1 (some t23)) 2 (some t26)) 3 (some t29)) := (Hc (j + 43) (by omega)).trans K43
  have K52 : kVoices kd a42 (j + 52) c43 := K52.at (fun i h1 h2 => rfl) (fun i h1 h2 => Hc i (by omega))
  have K54 : c43 (j + 54) = .inl (kd 0, 6, .inl (fun _ => 0)) := (Hc (j + 54) (by omega)).trans K54
  have K55 : kReader kd a42 (j + 55) c43 := K55.at (fun i h1 h2 => rfl) (fun i h1 h2 => Hc i (by omega))
  have K60 : kScene kd a42 (j + 60) c43 := K60.at (fun i h1 h2 => rfl) (fun i h1 h2 => Hc i (by omega))
  refine n_aload_n h (i := 0) dX9_init_159 (q := 160) rfl rfl 0 rfl ?_
  refine n_new h (fs := [.null, .int 0, .int 0, .null, .null]) cls4 m238 m239 m11 (by decide) (Nat.le_of_ble_eq_true rfl) (Nat.le_of_ble_eq_true rfl) dX9_init_160 (q := 163) rfl (fun t44 a44 c44 T Ha Hc Kn => ?_)
  have HA : ∀ i, i ≤ j → a44 i = a i := fun i hi => (Ha i (by omega)).trans (HA i hi)
  have HC : ∀ i, i < j → c44 i = c i := fun i hi => (Hc i (by omega)).trans (HC i hi)
  have HO : c44 j = .inr (9, [.ref t1, .ref t4, .ref t7, .ref t10, .ref t13, .ref t16, .int 0, .ref t19, .ref t33, .ref t36, .ref t38, .ref t41, .null, .null]) := (Hc j (by omega)).trans HO
  have TA1 : a44 (j + 1) = t1 := (Ha (j + 1) (by omega)).trans TA1
  have TA10 : a44 (j + 10) = t4 := (Ha (j + 10) (by omega)).trans TA10
  have TA19 : a44 (j + 19) = t7 := (Ha (j + 19) (by omega)).trans TA19
  have TA22 : a44 (j + 22) = t10 := (Ha (j + 22) (by omega)).trans TA22
  have TA31 : a44 (j + 31) = t13 := (Ha (j + 31) (by omega)).trans TA31
  have TA40 : a44 (j + 40) = t16 := (Ha (j + 40) (by omega)).trans TA40
  have TA43 : a44 (j + 43) = t19 := (Ha (j + 43) (by omega)).trans TA43
  have TA44 : a44 (j + 44) = t20 := (Ha (j + 44) (by omega)).trans TA44
  have TA46 : a44 (j + 46) = t23 := (Ha (j + 46) (by omega)).trans TA46
  have TA48 : a44 (j + 48) = t26 := (Ha (j + 48) (by omega)).trans TA48
  have TA50 : a44 (j + 50) = t29 := (Ha (j + 50) (by omega)).trans TA50
  have TA52 : a44 (j + 52) = t33 := (Ha (j + 52) (by omega)).trans TA52
  have TA54 : a44 (j + 54) = t36 := (Ha (j + 54) (by omega)).trans TA54
  have TA55 : a44 (j + 55) = t38 := (Ha (j + 55) (by omega)).trans TA55
  have TA60 : a44 (j + 60) = t41 := (Ha (j + 60) (by omega)).trans TA60
  have K1 : kLaws kd a44 (j + 1) c44 := K1.at (fun i h1 h2 => Ha i (by omega)) (fun i h1 h2 => Hc i (by omega))
  have K10 : kScene kd a44 (j + 10) c44 := K10.at (fun i h1 h2 => Ha i (by omega)) (fun i h1 h2 => Hc i (by omega))
  have K19 : kDesk kd a44 (j + 19) c44 := K19.at (fun i h1 h2 => Ha i (by omega)) (fun i h1 h2 => Hc i (by omega))
  have K22 : kLaws kd a44 (j + 22) c44 := K22.at (fun i h1 h2 => Ha i (by omega)) (fun i h1 h2 => Hc i (by omega))
  have K31 : kScene kd a44 (j + 31) c44 := K31.at (fun i h1 h2 => Ha i (by omega)) (fun i h1 h2 => Hc i (by omega))
  have K40 : kDesk kd a44 (j + 40) c44 := K40.at (fun i h1 h2 => Ha i (by omega)) (fun i h1 h2 => Hc i (by omega))
  have K44 : kSheet kd a44 (j + 44) c44 := K44.at (fun i h1 h2 => Ha i (by omega)) (fun i h1 h2 => Hc i (by omega))
  have K46 : kSheet kd a44 (j + 46) c44 := K46.at (fun i h1 h2 => Ha i (by omega)) (fun i h1 h2 => Hc i (by omega))
  have K48 : kSheet kd a44 (j + 48) c44 := K48.at (fun i h1 h2 => Ha i (by omega)) (fun i h1 h2 => Hc i (by omega))
  have K50 : kSheet kd a44 (j + 50) c44 := K50.at (fun i h1 h2 => Ha i (by omega)) (fun i h1 h2 => Hc i (by omega))
  have K43 : c44 (j + 43) = xQ (kd 1) 4 (va_up (va_up (va_up (va_up (fun _ => none) 0 (some t20)) 1 (some t23)) 2 (some t26)) 3 (some t29)) := (Hc (j + 43) (by omega)).trans K43
  have K52 : kVoices kd a44 (j + 52) c44 := K52.at (fun i h1 h2 => Ha i (by omega)) (fun i h1 h2 => Hc i (by omega))
  have K54 : c44 (j + 54) = .inl (kd 0, 6, .inl (fun _ => 0)) := (Hc (j + 54) (by omega)).trans K54
  have K55 : kReader kd a44 (j + 55) c44 := K55.at (fun i h1 h2 => Ha i (by omega)) (fun i h1 h2 => Hc i (by omega))
  have K60 : kScene kd a44 (j + 60) c44 := K60.at (fun i h1 h2 => Ha i (by omega)) (fun i h1 h2 => Hc i (by omega))
  have TA69 : a44 (j + 69) = t44 := T
  have Z69 : c44 (j + 69) = .inr (4, [.null, .int 0, .int 0, .null, .null]) := Kn
  refine n_dup h dX9_init_163 (q := 164) rfl rfl ?_
  refine n_initN h (j := j + 69) (c_X4_init Z69) cal_X4_init m241 m240 rfl TA69 ⟨rfl, rfl, Nat.le_of_ble_eq_true rfl, Nat.le_of_ble_eq_true rfl⟩ ⟨Nat.le_of_ble_eq_true rfl, Nat.le_of_ble_eq_true rfl⟩ (Nat.le_of_ble_eq_true rfl) dX9_init_164 (q := 167) rfl (fun a45 c45 P => ?_)
  obtain ⟨Ha, Hc, Kn⟩ := P
  have HA : ∀ i, i ≤ j → a45 i = a i := fun i hi => (Ha i (by omega)).trans (HA i hi)
  have HC : ∀ i, i < j → c45 i = c i := fun i hi => (Hc i (by omega)).trans (HC i hi)
  have HO : c45 j = .inr (9, [.ref t1, .ref t4, .ref t7, .ref t10, .ref t13, .ref t16, .int 0, .ref t19, .ref t33, .ref t36, .ref t38, .ref t41, .null, .null]) := (Hc j (by omega)).trans HO
  have TA1 : a45 (j + 1) = t1 := (Ha (j + 1) (by omega)).trans TA1
  have TA10 : a45 (j + 10) = t4 := (Ha (j + 10) (by omega)).trans TA10
  have TA19 : a45 (j + 19) = t7 := (Ha (j + 19) (by omega)).trans TA19
  have TA22 : a45 (j + 22) = t10 := (Ha (j + 22) (by omega)).trans TA22
  have TA31 : a45 (j + 31) = t13 := (Ha (j + 31) (by omega)).trans TA31
  have TA40 : a45 (j + 40) = t16 := (Ha (j + 40) (by omega)).trans TA40
  have TA43 : a45 (j + 43) = t19 := (Ha (j + 43) (by omega)).trans TA43
  have TA44 : a45 (j + 44) = t20 := (Ha (j + 44) (by omega)).trans TA44
  have TA46 : a45 (j + 46) = t23 := (Ha (j + 46) (by omega)).trans TA46
  have TA48 : a45 (j + 48) = t26 := (Ha (j + 48) (by omega)).trans TA48
  have TA50 : a45 (j + 50) = t29 := (Ha (j + 50) (by omega)).trans TA50
  have TA52 : a45 (j + 52) = t33 := (Ha (j + 52) (by omega)).trans TA52
  have TA54 : a45 (j + 54) = t36 := (Ha (j + 54) (by omega)).trans TA54
  have TA55 : a45 (j + 55) = t38 := (Ha (j + 55) (by omega)).trans TA55
  have TA60 : a45 (j + 60) = t41 := (Ha (j + 60) (by omega)).trans TA60
  have TA69 : a45 (j + 69) = t44 := (Ha (j + 69) (by omega)).trans TA69
  have K1 : kLaws kd a45 (j + 1) c45 := K1.at (fun i h1 h2 => Ha i (by omega)) (fun i h1 h2 => Hc i (by omega))
  have K10 : kScene kd a45 (j + 10) c45 := K10.at (fun i h1 h2 => Ha i (by omega)) (fun i h1 h2 => Hc i (by omega))
  have K19 : kDesk kd a45 (j + 19) c45 := K19.at (fun i h1 h2 => Ha i (by omega)) (fun i h1 h2 => Hc i (by omega))
  have K22 : kLaws kd a45 (j + 22) c45 := K22.at (fun i h1 h2 => Ha i (by omega)) (fun i h1 h2 => Hc i (by omega))
  have K31 : kScene kd a45 (j + 31) c45 := K31.at (fun i h1 h2 => Ha i (by omega)) (fun i h1 h2 => Hc i (by omega))
  have K40 : kDesk kd a45 (j + 40) c45 := K40.at (fun i h1 h2 => Ha i (by omega)) (fun i h1 h2 => Hc i (by omega))
  have K44 : kSheet kd a45 (j + 44) c45 := K44.at (fun i h1 h2 => Ha i (by omega)) (fun i h1 h2 => Hc i (by omega))
  have K46 : kSheet kd a45 (j + 46) c45 := K46.at (fun i h1 h2 => Ha i (by omega)) (fun i h1 h2 => Hc i (by omega))
  have K48 : kSheet kd a45 (j + 48) c45 := K48.at (fun i h1 h2 => Ha i (by omega)) (fun i h1 h2 => Hc i (by omega))
  have K50 : kSheet kd a45 (j + 50) c45 := K50.at (fun i h1 h2 => Ha i (by omega)) (fun i h1 h2 => Hc i (by omega))
  have K43 : c45 (j + 43) = xQ (kd 1) 4 (va_up (va_up (va_up (va_up (fun _ => none) 0 (some t20)) 1 (some t23)) 2 (some t26)) 3 (some t29)) := (Hc (j + 43) (by omega)).trans K43
  have K52 : kVoices kd a45 (j + 52) c45 := K52.at (fun i h1 h2 => Ha i (by omega)) (fun i h1 h2 => Hc i (by omega))
  have K54 : c45 (j + 54) = .inl (kd 0, 6, .inl (fun _ => 0)) := (Hc (j + 54) (by omega)).trans K54
  have K55 : kReader kd a45 (j + 55) c45 := K55.at (fun i h1 h2 => Ha i (by omega)) (fun i h1 h2 => Hc i (by omega))
  have K60 : kScene kd a45 (j + 60) c45 := K60.at (fun i h1 h2 => Ha i (by omega)) (fun i h1 h2 => Hc i (by omega))
  have K69 : kOutlook kd a45 (j + 69) c45 := Kn
  refine n_putF h hin (j := j) (k := 12) cls9 (by omega) (HA j (Nat.le_refl j)) HO (Nat.le_of_ble_eq_true rfl) m277 rfl rfl ⟨rfl, rfl⟩ (Nat.le_of_ble_eq_true rfl) dX9_init_167 (q := 170) rfl (fun c46 Hc Kn => ?_)
  have HC : ∀ i, i < j → c46 i = c i := fun i hi => (Hc i (by omega)).trans (HC i hi)
  have HO : c46 j = .inr (9, [.ref t1, .ref t4, .ref t7, .ref t10, .ref t13, .ref t16, .int 0, .ref t19, .ref t33, .ref t36, .ref t38, .ref t41, .ref t44, .null]) := Kn
  have K1 : kLaws kd a45 (j + 1) c46 := K1.at (fun i h1 h2 => rfl) (fun i h1 h2 => Hc i (by omega))
  have K10 : kScene kd a45 (j + 10) c46 := K10.at (fun i h1 h2 => rfl) (fun i h1 h2 => Hc i (by omega))
  have K19 : kDesk kd a45 (j + 19) c46 := K19.at (fun i h1 h2 => rfl) (fun i h1 h2 => Hc i (by omega))
  have K22 : kLaws kd a45 (j + 22) c46 := K22.at (fun i h1 h2 => rfl) (fun i h1 h2 => Hc i (by omega))
  have K31 : kScene kd a45 (j + 31) c46 := K31.at (fun i h1 h2 => rfl) (fun i h1 h2 => Hc i (by omega))
  have K40 : kDesk kd a45 (j + 40) c46 := K40.at (fun i h1 h2 => rfl) (fun i h1 h2 => Hc i (by omega))
  have K44 : kSheet kd a45 (j + 44) c46 := K44.at (fun i h1 h2 => rfl) (fun i h1 h2 => Hc i (by omega))
  have K46 : kSheet kd a45 (j + 46) c46 := K46.at (fun i h1 h2 => rfl) (fun i h1 h2 => Hc i (by omega))
  have K48 : kSheet kd a45 (j + 48) c46 := K48.at (fun i h1 h2 => rfl) (fun i h1 h2 => Hc i (by omega))
  have K50 : kSheet kd a45 (j + 50) c46 := K50.at (fun i h1 h2 => rfl) (fun i h1 h2 => Hc i (by omega))
  have K43 : c46 (j + 43) = xQ (kd 1) 4 (va_up (va_up (va_up (va_up (fun _ => none) 0 (some t20)) 1 (some t23)) 2 (some t26)) 3 (some t29)) := (Hc (j + 43) (by omega)).trans K43
  have K52 : kVoices kd a45 (j + 52) c46 := K52.at (fun i h1 h2 => rfl) (fun i h1 h2 => Hc i (by omega))
  have K54 : c46 (j + 54) = .inl (kd 0, 6, .inl (fun _ => 0)) := (Hc (j + 54) (by omega)).trans K54
  have K55 : kReader kd a45 (j + 55) c46 := K55.at (fun i h1 h2 => rfl) (fun i h1 h2 => Hc i (by omega))
  have K60 : kScene kd a45 (j + 60) c46 := K60.at (fun i h1 h2 => rfl) (fun i h1 h2 => Hc i (by omega))
  have K69 : kOutlook kd a45 (j + 69) c46 := K69.at (fun i h1 h2 => rfl) (fun i h1 h2 => Hc i (by omega))
  refine n_aload_n h (i := 0) dX9_init_170 (q := 171) rfl rfl 0 rfl ?_
  refine n_bipush h (v := 64) dX9_init_171 (q := 173) rfl (by decide) ?_
  refine n_newa h (N := 64) m52 (by decide) (by decide) (Nat.le_of_ble_eq_true rfl) (Nat.le_of_ble_eq_true rfl) (Nat.le_of_ble_eq_true rfl) dX9_init_173 (q := 175) rfl (fun t47 a47 c47 T Ha Hc Kn => ?_)
  have HA : ∀ i, i ≤ j → a47 i = a i := fun i hi => (Ha i (by omega)).trans (HA i hi)
  have HC : ∀ i, i < j → c47 i = c i := fun i hi => (Hc i (by omega)).trans (HC i hi)
  have HO : c47 j = .inr (9, [.ref t1, .ref t4, .ref t7, .ref t10, .ref t13, .ref t16, .int 0, .ref t19, .ref t33, .ref t36, .ref t38, .ref t41, .ref t44, .null]) := (Hc j (by omega)).trans HO
  have TA1 : a47 (j + 1) = t1 := (Ha (j + 1) (by omega)).trans TA1
  have TA10 : a47 (j + 10) = t4 := (Ha (j + 10) (by omega)).trans TA10
  have TA19 : a47 (j + 19) = t7 := (Ha (j + 19) (by omega)).trans TA19
  have TA22 : a47 (j + 22) = t10 := (Ha (j + 22) (by omega)).trans TA22
  have TA31 : a47 (j + 31) = t13 := (Ha (j + 31) (by omega)).trans TA31
  have TA40 : a47 (j + 40) = t16 := (Ha (j + 40) (by omega)).trans TA40
  have TA43 : a47 (j + 43) = t19 := (Ha (j + 43) (by omega)).trans TA43
  have TA44 : a47 (j + 44) = t20 := (Ha (j + 44) (by omega)).trans TA44
  have TA46 : a47 (j + 46) = t23 := (Ha (j + 46) (by omega)).trans TA46
  have TA48 : a47 (j + 48) = t26 := (Ha (j + 48) (by omega)).trans TA48
  have TA50 : a47 (j + 50) = t29 := (Ha (j + 50) (by omega)).trans TA50
  have TA52 : a47 (j + 52) = t33 := (Ha (j + 52) (by omega)).trans TA52
  have TA54 : a47 (j + 54) = t36 := (Ha (j + 54) (by omega)).trans TA54
  have TA55 : a47 (j + 55) = t38 := (Ha (j + 55) (by omega)).trans TA55
  have TA60 : a47 (j + 60) = t41 := (Ha (j + 60) (by omega)).trans TA60
  have TA69 : a47 (j + 69) = t44 := (Ha (j + 69) (by omega)).trans TA69
  have K1 : kLaws kd a47 (j + 1) c47 := K1.at (fun i h1 h2 => Ha i (by omega)) (fun i h1 h2 => Hc i (by omega))
  have K10 : kScene kd a47 (j + 10) c47 := K10.at (fun i h1 h2 => Ha i (by omega)) (fun i h1 h2 => Hc i (by omega))
  have K19 : kDesk kd a47 (j + 19) c47 := K19.at (fun i h1 h2 => Ha i (by omega)) (fun i h1 h2 => Hc i (by omega))
  have K22 : kLaws kd a47 (j + 22) c47 := K22.at (fun i h1 h2 => Ha i (by omega)) (fun i h1 h2 => Hc i (by omega))
  have K31 : kScene kd a47 (j + 31) c47 := K31.at (fun i h1 h2 => Ha i (by omega)) (fun i h1 h2 => Hc i (by omega))
  have K40 : kDesk kd a47 (j + 40) c47 := K40.at (fun i h1 h2 => Ha i (by omega)) (fun i h1 h2 => Hc i (by omega))
  have K44 : kSheet kd a47 (j + 44) c47 := K44.at (fun i h1 h2 => Ha i (by omega)) (fun i h1 h2 => Hc i (by omega))
  have K46 : kSheet kd a47 (j + 46) c47 := K46.at (fun i h1 h2 => Ha i (by omega)) (fun i h1 h2 => Hc i (by omega))
  have K48 : kSheet kd a47 (j + 48) c47 := K48.at (fun i h1 h2 => Ha i (by omega)) (fun i h1 h2 => Hc i (by omega))
  have K50 : kSheet kd a47 (j + 50) c47 := K50.at (fun i h1 h2 => Ha i (by omega)) (fun i h1 h2 => Hc i (by omega))
  have K43 : c47 (j + 43) = xQ (kd 1) 4 (va_up (va_up (va_up (va_up (fun _ => none) 0 (some t20)) 1 (some t23)) 2 (some t26)) 3 (some t29)) := (Hc (j + 43) (by omega)).trans K43
  have K52 : kVoices kd a47 (j + 52) c47 := K52.at (fun i h1 h2 => Ha i (by omega)) (fun i h1 h2 => Hc i (by omega))
  have K54 : c47 (j + 54) = .inl (kd 0, 6, .inl (fun _ => 0)) := (Hc (j + 54) (by omega)).trans K54
  have K55 : kReader kd a47 (j + 55) c47 := K55.at (fun i h1 h2 => Ha i (by omega)) (fun i h1 h2 => Hc i (by omega))
  have K60 : kScene kd a47 (j + 60) c47 := K60.at (fun i h1 h2 => Ha i (by omega)) (fun i h1 h2 => Hc i (by omega))
  have K69 : kOutlook kd a47 (j + 69) c47 := K69.at (fun i h1 h2 => Ha i (by omega)) (fun i h1 h2 => Hc i (by omega))
  have TA206 : a47 (j + 206) = t47 := T
  have K206 : c47 (j + 206) = .inl (kd 0, 64, .inl (fun _ => 0)) := Kn
  refine n_putF h hin (j := j) (k := 13) cls9 (by omega) (HA j (Nat.le_refl j)) HO (Nat.le_of_ble_eq_true rfl) m278 rfl rfl ⟨rfl, rfl⟩ (Nat.le_of_ble_eq_true rfl) dX9_init_175 (q := 178) rfl (fun c48 Hc Kn => ?_)
  have HC : ∀ i, i < j → c48 i = c i := fun i hi => (Hc i (by omega)).trans (HC i hi)
  have HO : c48 j = .inr (9, [.ref t1, .ref t4, .ref t7, .ref t10, .ref t13, .ref t16, .int 0, .ref t19, .ref t33, .ref t36, .ref t38, .ref t41, .ref t44, .ref t47]) := Kn
  have K1 : kLaws kd a47 (j + 1) c48 := K1.at (fun i h1 h2 => rfl) (fun i h1 h2 => Hc i (by omega))
  have K10 : kScene kd a47 (j + 10) c48 := K10.at (fun i h1 h2 => rfl) (fun i h1 h2 => Hc i (by omega))
  have K19 : kDesk kd a47 (j + 19) c48 := K19.at (fun i h1 h2 => rfl) (fun i h1 h2 => Hc i (by omega))
  have K22 : kLaws kd a47 (j + 22) c48 := K22.at (fun i h1 h2 => rfl) (fun i h1 h2 => Hc i (by omega))
  have K31 : kScene kd a47 (j + 31) c48 := K31.at (fun i h1 h2 => rfl) (fun i h1 h2 => Hc i (by omega))
  have K40 : kDesk kd a47 (j + 40) c48 := K40.at (fun i h1 h2 => rfl) (fun i h1 h2 => Hc i (by omega))
  have K44 : kSheet kd a47 (j + 44) c48 := K44.at (fun i h1 h2 => rfl) (fun i h1 h2 => Hc i (by omega))
  have K46 : kSheet kd a47 (j + 46) c48 := K46.at (fun i h1 h2 => rfl) (fun i h1 h2 => Hc i (by omega))
  have K48 : kSheet kd a47 (j + 48) c48 := K48.at (fun i h1 h2 => rfl) (fun i h1 h2 => Hc i (by omega))
  have K50 : kSheet kd a47 (j + 50) c48 := K50.at (fun i h1 h2 => rfl) (fun i h1 h2 => Hc i (by omega))
  have K43 : c48 (j + 43) = xQ (kd 1) 4 (va_up (va_up (va_up (va_up (fun _ => none) 0 (some t20)) 1 (some t23)) 2 (some t26)) 3 (some t29)) := (Hc (j + 43) (by omega)).trans K43
  have K52 : kVoices kd a47 (j + 52) c48 := K52.at (fun i h1 h2 => rfl) (fun i h1 h2 => Hc i (by omega))
  have K54 : c48 (j + 54) = .inl (kd 0, 6, .inl (fun _ => 0)) := (Hc (j + 54) (by omega)).trans K54
  have K55 : kReader kd a47 (j + 55) c48 := K55.at (fun i h1 h2 => rfl) (fun i h1 h2 => Hc i (by omega))
  have K60 : kScene kd a47 (j + 60) c48 := K60.at (fun i h1 h2 => rfl) (fun i h1 h2 => Hc i (by omega))
  have K69 : kOutlook kd a47 (j + 69) c48 := K69.at (fun i h1 h2 => rfl) (fun i h1 h2 => Hc i (by omega))
  have K206 : c48 (j + 206) = .inl (kd 0, 64, .inl (fun _ => 0)) := (Hc (j + 206) (by omega)).trans K206
  exact n_ret h hr hlk dX9_init_178 ⟨HA, HC, (by rw [TA1, TA10, TA19, TA22, TA31, TA40, TA43, TA52, TA54, TA55, TA60, TA69, TA206]; exact HO), K1, K10, K19, K22, K31, K40, (by rw [TA44, TA46, TA48, TA50]; exact K43), K44, K46, K48, K50, K52, K54, K55, K60, K69, K206⟩
