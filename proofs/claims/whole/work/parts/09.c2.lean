set_option maxHeartbeats 4000000 in
set_option maxRecDepth 100000 in
theorem c_X0_hold {w : bw} {σ : bSt} {me : Nat} {b : Int32} (hs : sBoats w me) : MV yX0_hold cX0_hold 2 (some .boolean) (rmm 0 0) w [.ref (b_ad w me), .int b] σ (pB (hB σ me b) σ) := by
  refine b_met (ls := [(0, .ref (b_ad w me)), (1, .int b)]) (by decide) (Nat.le_of_ble_eq_true rfl) rfl (fun x h => ?_)
  refine v_iload_n h (i := 1) dX0_hold_0 (q := 1) rfl rfl 1 rfl ?_
  refine v_if_lt h (t := 22) dX0_hold_1 (by decide) (q := 4) rfl (fun c1 => ?_) (fun c1 => ?_)
  · refine v_iconst h (v := 0) dX0_hold_22 (q := 23) rfl (by decide) ?_
    exact v_zret h rfl dX0_hold_23 (pB0 (fun z => by first | exact z.1 (by assumption) | exact z.2.1 (by assumption) | exact z.2.2 (by assumption)))
  · refine v_iload_n h (i := 1) dX0_hold_4 (q := 5) rfl rfl 1 rfl ?_
    refine v_aload_n h (i := 0) dX0_hold_5 (q := 6) rfl rfl 0 rfl ?_
    refine v_get h (k := 0) (v := .int (σ me 0)) cls0 hs.1.1 hs.1.2 (Nat.le_of_ble_eq_true rfl) m87 rfl dX0_hold_6 (q := 9) rfl ?_
    refine v_icmp_ge h (t := 22) dX0_hold_9 (by decide) (q := 12) rfl (fun c9 => ?_) (fun c9 => ?_)
    · refine v_iconst h (v := 0) dX0_hold_22 (q := 23) rfl (by decide) ?_
      exact v_zret h rfl dX0_hold_23 (pB0 (fun z => by first | exact z.1 (by assumption) | exact z.2.1 (by assumption) | exact z.2.2 (by assumption)))
    · refine v_iload_n h (i := 1) dX0_hold_12 (q := 13) rfl rfl 1 rfl ?_
      refine v_bipush h (v := 9) dX0_hold_13 (q := 15) rfl (by decide) ?_
      refine v_icmp_ge h (t := 22) dX0_hold_15 (by decide) (q := 18) rfl (fun c15 => ?_) (fun c15 => ?_)
      · refine v_iconst h (v := 0) dX0_hold_22 (q := 23) rfl (by decide) ?_
        exact v_zret h rfl dX0_hold_23 (pB0 (fun z => by first | exact z.1 (by assumption) | exact z.2.1 (by assumption) | exact z.2.2 (by assumption)))
      · refine v_iconst h (v := 1) dX0_hold_18 (q := 19) rfl (by decide) ?_
        refine v_goto h (t := 23) dX0_hold_19 (by decide) ?_
        exact v_zret h rfl dX0_hold_23 (pB1 ⟨by assumption, by assumption, by assumption⟩)

set_option maxHeartbeats 4000000 in
set_option maxRecDepth 100000 in
theorem c_X0_sings {w : bw} {σ : bSt} {me : Nat} {b t : Int32} (hs : sBoats w me) : MV yX0_sings cX0_sings 3 (some .boolean) (rmm 1 21) w [.ref (b_ad w me), .int b, .int t] σ (pB (hB σ me b ∧ sgB σ me b.toNatClampNeg t) σ) := by
  refine b_met (ls := [(0, .ref (b_ad w me)), (1, .int b), (2, .int t)]) (by decide) (Nat.le_of_ble_eq_true rfl) rfl (fun x h => ?_)
  refine v_aload_n h (i := 0) dX0_sings_0 (q := 1) rfl rfl 0 rfl ?_
  refine v_iload_n h (i := 1) dX0_sings_1 (q := 2) rfl rfl 1 rfl ?_
  refine v_callV h (As := [.int b]) (rest := []) (c_X0_hold (me := me) (σ := σ) (b := b) hs) cal_X0_hold calV_X0_hold m354 ⟨rfl, rfl, Nat.le_of_ble_eq_true rfl, Nat.le_of_ble_eq_true rfl⟩ rfl hs.1.1 hs.1.2 ⟨_, _, rfl⟩ rfl (Nat.le_of_ble_eq_true rfl) dX0_sings_2 (q := 5) rfl (kB (fun c2 => ?_) (fun c2 => ?_))
  · refine v_if_eq h (t := 26) dX0_sings_5 (by decide) (q := 8) rfl (fun c => absurd c (by decide)) (fun _ => ?_)
    refine v_aload_n h (i := 0) dX0_sings_8 (q := 9) rfl rfl 0 rfl ?_
    refine v_get h (k := 4) (v := .ref (b_ad w (me + 4))) cls0 hs.1.1 hs.1.2 (Nat.le_of_ble_eq_true rfl) m98 rfl dX0_sings_9 (q := 12) rfl ?_
    refine v_iload_n h (i := 1) dX0_sings_12 (q := 13) rfl rfl 1 rfl ?_
    refine v_iald h (k := b.toNatClampNeg) hs.2.2.2.2.1 hs.2.2.2.2.2 (hB_in c2) rfl dX0_sings_13 (q := 14) rfl ?_
    refine v_iload_n h (i := 2) dX0_sings_14 (q := 15) rfl rfl 2 rfl ?_
    refine v_iushr h (v := ushr (σ (me + 4) b.toNatClampNeg) t) dX0_sings_15 (q := 16) rfl rfl ?_
    refine v_iconst h (v := 1) dX0_sings_16 (q := 17) rfl (by decide) ?_
    refine v_iand h dX0_sings_17 (q := 18) rfl ?_
    refine v_iconst h (v := 1) dX0_sings_18 (q := 19) rfl (by decide) ?_
    refine v_icmp_ne h (t := 26) dX0_sings_19 (by decide) (q := 22) rfl (fun c19 => ?_) (fun c19 => ?_)
    · refine v_iconst h (v := 0) dX0_sings_26 (q := 27) rfl (by decide) ?_
      exact v_zret h rfl dX0_sings_27 (pB0 (fun z => by first | exact absurd z.1 (by assumption) | exact absurd z.2 (by assumption)))
    · refine v_iconst h (v := 1) dX0_sings_22 (q := 23) rfl (by decide) ?_
      refine v_goto h (t := 27) dX0_sings_23 (by decide) ?_
      exact v_zret h rfl dX0_sings_27 (pB1 ⟨by assumption, by assumption⟩)
  · refine v_if_eq h (t := 26) dX0_sings_5 (by decide) (q := 8) rfl (fun _ => ?_) (fun c => absurd (by decide) c)
    refine v_iconst h (v := 0) dX0_sings_26 (q := 27) rfl (by decide) ?_
    exact v_zret h rfl dX0_sings_27 (pB0 (fun z => by first | exact absurd z.1 (by assumption) | exact absurd z.2 (by assumption)))

set_option maxHeartbeats 4000000 in
set_option maxRecDepth 100000 in
theorem lX0_singers_4 {w : bw} {σ : bSt} {me : Nat} {t : Int32} (hs : sBoats w me) {x : bX} (h : Cx x w cX0_singers RX0 4 (some .int) (rmm 2 43)) : ∀ n b : Nat, b + n = 9 → ∀ s : Int32, s = sngF σ me t b → V x w 4 (pI (sngF σ me t 9) σ) 4 [(3, .int (nI b)), (2, .int s), (0, .ref (b_ad w me)), (1, .int t)] [] σ := by
  refine b_ind (fun n ih => ?_)
  intro b hbn s es
  refine v_iload_n h (i := 3) dX0_singers_4 (q := 5) rfl rfl 0 rfl ?_
  refine v_aload_n h (i := 0) dX0_singers_5 (q := 6) rfl rfl 2 rfl ?_
  refine v_get h (k := 0) (v := .int (σ me 0)) cls0 hs.1.1 hs.1.2 (Nat.le_of_ble_eq_true rfl) m87 rfl dX0_singers_6 (q := 9) rfl ?_
  refine v_icmp_ge h (t := 39) dX0_singers_9 (by decide) (q := 12) rfl (fun c9 => ?_) (fun c9 => ?_)
  · refine v_iload_n h (i := 2) dX0_singers_39 (q := 40) rfl rfl 1 rfl ?_
    exact v_iret h dX0_singers_40 ⟨by rw [es]; exact congrArg (fun z => some (Value.int z)) (sngF_end hbn (by first | exact Or.inl c9 | exact Or.inr c15)).symm, rfl⟩
  · refine v_iload_n h (i := 3) dX0_singers_12 (q := 13) rfl rfl 0 rfl ?_
    refine v_bipush h (v := 9) dX0_singers_13 (q := 15) rfl (by decide) ?_
    refine v_icmp_ge h (t := 39) dX0_singers_15 (by decide) (q := 18) rfl (fun c15 => ?_) (fun c15 => ?_)
    · refine v_iload_n h (i := 2) dX0_singers_39 (q := 40) rfl rfl 1 rfl ?_
      exact v_iret h dX0_singers_40 ⟨by rw [es]; exact congrArg (fun z => some (Value.int z)) (sngF_end hbn (by first | exact Or.inl c9 | exact Or.inr c15)).symm, rfl⟩
    · have hb9 : b < 9 := nlt rfl (by omega) c15
      refine v_aload_n h (i := 0) dX0_singers_18 (q := 19) rfl rfl 2 rfl ?_
      refine v_iload_n h (i := 3) dX0_singers_19 (q := 20) rfl rfl 0 rfl ?_
      refine v_iload_n h (i := 1) dX0_singers_20 (q := 21) rfl rfl 3 rfl ?_
      refine v_callV h (As := [.int (nI b), .int t]) (rest := []) (c_X0_sings (me := me) (σ := σ) (b := nI b) (t := t) hs) cal_X0_sings calV_X0_sings m444 ⟨rfl, rfl, Nat.le_of_ble_eq_true rfl, Nat.le_of_ble_eq_true rfl⟩ rfl hs.1.1 hs.1.2 ⟨_, _, rfl⟩ rfl (Nat.le_of_ble_eq_true rfl) dX0_singers_21 (q := 24) rfl (kB (fun c21 => ?_) (fun c21 => ?_))
      · refine v_if_eq h (t := 33) dX0_singers_24 (by decide) (q := 27) rfl (fun c => absurd c (by decide)) (fun _ => ?_)
        refine v_iload_n h (i := 2) dX0_singers_27 (q := 28) rfl rfl 1 rfl ?_
        refine v_iconst h (v := 1) dX0_singers_28 (q := 29) rfl (by decide) ?_
        refine v_iload_n h (i := 3) dX0_singers_29 (q := 30) rfl rfl 0 rfl ?_
        refine v_ishl h dX0_singers_30 (q := 31) rfl ?_
        refine v_ior h dX0_singers_31 (q := 32) rfl ?_
        refine v_istore_n h (i := 2) (ls1 := [(2, .int (s ||| (1 <<< ((nI b) &&& 31)))), (3, .int (nI b)), (0, .ref (b_ad w me)), (1, .int t)]) dX0_singers_32 (q := 33) rfl rfl (Nat.le_of_ble_eq_true rfl) rfl ?_
        refine v_iinc h (p := 1) (u := nI (b + 1)) (ls1 := [(3, .int (nI (b + 1))), (2, .int (s ||| (1 <<< ((nI b) &&& 31)))), (0, .ref (b_ad w me)), (1, .int t)]) dX0_singers_33 (q := 36) rfl rfl (nI_1 b) (Nat.le_of_ble_eq_true rfl) rfl ?_
        refine v_goto h (t := 4) dX0_singers_36 (by decide) ?_
        rw [nI_clamp (n := b) (by omega)] at c21
        exact ih (n - 1) (by omega) (b + 1) (by omega) _ (by rw [sngF, es]; first | rw [if_pos c21] | rw [if_neg c21])
      · refine v_if_eq h (t := 33) dX0_singers_24 (by decide) (q := 27) rfl (fun _ => ?_) (fun c => absurd (by decide) c)
        refine v_iinc h (p := 0) (u := nI (b + 1)) (ls1 := [(3, .int (nI (b + 1))), (2, .int s), (0, .ref (b_ad w me)), (1, .int t)]) dX0_singers_33 (q := 36) rfl rfl (nI_1 b) (Nat.le_of_ble_eq_true rfl) rfl ?_
        refine v_goto h (t := 4) dX0_singers_36 (by decide) ?_
        rw [nI_clamp (n := b) (by omega)] at c21
        exact ih (n - 1) (by omega) (b + 1) (by omega) _ (by rw [sngF, es]; first | rw [if_pos c21] | rw [if_neg c21])
set_option maxHeartbeats 4000000 in
set_option maxRecDepth 100000 in
theorem c_X0_singers {w : bw} {σ : bSt} {me : Nat} {t : Int32} (hs : sBoats w me) : MV yX0_singers cX0_singers 4 (some .int) (rmm 2 43) w [.ref (b_ad w me), .int t] σ (pI (sngF σ me t 9) σ) := by
  refine b_met (ls := [(0, .ref (b_ad w me)), (1, .int t)]) (by decide) (Nat.le_of_ble_eq_true rfl) rfl (fun x h => ?_)
  refine v_iconst h (v := 0) dX0_singers_0 (q := 1) rfl (by decide) ?_
  refine v_istore_n h (i := 2) (ls1 := [(2, .int 0), (0, .ref (b_ad w me)), (1, .int t)]) dX0_singers_1 (q := 2) rfl rfl (Nat.le_of_ble_eq_true rfl) rfl ?_
  refine v_iconst h (v := 0) dX0_singers_2 (q := 3) rfl (by decide) ?_
  refine v_istore_n h (i := 3) (ls1 := [(3, .int 0), (2, .int 0), (0, .ref (b_ad w me)), (1, .int t)]) dX0_singers_3 (q := 4) rfl rfl (Nat.le_of_ble_eq_true rfl) rfl ?_
  exact lX0_singers_4 hs h 9 0 rfl 0 rfl

set_option maxHeartbeats 4000000 in
set_option maxRecDepth 100000 in
theorem c_X0_later {w : bw} {σ : bSt} {me : Nat} {b : Int32} (hs : sBoats w me) : MV yX0_later cX0_later 2 (some .int) (rmm 1 21) w [.ref (b_ad w me), .int b] σ (pI (latB σ me b) σ) := by
  refine b_met (ls := [(0, .ref (b_ad w me)), (1, .int b)]) (by decide) (Nat.le_of_ble_eq_true rfl) rfl (fun x h => ?_)
  refine v_aload_n h (i := 0) dX0_later_0 (q := 1) rfl rfl 0 rfl ?_
  refine v_iload_n h (i := 1) dX0_later_1 (q := 2) rfl rfl 1 rfl ?_
  refine v_callV h (As := [.int b]) (rest := []) (c_X0_hold (me := me) (σ := σ) (b := b) hs) cal_X0_hold calV_X0_hold m354 ⟨rfl, rfl, Nat.le_of_ble_eq_true rfl, Nat.le_of_ble_eq_true rfl⟩ rfl hs.1.1 hs.1.2 ⟨_, _, rfl⟩ rfl (Nat.le_of_ble_eq_true rfl) dX0_later_2 (q := 5) rfl (kB (fun c2 => ?_) (fun c2 => ?_))
  · refine v_if_ne h (t := 10) dX0_later_5 (by decide) (q := 8) rfl (fun _ => ?_) (fun c => absurd c (by decide))
    refine v_aload_n h (i := 0) dX0_later_10 (q := 11) rfl rfl 0 rfl ?_
    refine v_get h (k := 1) (v := .ref (b_ad w (me + 1))) cls0 hs.1.1 hs.1.2 (Nat.le_of_ble_eq_true rfl) m90 rfl dX0_later_11 (q := 14) rfl ?_
    refine v_iload_n h (i := 1) dX0_later_14 (q := 15) rfl rfl 1 rfl ?_
    refine v_iald h (k := b.toNatClampNeg) hs.2.1.1 hs.2.1.2 (hB_in c2) rfl dX0_later_15 (q := 16) rfl ?_
    refine v_iconst h (v := 5) dX0_later_16 (q := 17) rfl (by decide) ?_
    refine v_icmp_ne h (t := 29) dX0_later_17 (by decide) (q := 20) rfl (fun c17 => ?_) (fun c17 => ?_)
    · refine v_aload_n h (i := 0) dX0_later_29 (q := 30) rfl rfl 0 rfl ?_
      refine v_get h (k := 1) (v := .ref (b_ad w (me + 1))) cls0 hs.1.1 hs.1.2 (Nat.le_of_ble_eq_true rfl) m90 rfl dX0_later_30 (q := 33) rfl ?_
      refine v_iload_n h (i := 1) dX0_later_33 (q := 34) rfl rfl 1 rfl ?_
      refine v_iald h (k := b.toNatClampNeg) hs.2.1.1 hs.2.1.2 (hB_in c2) rfl dX0_later_34 (q := 35) rfl ?_
      refine v_iconst h (v := 4) dX0_later_35 (q := 36) rfl (by decide) ?_
      refine v_icmp_ne h (t := 48) dX0_later_36 (by decide) (q := 39) rfl (fun c36 => ?_) (fun c36 => ?_)
      · refine v_iconst h (v := 0) dX0_later_48 (q := 49) rfl (by decide) ?_
        exact v_iret h dX0_later_49 ⟨by unfold latB latK; simp only [*]; simp [*], rfl⟩
      · refine v_aload_n h (i := 0) dX0_later_39 (q := 40) rfl rfl 0 rfl ?_
        refine v_get h (k := 2) (v := .ref (b_ad w (me + 2))) cls0 hs.1.1 hs.1.2 (Nat.le_of_ble_eq_true rfl) m92 rfl dX0_later_40 (q := 43) rfl ?_
        refine v_iload_n h (i := 1) dX0_later_43 (q := 44) rfl rfl 1 rfl ?_
        refine v_iald h (k := b.toNatClampNeg) hs.2.2.1.1 hs.2.2.1.2 (hB_in c2) rfl dX0_later_44 (q := 45) rfl ?_
        refine v_goto h (t := 49) dX0_later_45 (by decide) ?_
        exact v_iret h dX0_later_49 ⟨by unfold latB latK; simp only [*]; simp [*], rfl⟩
    · refine v_aload_n h (i := 0) dX0_later_20 (q := 21) rfl rfl 0 rfl ?_
      refine v_get h (k := 2) (v := .ref (b_ad w (me + 2))) cls0 hs.1.1 hs.1.2 (Nat.le_of_ble_eq_true rfl) m92 rfl dX0_later_21 (q := 24) rfl ?_
      refine v_iload_n h (i := 1) dX0_later_24 (q := 25) rfl rfl 1 rfl ?_
      refine v_iald h (k := b.toNatClampNeg) hs.2.2.1.1 hs.2.2.1.2 (hB_in c2) rfl dX0_later_25 (q := 26) rfl ?_
      refine v_iconst h (v := 3) dX0_later_26 (q := 27) rfl (by decide) ?_
      refine v_idiv h dX0_later_27 (q := 28) rfl (by decide) ?_
      exact v_iret h dX0_later_28 ⟨by unfold latB latK; simp only [*]; simp [*], rfl⟩
  · refine v_if_ne h (t := 10) dX0_later_5 (by decide) (q := 8) rfl (fun c => absurd (by decide) c) (fun _ => ?_)
    refine v_iconst h (v := 0) dX0_later_8 (q := 9) rfl (by decide) ?_
    exact v_iret h dX0_later_9 ⟨by unfold latB latK; simp only [*]; simp [*], rfl⟩

set_option maxHeartbeats 4000000 in
set_option maxRecDepth 100000 in
theorem c_X0_rocked {w : bw} {σ : bSt} {cell t tide : Int32}  : MV yX0_rocked cX0_rocked 3 (some .int) (rmm 1 21) w [.int cell, .int t, .int tide] σ (pI (rkC cell t tide) σ) := by
  refine b_met (ls := [(0, .int cell), (1, .int t), (2, .int tide)]) (by decide) (Nat.le_of_ble_eq_true rfl) rfl (fun x h => ?_)
  refine v_iload_n h (i := 1) dX0_rocked_0 (q := 1) rfl rfl 1 rfl ?_
  refine v_iconst h (v := 1) dX0_rocked_1 (q := 2) rfl (by decide) ?_
  refine v_iand h dX0_rocked_2 (q := 3) rfl ?_
  refine v_iconst h (v := 1) dX0_rocked_3 (q := 4) rfl (by decide) ?_
  refine v_icmp_ne h (t := 15) dX0_rocked_4 (by decide) (q := 7) rfl (fun c4 => ?_) (fun c4 => ?_)
  · refine v_iload_n h (i := 0) dX0_rocked_15 (q := 16) rfl rfl 0 rfl ?_
    exact v_iret h dX0_rocked_16 ⟨by unfold rkC; simp [*], rfl⟩
  · refine v_iload_n h (i := 0) dX0_rocked_7 (q := 8) rfl rfl 0 rfl ?_
    refine v_iload_n h (i := 2) dX0_rocked_8 (q := 9) rfl rfl 2 rfl ?_
    refine v_callSN h (As := [.int cell, .int tide]) (rest := []) (c_X9_nextCell (cell := cell) (way := tide)) cal_X9_nextCell m579 m578 ⟨rfl, rfl, Nat.le_of_ble_eq_true rfl, Nat.le_of_ble_eq_true rfl⟩ rfl rfl (Nat.le_of_ble_eq_true rfl) dX0_rocked_9 (q := 12) rfl (kI ?_)
    refine v_goto h (t := 16) dX0_rocked_12 (by decide) ?_
    exact v_iret h dX0_rocked_16 ⟨by unfold rkC; simp [*], rfl⟩

set_option maxHeartbeats 4000000 in
set_option maxRecDepth 100000 in
theorem c_X0_pulled {w : bw} {σ : bSt} {me : Nat} {b cell t tide : Int32} (hs : sBoats w me) : MV yX0_pulled cX0_pulled 6 (some .int) (rmm 2 43) w [.ref (b_ad w me), .int b, .int cell, .int t, .int tide] σ (pI (if hB σ me b then plC (σ (me + 2) b.toNatClampNeg) cell t tide else rkC cell t tide) σ) := by
  refine b_met (ls := [(0, .ref (b_ad w me)), (1, .int b), (2, .int cell), (3, .int t), (4, .int tide)]) (by decide) (Nat.le_of_ble_eq_true rfl) rfl (fun x h => ?_)
  refine v_iload_n h (i := 2) dX0_pulled_0 (q := 1) rfl rfl 2 rfl ?_
  refine v_iload_n h (i := 3) dX0_pulled_1 (q := 2) rfl rfl 3 rfl ?_
  refine v_iload h (i := 4) dX0_pulled_2 (q := 4) rfl 4 rfl ?_
  refine v_callS h (As := [.int cell, .int t, .int tide]) (rest := []) (c_X0_rocked (cell := cell) (t := t) (tide := tide)) cal_X0_rocked m576 m575 ⟨rfl, rfl, Nat.le_of_ble_eq_true rfl, Nat.le_of_ble_eq_true rfl⟩ rfl rfl (Nat.le_of_ble_eq_true rfl) dX0_pulled_4 (q := 7) rfl (kI ?_)
  refine v_istore h (i := 5) (ls1 := [(5, .int (rkC cell t tide)), (0, .ref (b_ad w me)), (1, .int b), (2, .int cell), (3, .int t), (4, .int tide)]) dX0_pulled_7 (q := 9) rfl (Nat.le_of_ble_eq_true rfl) rfl ?_
  refine v_iload_n h (i := 3) dX0_pulled_9 (q := 10) rfl rfl 4 rfl ?_
  refine v_bipush h (v := 7) dX0_pulled_10 (q := 12) rfl (by decide) ?_
  refine v_iand h dX0_pulled_12 (q := 13) rfl ?_
  refine v_bipush h (v := 7) dX0_pulled_13 (q := 15) rfl (by decide) ?_
  refine v_icmp_ne h (t := 44) dX0_pulled_15 (by decide) (q := 18) rfl (fun c15 => ?_) (fun c15 => ?_)
  · refine v_iload h (i := 5) dX0_pulled_44 (q := 46) rfl 0 rfl ?_
    exact v_iret h dX0_pulled_46 ⟨by unfold plC; simp [*], rfl⟩
  · refine v_aload_n h (i := 0) dX0_pulled_18 (q := 19) rfl rfl 1 rfl ?_
    refine v_iload_n h (i := 1) dX0_pulled_19 (q := 20) rfl rfl 2 rfl ?_
    refine v_callV h (As := [.int b]) (rest := []) (c_X0_hold (me := me) (σ := σ) (b := b) hs) cal_X0_hold calV_X0_hold m354 ⟨rfl, rfl, Nat.le_of_ble_eq_true rfl, Nat.le_of_ble_eq_true rfl⟩ rfl hs.1.1 hs.1.2 ⟨_, _, rfl⟩ rfl (Nat.le_of_ble_eq_true rfl) dX0_pulled_20 (q := 23) rfl (kB (fun c20 => ?_) (fun c20 => ?_))
    · refine v_if_eq h (t := 44) dX0_pulled_23 (by decide) (q := 26) rfl (fun c => absurd c (by decide)) (fun _ => ?_)
      refine v_iload h (i := 5) dX0_pulled_26 (q := 28) rfl 0 rfl ?_
      refine v_aload_n h (i := 0) dX0_pulled_28 (q := 29) rfl rfl 1 rfl ?_
      refine v_get h (k := 2) (v := .ref (b_ad w (me + 2))) cls0 hs.1.1 hs.1.2 (Nat.le_of_ble_eq_true rfl) m92 rfl dX0_pulled_29 (q := 32) rfl ?_
      refine v_iload_n h (i := 1) dX0_pulled_32 (q := 33) rfl rfl 2 rfl ?_
      refine v_iald h (k := b.toNatClampNeg) hs.2.2.1.1 hs.2.2.1.2 (hB_in c20) rfl dX0_pulled_33 (q := 34) rfl ?_
      refine v_iconst h (v := 4) dX0_pulled_34 (q := 35) rfl (by decide) ?_
      refine v_irem h dX0_pulled_35 (q := 36) rfl (by decide) ?_
      refine v_iconst h (v := 1) dX0_pulled_36 (q := 37) rfl (by decide) ?_
      refine v_iadd h dX0_pulled_37 (q := 38) rfl ?_
      refine v_callSN h (As := [.int (rkC cell t tide), .int (((σ (me + 2) b.toNatClampNeg) - (σ (me + 2) b.toNatClampNeg) / 4 * 4) + 1)]) (rest := []) (c_X9_nextCell (cell := rkC cell t tide) (way := ((σ (me + 2) b.toNatClampNeg) - (σ (me + 2) b.toNatClampNeg) / 4 * 4) + 1)) cal_X9_nextCell m579 m578 ⟨rfl, rfl, Nat.le_of_ble_eq_true rfl, Nat.le_of_ble_eq_true rfl⟩ rfl rfl (Nat.le_of_ble_eq_true rfl) dX0_pulled_38 (q := 41) rfl (kI ?_)
      refine v_goto h (t := 46) dX0_pulled_41 (by decide) ?_
      exact v_iret h dX0_pulled_46 ⟨by unfold plC; simp [*], rfl⟩
    · refine v_if_eq h (t := 44) dX0_pulled_23 (by decide) (q := 26) rfl (fun _ => ?_) (fun c => absurd (by decide) c)
      refine v_iload h (i := 5) dX0_pulled_44 (q := 46) rfl 0 rfl ?_
      exact v_iret h dX0_pulled_46 ⟨by unfold plC; simp [*], rfl⟩

set_option maxHeartbeats 4000000 in
set_option maxRecDepth 100000 in
theorem c_X0_behind {w : bw} {σ : bSt} {me : Nat} {b cell t tide : Int32} (hs : sBoats w me) : MV yX0_behind cX0_behind 5 (some .int) (rmm 3 68) w [.ref (b_ad w me), .int b, .int cell, .int t, .int tide] σ (pI (behB σ me b cell t tide) σ) := by
  refine b_met (ls := [(0, .ref (b_ad w me)), (1, .int b), (2, .int cell), (3, .int t), (4, .int tide)]) (by decide) (Nat.le_of_ble_eq_true rfl) rfl (fun x h => ?_)
  refine v_aload_n h (i := 0) dX0_behind_0 (q := 1) rfl rfl 0 rfl ?_
  refine v_iload_n h (i := 1) dX0_behind_1 (q := 2) rfl rfl 1 rfl ?_
  refine v_callV h (As := [.int b]) (rest := []) (c_X0_hold (me := me) (σ := σ) (b := b) hs) cal_X0_hold calV_X0_hold m354 ⟨rfl, rfl, Nat.le_of_ble_eq_true rfl, Nat.le_of_ble_eq_true rfl⟩ rfl hs.1.1 hs.1.2 ⟨_, _, rfl⟩ rfl (Nat.le_of_ble_eq_true rfl) dX0_behind_2 (q := 5) rfl (kB (fun c2 => ?_) (fun c2 => ?_))
  · refine v_if_ne h (t := 10) dX0_behind_5 (by decide) (q := 8) rfl (fun _ => ?_) (fun c => absurd c (by decide))
    refine v_aload_n h (i := 0) dX0_behind_10 (q := 11) rfl rfl 0 rfl ?_
    refine v_get h (k := 1) (v := .ref (b_ad w (me + 1))) cls0 hs.1.1 hs.1.2 (Nat.le_of_ble_eq_true rfl) m90 rfl dX0_behind_11 (q := 14) rfl ?_
    refine v_iload_n h (i := 1) dX0_behind_14 (q := 15) rfl rfl 1 rfl ?_
    refine v_iald h (k := b.toNatClampNeg) hs.2.1.1 hs.2.1.2 (hB_in c2) rfl dX0_behind_15 (q := 16) rfl ?_
    by_cases e16_0 : σ (me + 1) b.toNatClampNeg = (0 : Int32)
    · refine v_tableIn h (off := 44) (t := 60) dX0_behind_16 (by rw [e16_0]; decide) (by rw [e16_0]; decide) (by rw [e16_0]; rfl) (by decide) ?_
      refine v_iload_n h (i := 2) dX0_behind_60 (q := 61) rfl rfl 2 rfl ?_
      refine v_iload_n h (i := 3) dX0_behind_61 (q := 62) rfl rfl 3 rfl ?_
      refine v_iload h (i := 4) dX0_behind_62 (q := 64) rfl 4 rfl ?_
      refine v_callS h (As := [.int cell, .int t, .int tide]) (rest := []) (c_X0_rocked (cell := cell) (t := t) (tide := tide)) cal_X0_rocked m576 m575 ⟨rfl, rfl, Nat.le_of_ble_eq_true rfl, Nat.le_of_ble_eq_true rfl⟩ rfl rfl (Nat.le_of_ble_eq_true rfl) dX0_behind_64 (q := 67) rfl (kI ?_)
      exact v_iret h dX0_behind_67 ⟨by unfold behB mvC; simp only [if_pos c2]; first | (simp [*]; done), rfl⟩
    by_cases e16_1 : σ (me + 1) b.toNatClampNeg = (1 : Int32)
    · refine v_tableIn h (off := 113) (t := 129) dX0_behind_16 (by rw [e16_1]; decide) (by rw [e16_1]; decide) (by rw [e16_1]; rfl) (by decide) ?_
      refine v_iload_n h (i := 2) dX0_behind_129 (q := 130) rfl rfl 2 rfl ?_
      exact v_iret h dX0_behind_130 ⟨by unfold behB mvC; simp only [if_pos c2]; first | (simp [*]; done), rfl⟩
    by_cases e16_2 : σ (me + 1) b.toNatClampNeg = (2 : Int32)
    · refine v_tableIn h (off := 52) (t := 68) dX0_behind_16 (by rw [e16_2]; decide) (by rw [e16_2]; decide) (by rw [e16_2]; rfl) (by decide) ?_
      refine v_iload_n h (i := 2) dX0_behind_68 (q := 69) rfl rfl 2 rfl ?_
      refine v_iload h (i := 4) dX0_behind_69 (q := 71) rfl 4 rfl ?_
      refine v_callSN h (As := [.int cell, .int tide]) (rest := []) (c_X9_nextCell (cell := cell) (way := tide)) cal_X9_nextCell m579 m578 ⟨rfl, rfl, Nat.le_of_ble_eq_true rfl, Nat.le_of_ble_eq_true rfl⟩ rfl rfl (Nat.le_of_ble_eq_true rfl) dX0_behind_71 (q := 74) rfl (kI ?_)
      exact v_iret h dX0_behind_74 ⟨by unfold behB mvC; simp only [if_pos c2]; first | (simp [*]; done), rfl⟩
    by_cases e16_3 : σ (me + 1) b.toNatClampNeg = (3 : Int32)
    · refine v_tableIn h (off := 80) (t := 96) dX0_behind_16 (by rw [e16_3]; decide) (by rw [e16_3]; decide) (by rw [e16_3]; rfl) (by decide) ?_
      refine v_aload_n h (i := 0) dX0_behind_96 (q := 97) rfl rfl 0 rfl ?_
      refine v_iload_n h (i := 1) dX0_behind_97 (q := 98) rfl rfl 1 rfl ?_
      refine v_iload_n h (i := 2) dX0_behind_98 (q := 99) rfl rfl 2 rfl ?_
      refine v_iload_n h (i := 3) dX0_behind_99 (q := 100) rfl rfl 3 rfl ?_
      refine v_iload h (i := 4) dX0_behind_100 (q := 102) rfl 4 rfl ?_
      refine v_callV h (As := [.int b, .int cell, .int t, .int tide]) (rest := []) (c_X0_pulled (me := me) (σ := σ) (b := b) (cell := cell) (t := t) (tide := tide) hs) cal_X0_pulled calV_X0_pulled m581 ⟨rfl, rfl, Nat.le_of_ble_eq_true rfl, Nat.le_of_ble_eq_true rfl⟩ rfl hs.1.1 hs.1.2 ⟨_, _, rfl⟩ rfl (Nat.le_of_ble_eq_true rfl) dX0_behind_102 (q := 105) rfl (kI ?_)
      exact v_iret h dX0_behind_105 ⟨by unfold behB mvC; simp only [if_pos c2]; first | (simp [*]; done), rfl⟩
    by_cases e16_4 : σ (me + 1) b.toNatClampNeg = (4 : Int32)
    · refine v_tableIn h (off := 113) (t := 129) dX0_behind_16 (by rw [e16_4]; decide) (by rw [e16_4]; decide) (by rw [e16_4]; rfl) (by decide) ?_
      refine v_iload_n h (i := 2) dX0_behind_129 (q := 130) rfl rfl 2 rfl ?_
      exact v_iret h dX0_behind_130 ⟨by unfold behB mvC; simp only [if_pos c2]; first | (simp [*]; done), rfl⟩
    by_cases e16_5 : σ (me + 1) b.toNatClampNeg = (5 : Int32)
    · refine v_tableIn h (off := 59) (t := 75) dX0_behind_16 (by rw [e16_5]; decide) (by rw [e16_5]; decide) (by rw [e16_5]; rfl) (by decide) ?_
      refine v_iload_n h (i := 3) dX0_behind_75 (q := 76) rfl rfl 3 rfl ?_
      refine v_aload_n h (i := 0) dX0_behind_76 (q := 77) rfl rfl 0 rfl ?_
      refine v_get h (k := 2) (v := .ref (b_ad w (me + 2))) cls0 hs.1.1 hs.1.2 (Nat.le_of_ble_eq_true rfl) m92 rfl dX0_behind_77 (q := 80) rfl ?_
      refine v_iload_n h (i := 1) dX0_behind_80 (q := 81) rfl rfl 1 rfl ?_
      refine v_iald h (k := b.toNatClampNeg) hs.2.2.1.1 hs.2.2.1.2 (hB_in c2) rfl dX0_behind_81 (q := 82) rfl ?_
      refine v_icmp_ge h (t := 89) dX0_behind_82 (by decide) (q := 85) rfl (fun c82 => ?_) (fun c82 => ?_)
      · refine v_iload_n h (i := 2) dX0_behind_89 (q := 90) rfl rfl 2 rfl ?_
        refine v_iload h (i := 4) dX0_behind_90 (q := 92) rfl 4 rfl ?_
        refine v_callSN h (As := [.int cell, .int tide]) (rest := []) (c_X9_nextCell (cell := cell) (way := tide)) cal_X9_nextCell m579 m578 ⟨rfl, rfl, Nat.le_of_ble_eq_true rfl, Nat.le_of_ble_eq_true rfl⟩ rfl rfl (Nat.le_of_ble_eq_true rfl) dX0_behind_92 (q := 95) rfl (kI ?_)
        exact v_iret h dX0_behind_95 ⟨by unfold behB mvC; simp only [if_pos c2]; first | (have hn := Int32.not_lt.mpr c82; simp [*]; done) | (have hn := Int32.not_le.mp c82; simp [*]; done), rfl⟩
      · refine v_iload_n h (i := 2) dX0_behind_85 (q := 86) rfl rfl 2 rfl ?_
        refine v_goto h (t := 95) dX0_behind_86 (by decide) ?_
        exact v_iret h dX0_behind_95 ⟨by unfold behB mvC; simp only [if_pos c2]; first | (have hn := Int32.not_lt.mpr c82; simp [*]; done) | (have hn := Int32.not_le.mp c82; simp [*]; done), rfl⟩
    by_cases e16_6 : σ (me + 1) b.toNatClampNeg = (6 : Int32)
    · refine v_tableIn h (off := 90) (t := 106) dX0_behind_16 (by rw [e16_6]; decide) (by rw [e16_6]; decide) (by rw [e16_6]; rfl) (by decide) ?_
      refine v_aload_n h (i := 0) dX0_behind_106 (q := 107) rfl rfl 0 rfl ?_
      refine v_iload_n h (i := 1) dX0_behind_107 (q := 108) rfl rfl 1 rfl ?_
      refine v_iload_n h (i := 3) dX0_behind_108 (q := 109) rfl rfl 3 rfl ?_
      refine v_callV h (As := [.int b, .int t]) (rest := []) (c_X0_sings (me := me) (σ := σ) (b := b) (t := t) hs) cal_X0_sings calV_X0_sings m444 ⟨rfl, rfl, Nat.le_of_ble_eq_true rfl, Nat.le_of_ble_eq_true rfl⟩ rfl hs.1.1 hs.1.2 ⟨_, _, rfl⟩ rfl (Nat.le_of_ble_eq_true rfl) dX0_behind_109 (q := 112) rfl (kB (fun c109 => ?_) (fun c109 => ?_))
      · refine v_if_eq h (t := 127) dX0_behind_112 (by decide) (q := 115) rfl (fun c => absurd c (by decide)) (fun _ => ?_)
        refine v_aload_n h (i := 0) dX0_behind_115 (q := 116) rfl rfl 0 rfl ?_
        refine v_iload_n h (i := 1) dX0_behind_116 (q := 117) rfl rfl 1 rfl ?_
        refine v_iload_n h (i := 2) dX0_behind_117 (q := 118) rfl rfl 2 rfl ?_
        refine v_iload_n h (i := 3) dX0_behind_118 (q := 119) rfl rfl 3 rfl ?_
        refine v_iload h (i := 4) dX0_behind_119 (q := 121) rfl 4 rfl ?_
        refine v_callV h (As := [.int b, .int cell, .int t, .int tide]) (rest := []) (c_X0_pulled (me := me) (σ := σ) (b := b) (cell := cell) (t := t) (tide := tide) hs) cal_X0_pulled calV_X0_pulled m581 ⟨rfl, rfl, Nat.le_of_ble_eq_true rfl, Nat.le_of_ble_eq_true rfl⟩ rfl hs.1.1 hs.1.2 ⟨_, _, rfl⟩ rfl (Nat.le_of_ble_eq_true rfl) dX0_behind_121 (q := 124) rfl (kI ?_)
        refine v_goto h (t := 128) dX0_behind_124 (by decide) ?_
        exact v_iret h dX0_behind_128 ⟨by unfold behB mvC; simp only [if_pos c2]; first | (have hn := c109.2; simp only [if_pos hn]; simp [*]; done) | (have hn : ¬ sgB σ me b.toNatClampNeg t := fun z => c109 ⟨c2, z⟩; simp only [if_neg hn]; simp [*]; done), rfl⟩
      · refine v_if_eq h (t := 127) dX0_behind_112 (by decide) (q := 115) rfl (fun _ => ?_) (fun c => absurd (by decide) c)
        refine v_iload_n h (i := 2) dX0_behind_127 (q := 128) rfl rfl 2 rfl ?_
        exact v_iret h dX0_behind_128 ⟨by unfold behB mvC; simp only [if_pos c2]; first | (have hn := c109.2; simp only [if_pos hn]; simp [*]; done) | (have hn : ¬ sgB σ me b.toNatClampNeg t := fun z => c109 ⟨c2, z⟩; simp only [if_neg hn]; simp [*]; done), rfl⟩
    have e16_0i := sw_ne e16_0 (z := 0) (by decide)
    have e16_1i := sw_ne e16_1 (z := 1) (by decide)
    have e16_2i := sw_ne e16_2 (z := 2) (by decide)
    have e16_3i := sw_ne e16_3 (z := 3) (by decide)
    have e16_4i := sw_ne e16_4 (z := 4) (by decide)
    have e16_5i := sw_ne e16_5 (z := 5) (by decide)
    have e16_6i := sw_ne e16_6 (z := 6) (by decide)
    refine v_tableOut h (t := 129) dX0_behind_16 (by omega) (by decide) ?_
    refine v_iload_n h (i := 2) dX0_behind_129 (q := 130) rfl rfl 2 rfl ?_
    exact v_iret h dX0_behind_130 ⟨by unfold behB mvC; simp only [if_pos c2]; first | (simp [*]; done), rfl⟩
  · refine v_if_ne h (t := 10) dX0_behind_5 (by decide) (q := 8) rfl (fun c => absurd (by decide) c) (fun _ => ?_)
    refine v_iload_n h (i := 2) dX0_behind_8 (q := 9) rfl rfl 2 rfl ?_
    exact v_iret h dX0_behind_9 ⟨by unfold behB; rw [if_neg c2], rfl⟩
