set_option maxHeartbeats 4000000 in
set_option maxRecDepth 100000 in
theorem c_X9_within {w : bw} {σ : bSt} {v l m : Int32}  : MV yX9_within cX9_within 3 (some .boolean) (rmm 0 0) w [.int v, .int l, .int m] σ (pB (wi v l m) σ) := by
  refine b_met (ls := [(0, .int v), (1, .int l), (2, .int m)]) (by decide) (Nat.le_of_ble_eq_true rfl) rfl (fun x h => ?_)
  refine v_iload_n h (i := 0) dX9_within_0 (q := 1) rfl rfl 0 rfl ?_
  refine v_iload_n h (i := 1) dX9_within_1 (q := 2) rfl rfl 1 rfl ?_
  refine v_icmp_lt h (t := 14) dX9_within_2 (by decide) (q := 5) rfl (fun c2 => ?_) (fun c2 => ?_)
  · refine v_iconst h (v := 0) dX9_within_14 (q := 15) rfl (by decide) ?_
    exact v_zret h rfl dX9_within_15 (pB0 (fun z => by first | exact z.1 (by assumption) | exact z.2 (by assumption)))
  · refine v_iload_n h (i := 0) dX9_within_5 (q := 6) rfl rfl 0 rfl ?_
    refine v_iload_n h (i := 2) dX9_within_6 (q := 7) rfl rfl 2 rfl ?_
    refine v_icmp_gt h (t := 14) dX9_within_7 (by decide) (q := 10) rfl (fun c7 => ?_) (fun c7 => ?_)
    · refine v_iconst h (v := 0) dX9_within_14 (q := 15) rfl (by decide) ?_
      exact v_zret h rfl dX9_within_15 (pB0 (fun z => by first | exact z.1 (by assumption) | exact z.2 (by assumption)))
    · refine v_iconst h (v := 1) dX9_within_10 (q := 11) rfl (by decide) ?_
      refine v_goto h (t := 15) dX9_within_11 (by decide) ?_
      exact v_zret h rfl dX9_within_15 (pB1 ⟨by assumption, by assumption⟩)

set_option maxHeartbeats 4000000 in
set_option maxRecDepth 100000 in
theorem c_X9_isCell {w : bw} {σ : bSt} {v : Int32}  : MV yX9_isCell cX9_isCell 1 (some .boolean) (rmm 1 22) w [.int v] σ (pB (wi v 0 63) σ) := by
  refine b_met (ls := [(0, .int v)]) (by decide) (Nat.le_of_ble_eq_true rfl) rfl (fun x h => ?_)
  refine v_iload_n h (i := 0) dX9_isCell_0 (q := 1) rfl rfl 0 rfl ?_
  refine v_iconst h (v := 0) dX9_isCell_1 (q := 2) rfl (by decide) ?_
  refine v_bipush h (v := 63) dX9_isCell_2 (q := 4) rfl (by decide) ?_
  refine v_callS h (As := [.int v, .int 0, .int 63]) (rest := []) (c_X9_within (v := v) (l := 0) (m := 63)) cal_X9_within m313 m312 ⟨rfl, rfl, Nat.le_of_ble_eq_true rfl, Nat.le_of_ble_eq_true rfl⟩ rfl rfl (Nat.le_of_ble_eq_true rfl) dX9_isCell_4 (q := 7) rfl (kB (fun c4 => ?_) (fun c4 => ?_))
  · exact v_zret h rfl dX9_isCell_7 (pB1 (by first | assumption | exact ⟨by assumption, by assumption⟩ | simp_all))
  · exact v_zret h rfl dX9_isCell_7 (pB0 (by first | assumption | simp_all))

set_option maxHeartbeats 4000000 in
set_option maxRecDepth 100000 in
theorem c_X9_isAhead {w : bw} {σ : bSt} {v : Int32}  : MV yX9_isAhead cX9_isAhead 1 (some .boolean) (rmm 1 22) w [.int v] σ (pB (wi v 0 128) σ) := by
  refine b_met (ls := [(0, .int v)]) (by decide) (Nat.le_of_ble_eq_true rfl) rfl (fun x h => ?_)
  refine v_iload_n h (i := 0) dX9_isAhead_0 (q := 1) rfl rfl 0 rfl ?_
  refine v_iconst h (v := 0) dX9_isAhead_1 (q := 2) rfl (by decide) ?_
  refine v_sipush h (v := 128) dX9_isAhead_2 (q := 5) rfl (by decide) ?_
  refine v_callS h (As := [.int v, .int 0, .int 128]) (rest := []) (c_X9_within (v := v) (l := 0) (m := 128)) cal_X9_within m313 m312 ⟨rfl, rfl, Nat.le_of_ble_eq_true rfl, Nat.le_of_ble_eq_true rfl⟩ rfl rfl (Nat.le_of_ble_eq_true rfl) dX9_isAhead_5 (q := 8) rfl (kB (fun c5 => ?_) (fun c5 => ?_))
  · exact v_zret h rfl dX9_isAhead_8 (pB1 (by first | assumption | exact ⟨by assumption, by assumption⟩ | simp_all))
  · exact v_zret h rfl dX9_isAhead_8 (pB0 (by first | assumption | simp_all))

set_option maxHeartbeats 4000000 in
set_option maxRecDepth 100000 in
theorem c_X9_isKindAndNumber {w : bw} {σ : bSt} {v : Int32}  : MV yX9_isKindAndNumber cX9_isKindAndNumber 1 (some .boolean) (rmm 1 22) w [.int v] σ (pB (wi v 0 69) σ) := by
  refine b_met (ls := [(0, .int v)]) (by decide) (Nat.le_of_ble_eq_true rfl) rfl (fun x h => ?_)
  refine v_iload_n h (i := 0) dX9_isKindAndNumber_0 (q := 1) rfl rfl 0 rfl ?_
  refine v_iconst h (v := 0) dX9_isKindAndNumber_1 (q := 2) rfl (by decide) ?_
  refine v_bipush h (v := 69) dX9_isKindAndNumber_2 (q := 4) rfl (by decide) ?_
  refine v_callS h (As := [.int v, .int 0, .int 69]) (rest := []) (c_X9_within (v := v) (l := 0) (m := 69)) cal_X9_within m313 m312 ⟨rfl, rfl, Nat.le_of_ble_eq_true rfl, Nat.le_of_ble_eq_true rfl⟩ rfl rfl (Nat.le_of_ble_eq_true rfl) dX9_isKindAndNumber_4 (q := 7) rfl (kB (fun c4 => ?_) (fun c4 => ?_))
  · exact v_zret h rfl dX9_isKindAndNumber_7 (pB1 (by first | assumption | exact ⟨by assumption, by assumption⟩ | simp_all))
  · exact v_zret h rfl dX9_isKindAndNumber_7 (pB0 (by first | assumption | simp_all))

set_option maxHeartbeats 4000000 in
set_option maxRecDepth 100000 in
theorem c_X9_areThreeCells {w : bw} {σ : bSt} {v : Int32}  : MV yX9_areThreeCells cX9_areThreeCells 1 (some .boolean) (rmm 1 22) w [.int v] σ (pB (wi v 0 262143) σ) := by
  refine b_met (ls := [(0, .int v)]) (by decide) (Nat.le_of_ble_eq_true rfl) rfl (fun x h => ?_)
  refine v_iload_n h (i := 0) dX9_areThreeCells_0 (q := 1) rfl rfl 0 rfl ?_
  refine v_iconst h (v := 0) dX9_areThreeCells_1 (q := 2) rfl (by decide) ?_
  refine v_ldcw h (v := 262143) m680 dX9_areThreeCells_2 (q := 5) rfl ?_
  refine v_callS h (As := [.int v, .int 0, .int 262143]) (rest := []) (c_X9_within (v := v) (l := 0) (m := 262143)) cal_X9_within m313 m312 ⟨rfl, rfl, Nat.le_of_ble_eq_true rfl, Nat.le_of_ble_eq_true rfl⟩ rfl rfl (Nat.le_of_ble_eq_true rfl) dX9_areThreeCells_5 (q := 8) rfl (kB (fun c5 => ?_) (fun c5 => ?_))
  · exact v_zret h rfl dX9_areThreeCells_8 (pB1 (by first | assumption | exact ⟨by assumption, by assumption⟩ | simp_all))
  · exact v_zret h rfl dX9_areThreeCells_8 (pB0 (by first | assumption | simp_all))

set_option maxHeartbeats 4000000 in
set_option maxRecDepth 100000 in
theorem c_X9_areThreeLags {w : bw} {σ : bSt} {v : Int32}  : MV yX9_areThreeLags cX9_areThreeLags 1 (some .boolean) (rmm 1 22) w [.int v] σ (pB (wi v 0 999999) σ) := by
  refine b_met (ls := [(0, .int v)]) (by decide) (Nat.le_of_ble_eq_true rfl) rfl (fun x h => ?_)
  refine v_iload_n h (i := 0) dX9_areThreeLags_0 (q := 1) rfl rfl 0 rfl ?_
  refine v_iconst h (v := 0) dX9_areThreeLags_1 (q := 2) rfl (by decide) ?_
  refine v_ldcw h (v := 999999) m684 dX9_areThreeLags_2 (q := 5) rfl ?_
  refine v_callS h (As := [.int v, .int 0, .int 999999]) (rest := []) (c_X9_within (v := v) (l := 0) (m := 999999)) cal_X9_within m313 m312 ⟨rfl, rfl, Nat.le_of_ble_eq_true rfl, Nat.le_of_ble_eq_true rfl⟩ rfl rfl (Nat.le_of_ble_eq_true rfl) dX9_areThreeLags_5 (q := 8) rfl (kB (fun c5 => ?_) (fun c5 => ?_))
  · exact v_zret h rfl dX9_areThreeLags_8 (pB1 (by first | assumption | exact ⟨by assumption, by assumption⟩ | simp_all))
  · exact v_zret h rfl dX9_areThreeLags_8 (pB0 (by first | assumption | simp_all))

set_option maxHeartbeats 4000000 in
set_option maxRecDepth 100000 in
theorem c_X9_above {w : bw} {σ : bSt} {k : Int32}  : MV yX9_above cX9_above 1 (some .int) (rmm 0 0) w [.int k] σ (pI (abv k) σ) := by
  refine b_met (ls := [(0, .int k)]) (by decide) (Nat.le_of_ble_eq_true rfl) rfl (fun x h => ?_)
  refine v_iload_n h (i := 0) dX9_above_0 (q := 1) rfl rfl 0 rfl ?_
  refine v_if_lt h (t := 20) dX9_above_1 (by decide) (q := 4) rfl (fun c1 => ?_) (fun c1 => ?_)
  · refine v_iconst h (v := -1) dX9_above_20 (q := 21) rfl (by decide) ?_
    exact v_iret h dX9_above_21 ⟨by unfold abv; simp [*], rfl⟩
  · refine v_iload_n h (i := 0) dX9_above_4 (q := 5) rfl rfl 0 rfl ?_
    refine v_gs h (b_stat1 h.ev).1 m370 dX9_above_5 (q := 8) rfl ?_
    refine v_tlen h (v := 7) (b_stat1 h.ev).2 rfl dX9_above_8 (q := 9) rfl ?_
    refine v_icmp_ge h (t := 20) dX9_above_9 (by decide) (q := 12) rfl (fun c9 => ?_) (fun c9 => ?_)
    · refine v_iconst h (v := -1) dX9_above_20 (q := 21) rfl (by decide) ?_
      exact v_iret h dX9_above_21 ⟨by unfold abv; simp [*], rfl⟩
    · refine v_gs h (b_stat1 h.ev).1 m370 dX9_above_12 (q := 15) rfl ?_
      refine v_iload_n h (i := 0) dX9_above_15 (q := 16) rfl rfl 0 rfl ?_
      refine v_ti h (k := k.toNatClampNeg) (b_stat1 h.ev).2 (vinl c1 c9 rfl) rfl dX9_above_16 (q := 17) rfl ?_
      refine v_goto h (t := 21) dX9_above_17 (by decide) ?_
      exact v_iret h dX9_above_21 ⟨by unfold abv; simp [*], rfl⟩

set_option maxHeartbeats 4000000 in
set_option maxRecDepth 100000 in
theorem c_X9_far {w : bw} {σ : bSt} {a b : Int32}  : MV yX9_far cX9_far 4 (some .int) (rmm 1 13) w [.int a, .int b] σ (pI (farC a b) σ) := by
  refine b_met (ls := [(0, .int a), (1, .int b)]) (by decide) (Nat.le_of_ble_eq_true rfl) rfl (fun x h => ?_)
  refine v_iload_n h (i := 0) dX9_far_0 (q := 1) rfl rfl 0 rfl ?_
  refine v_iconst h (v := 3) dX9_far_1 (q := 2) rfl (by decide) ?_
  refine v_ishr h dX9_far_2 (q := 3) rfl ?_
  refine v_iload_n h (i := 1) dX9_far_3 (q := 4) rfl rfl 1 rfl ?_
  refine v_iconst h (v := 3) dX9_far_4 (q := 5) rfl (by decide) ?_
  refine v_ishr h dX9_far_5 (q := 6) rfl ?_
  refine v_isub h dX9_far_6 (q := 7) rfl ?_
  refine v_abs h m382 m383 m13 m384 ⟨Nat.le_of_ble_eq_true rfl, Nat.le_of_ble_eq_true rfl⟩ dX9_far_7 (q := 10) rfl ?_
  refine v_istore_n h (i := 2) (ls1 := [(2, .int (iabs ((a >>> (3 &&& 31)) - (b >>> (3 &&& 31))))), (0, .int a), (1, .int b)]) dX9_far_10 (q := 11) rfl rfl (Nat.le_of_ble_eq_true rfl) rfl ?_
  refine v_iload_n h (i := 0) dX9_far_11 (q := 12) rfl rfl 1 rfl ?_
  refine v_bipush h (v := 7) dX9_far_12 (q := 14) rfl (by decide) ?_
  refine v_iand h dX9_far_14 (q := 15) rfl ?_
  refine v_iload_n h (i := 1) dX9_far_15 (q := 16) rfl rfl 2 rfl ?_
  refine v_bipush h (v := 7) dX9_far_16 (q := 18) rfl (by decide) ?_
  refine v_iand h dX9_far_18 (q := 19) rfl ?_
  refine v_isub h dX9_far_19 (q := 20) rfl ?_
  refine v_abs h m382 m383 m13 m384 ⟨Nat.le_of_ble_eq_true rfl, Nat.le_of_ble_eq_true rfl⟩ dX9_far_20 (q := 23) rfl ?_
  refine v_istore_n h (i := 3) (ls1 := [(3, .int (iabs ((a &&& 7) - (b &&& 7)))), (2, .int (iabs ((a >>> (3 &&& 31)) - (b >>> (3 &&& 31))))), (0, .int a), (1, .int b)]) dX9_far_23 (q := 24) rfl rfl (Nat.le_of_ble_eq_true rfl) rfl ?_
  refine v_iload_n h (i := 2) dX9_far_24 (q := 25) rfl rfl 1 rfl ?_
  refine v_iload_n h (i := 3) dX9_far_25 (q := 26) rfl rfl 0 rfl ?_
  refine v_max h m385 m386 m13 m387 ⟨Nat.le_of_ble_eq_true rfl, Nat.le_of_ble_eq_true rfl⟩ dX9_far_26 (q := 29) rfl ?_
  exact v_iret h dX9_far_29 ⟨rfl, rfl⟩

set_option maxHeartbeats 4000000 in
set_option maxRecDepth 100000 in
theorem c_X9_nextCell {w : bw} {σ : bSt} {cell way : Int32}  : MV yX9_nextCell cX9_nextCell 2 (some .int) (rmm 0 0) w [.int cell, .int way] σ (pI (nxC cell way) σ) := by
  refine b_met (ls := [(0, .int cell), (1, .int way)]) (by decide) (Nat.le_of_ble_eq_true rfl) rfl (fun x h => ?_)
  refine v_iload_n h (i := 1) dX9_nextCell_0 (q := 1) rfl rfl 1 rfl ?_
  by_cases e1_1 : way = (1 : Int32)
  · refine v_tableIn h (off := 31) (t := 32) dX9_nextCell_1 (by rw [e1_1]; decide) (by rw [e1_1]; decide) (by rw [e1_1]; rfl) (by decide) ?_
    refine v_iload_n h (i := 0) dX9_nextCell_32 (q := 33) rfl rfl 0 rfl ?_
    refine v_iconst h (v := 3) dX9_nextCell_33 (q := 34) rfl (by decide) ?_
    refine v_ishr h dX9_nextCell_34 (q := 35) rfl ?_
    refine v_if_ne h (t := 42) dX9_nextCell_35 (by decide) (q := 38) rfl (fun c35 => ?_) (fun c35 => ?_)
    · refine v_iload_n h (i := 0) dX9_nextCell_42 (q := 43) rfl rfl 0 rfl ?_
      refine v_bipush h (v := 8) dX9_nextCell_43 (q := 45) rfl (by decide) ?_
      refine v_isub h dX9_nextCell_45 (q := 46) rfl ?_
      exact v_iret h dX9_nextCell_46 ⟨by unfold nxC; simp [*], rfl⟩
    · refine v_iload_n h (i := 0) dX9_nextCell_38 (q := 39) rfl rfl 0 rfl ?_
      refine v_goto h (t := 46) dX9_nextCell_39 (by decide) ?_
      exact v_iret h dX9_nextCell_46 ⟨by unfold nxC; simp [*], rfl⟩
  by_cases e1_2 : way = (2 : Int32)
  · refine v_tableIn h (off := 46) (t := 47) dX9_nextCell_1 (by rw [e1_2]; decide) (by rw [e1_2]; decide) (by rw [e1_2]; rfl) (by decide) ?_
    refine v_iload_n h (i := 0) dX9_nextCell_47 (q := 48) rfl rfl 0 rfl ?_
    refine v_bipush h (v := 7) dX9_nextCell_48 (q := 50) rfl (by decide) ?_
    refine v_iand h dX9_nextCell_50 (q := 51) rfl ?_
    refine v_bipush h (v := 7) dX9_nextCell_51 (q := 53) rfl (by decide) ?_
    refine v_icmp_ne h (t := 60) dX9_nextCell_53 (by decide) (q := 56) rfl (fun c53 => ?_) (fun c53 => ?_)
    · refine v_iload_n h (i := 0) dX9_nextCell_60 (q := 61) rfl rfl 0 rfl ?_
      refine v_iconst h (v := 1) dX9_nextCell_61 (q := 62) rfl (by decide) ?_
      refine v_iadd h dX9_nextCell_62 (q := 63) rfl ?_
      exact v_iret h dX9_nextCell_63 ⟨by unfold nxC; simp [*], rfl⟩
    · refine v_iload_n h (i := 0) dX9_nextCell_56 (q := 57) rfl rfl 0 rfl ?_
      refine v_goto h (t := 63) dX9_nextCell_57 (by decide) ?_
      exact v_iret h dX9_nextCell_63 ⟨by unfold nxC; simp [*], rfl⟩
  by_cases e1_3 : way = (3 : Int32)
  · refine v_tableIn h (off := 63) (t := 64) dX9_nextCell_1 (by rw [e1_3]; decide) (by rw [e1_3]; decide) (by rw [e1_3]; rfl) (by decide) ?_
    refine v_iload_n h (i := 0) dX9_nextCell_64 (q := 65) rfl rfl 0 rfl ?_
    refine v_iconst h (v := 3) dX9_nextCell_65 (q := 66) rfl (by decide) ?_
    refine v_ishr h dX9_nextCell_66 (q := 67) rfl ?_
    refine v_bipush h (v := 7) dX9_nextCell_67 (q := 69) rfl (by decide) ?_
    refine v_icmp_ne h (t := 76) dX9_nextCell_69 (by decide) (q := 72) rfl (fun c69 => ?_) (fun c69 => ?_)
    · refine v_iload_n h (i := 0) dX9_nextCell_76 (q := 77) rfl rfl 0 rfl ?_
      refine v_bipush h (v := 8) dX9_nextCell_77 (q := 79) rfl (by decide) ?_
      refine v_iadd h dX9_nextCell_79 (q := 80) rfl ?_
      exact v_iret h dX9_nextCell_80 ⟨by unfold nxC; simp [*], rfl⟩
    · refine v_iload_n h (i := 0) dX9_nextCell_72 (q := 73) rfl rfl 0 rfl ?_
      refine v_goto h (t := 80) dX9_nextCell_73 (by decide) ?_
      exact v_iret h dX9_nextCell_80 ⟨by unfold nxC; simp [*], rfl⟩
  by_cases e1_4 : way = (4 : Int32)
  · refine v_tableIn h (off := 80) (t := 81) dX9_nextCell_1 (by rw [e1_4]; decide) (by rw [e1_4]; decide) (by rw [e1_4]; rfl) (by decide) ?_
    refine v_iload_n h (i := 0) dX9_nextCell_81 (q := 82) rfl rfl 0 rfl ?_
    refine v_bipush h (v := 7) dX9_nextCell_82 (q := 84) rfl (by decide) ?_
    refine v_iand h dX9_nextCell_84 (q := 85) rfl ?_
    refine v_if_ne h (t := 92) dX9_nextCell_85 (by decide) (q := 88) rfl (fun c85 => ?_) (fun c85 => ?_)
    · refine v_iload_n h (i := 0) dX9_nextCell_92 (q := 93) rfl rfl 0 rfl ?_
      refine v_iconst h (v := 1) dX9_nextCell_93 (q := 94) rfl (by decide) ?_
      refine v_isub h dX9_nextCell_94 (q := 95) rfl ?_
      exact v_iret h dX9_nextCell_95 ⟨by unfold nxC; simp [*], rfl⟩
    · refine v_iload_n h (i := 0) dX9_nextCell_88 (q := 89) rfl rfl 0 rfl ?_
      refine v_goto h (t := 95) dX9_nextCell_89 (by decide) ?_
      exact v_iret h dX9_nextCell_95 ⟨by unfold nxC; simp [*], rfl⟩
  have e1_1i := sw_ne e1_1 (z := 1) (by decide)
  have e1_2i := sw_ne e1_2 (z := 2) (by decide)
  have e1_3i := sw_ne e1_3 (z := 3) (by decide)
  have e1_4i := sw_ne e1_4 (z := 4) (by decide)
  refine v_tableOut h (t := 96) dX9_nextCell_1 (by omega) (by decide) ?_
  refine v_iload_n h (i := 0) dX9_nextCell_96 (q := 97) rfl rfl 0 rfl ?_
  exact v_iret h dX9_nextCell_97 ⟨by unfold nxC; simp [*], rfl⟩
