theorem bits_0 {b : Int32} (h : bitsOK b) : b = 0 ∨ b = 8 ∨ b = 16 ∨ b = 32 := h
theorem n40 {n : Int32} (h0 : 0 ≤ n) (h1 : n ≤ 40) : ∃ u, u ≤ 40 ∧ n = nI u := wi_nI (m := 40) (n := 40) ⟨Int32.not_lt.mpr h0, Int32.not_lt.mpr h1⟩ rfl
theorem wrS_0 {b : Int32} : wrS b 0 = 0 := by
  unfold wrS
  repeat' split
  all_goals rfl
theorem RC.lay {σ : bSt} {A : bA} (h : RC σ A) {s k : Nat} {b : Int32} (hs : s < 4) (hb : b = 0 ∨ b = 8 ∨ b = 16 ∨ b = 32) (hk : k ≤ 40) (hz : b = 0 → k = 0) : RC (b_set (b_up (b_up σ (44 + 2 * s) 0 b) (44 + 2 * s) 1 (nI k)) (44 + 2 * s + 1) (fun _ => 0)) (setS A s (b, k, fun _ => 0)) := by
  refine h.sheet hs (fun j a c => ?_) ?_ hb ?_ hk hz (fun i hi => ?_)
  · rw [b_set_n (by omega), b_up_n a, b_up_n a]
  · rw [b_set_n (by omega), b_up_s, upd_n (by decide), b_up_s, upd_s]
  · rw [b_set_n (by omega), b_up_s, upd_s]
  · rw [show 45 + 2 * s = 44 + 2 * s + 1 by omega, b_set_s, wrS_0]

set_option maxHeartbeats 4000000 in
set_option maxRecDepth 100000 in
theorem c_X9_sheet {w : bw} {σ : bSt} {A : bA} {s b n : Int32} (hs : sOpera w) (hR : RC σ A) : MV yX9_sheet cX9_sheet 5 (some .int) (rmm 2 45) w [.ref (b_ad w 0), .int s, .int b, .int n] σ (pA (oSheet s b n A)) := by
  refine b_met (ls := [(0, .ref (b_ad w 0)), (1, .int s), (2, .int b), (3, .int n)]) (by decide) (Nat.le_of_ble_eq_true rfl) rfl (fun x h => ?_)
  refine v_aload_n h (i := 0) dX9_sheet_0 (q := 1) rfl rfl 0 rfl ?_
  refine v_iload_n h (i := 1) dX9_sheet_1 (q := 2) rfl rfl 1 rfl ?_
  refine v_callV h (As := [.int s]) (rest := []) (c_X9_sheetOf (s := s) (σ := σ) hs) cal_X9_sheetOf calV_X9_sheetOf m746 ⟨rfl, rfl, Nat.le_of_ble_eq_true rfl, Nat.le_of_ble_eq_true rfl⟩ rfl hs.1.1 hs.1.2 ⟨_, _, rfl⟩ rfl (Nat.le_of_ble_eq_true rfl) dX9_sheet_2 (q := 5) rfl (kS (fun u hu eu => ?_) (fun c2 => ?_))
  · refine v_astore h (i := 4) (ls1 := [(4, .ref (b_ad w (44 + 2 * u))), (0, .ref (b_ad w 0)), (1, .int s), (2, .int b), (3, .int n)]) dX9_sheet_5 (q := 7) rfl (Nat.le_of_ble_eq_true rfl) rfl ?_
    refine v_aload h (i := 4) dX9_sheet_7 (q := 9) rfl 0 rfl ?_
    refine v_ifnonnullR h (t := 18) dX9_sheet_9 (by decide) ?_
    refine v_iload_n h (i := 2) dX9_sheet_18 (q := 19) rfl rfl 3 rfl ?_
    refine v_if_eq h (t := 46) dX9_sheet_19 (by decide) (q := 22) rfl (fun c19 => ?_) (fun c19 => ?_)
    · refine v_iload_n h (i := 2) dX9_sheet_46 (q := 47) rfl rfl 3 rfl ?_
      refine v_if_eq h (t := 60) dX9_sheet_47 (by decide) (q := 50) rfl (fun c47 => ?_) (fun c47 => ?_)
      · refine v_iload_n h (i := 2) dX9_sheet_60 (q := 61) rfl rfl 3 rfl ?_
        refine v_if_eq h (t := 76) dX9_sheet_61 (by decide) (q := 64) rfl (fun c61 => ?_) (fun c61 => ?_)
        · refine v_aload h (i := 4) dX9_sheet_76 (q := 78) rfl 0 rfl ?_
          refine v_iload_n h (i := 2) dX9_sheet_78 (q := 79) rfl rfl 3 rfl ?_
          refine v_iload_n h (i := 2) dX9_sheet_79 (q := 80) rfl rfl 3 rfl ?_
          refine v_if_ne h (t := 87) dX9_sheet_80 (by decide) (q := 83) rfl (fun c80 => ?_) (fun c80 => ?_)
          · obtain ⟨k, hk, rfl⟩ : ∃ k, k ≤ 40 ∧ n = nI k := by first | exact n40 (by assumption) (by assumption) | (exfalso; contradiction)
            refine v_iload_n h (i := 3) dX9_sheet_87 (q := 88) rfl rfl 4 rfl ?_
            refine v_callV h (As := [.int b, .int (nI k)]) (rest := []) (c_X7_lay (me := 44 + 2 * u) (b := b) (n := nI k) (σ := σ) ((hs.2.2.2.2.2.2.2.2.1 u hu))) cal_X7_lay calV_X7_lay m750 ⟨rfl, rfl, Nat.le_of_ble_eq_true rfl, Nat.le_of_ble_eq_true rfl⟩ rfl (hs.2.2.2.2.2.2.2.2.1 u hu).1.1 (hs.2.2.2.2.2.2.2.2.1 u hu).1.2 ⟨_, _, rfl⟩ rfl (Nat.le_of_ble_eq_true rfl) dX9_sheet_88 (q := 91) rfl (kU ?_)
            refine v_iconst h (v := 1) dX9_sheet_91 (q := 92) rfl (by decide) ?_
            exact v_iret h dX9_sheet_92 (pA_of (by unfold oSheet; rw [if_pos ⟨(by rw [eu]; exact inN_of hu (by decide)), (by first | exact Or.inl (by assumption) | exact Or.inr (Or.inl (by assumption)) | exact Or.inr (Or.inr (Or.inl (by assumption))) | exact Or.inr (Or.inr (Or.inr (by assumption))))⟩, if_neg (fun z => by first | exact z.2 (by assumption) | exact z.1 (by assumption)), if_neg (fun z => by first | exact z.2 (by assumption) | exact z.1 (by assumption)), if_neg (by assumption), eu, cl_nI (by omega), cl_nI (by omega)]) (hR.lay (k := k) hu (by first | exact Or.inl (by assumption) | exact Or.inr (Or.inl (by assumption)) | exact Or.inr (Or.inr (Or.inl (by assumption))) | exact Or.inr (Or.inr (Or.inr (by assumption)))) (by omega) (fun z => absurd z (by assumption))))
          · refine v_iconst h (v := 0) dX9_sheet_83 (q := 84) rfl (by decide) ?_
            refine v_goto h (t := 88) dX9_sheet_84 (by decide) ?_
            refine v_callV h (As := [.int b, .int 0]) (rest := []) (c_X7_lay (me := 44 + 2 * u) (b := b) (n := 0) (σ := σ) ((hs.2.2.2.2.2.2.2.2.1 u hu))) cal_X7_lay calV_X7_lay m750 ⟨rfl, rfl, Nat.le_of_ble_eq_true rfl, Nat.le_of_ble_eq_true rfl⟩ rfl (hs.2.2.2.2.2.2.2.2.1 u hu).1.1 (hs.2.2.2.2.2.2.2.2.1 u hu).1.2 ⟨_, _, rfl⟩ rfl (Nat.le_of_ble_eq_true rfl) dX9_sheet_88 (q := 91) rfl (kU ?_)
            refine v_iconst h (v := 1) dX9_sheet_91 (q := 92) rfl (by decide) ?_
            exact v_iret h dX9_sheet_92 (pA_of (by unfold oSheet; rw [if_pos ⟨(by rw [eu]; exact inN_of hu (by decide)), (by first | exact Or.inl (by assumption) | exact Or.inr (Or.inl (by assumption)) | exact Or.inr (Or.inr (Or.inl (by assumption))) | exact Or.inr (Or.inr (Or.inr (by assumption))))⟩, if_neg (fun z => z.1 (by assumption)), if_neg (fun z => z.1 (by assumption)), if_pos (by assumption), eu, cl_nI (by omega)]) (hR.lay (k := 0) hu (by first | exact Or.inl (by assumption) | exact Or.inr (Or.inl (by assumption)) | exact Or.inr (Or.inr (Or.inl (by assumption))) | exact Or.inr (Or.inr (Or.inr (by assumption)))) (by omega) (fun _ => rfl)))
        · refine v_iload_n h (i := 3) dX9_sheet_64 (q := 65) rfl rfl 4 rfl ?_
          refine v_bipush h (v := 40) dX9_sheet_65 (q := 67) rfl (by decide) ?_
          refine v_icmp_le h (t := 76) dX9_sheet_67 (by decide) (q := 70) rfl (fun c67 => ?_) (fun c67 => ?_)
          · refine v_aload h (i := 4) dX9_sheet_76 (q := 78) rfl 0 rfl ?_
            refine v_iload_n h (i := 2) dX9_sheet_78 (q := 79) rfl rfl 3 rfl ?_
            refine v_iload_n h (i := 2) dX9_sheet_79 (q := 80) rfl rfl 3 rfl ?_
            refine v_if_ne h (t := 87) dX9_sheet_80 (by decide) (q := 83) rfl (fun c80_1 => ?_) (fun c80_1 => ?_)
            · obtain ⟨k, hk, rfl⟩ : ∃ k, k ≤ 40 ∧ n = nI k := by first | exact n40 (by assumption) (by assumption) | (exfalso; contradiction)
              refine v_iload_n h (i := 3) dX9_sheet_87 (q := 88) rfl rfl 4 rfl ?_
              refine v_callV h (As := [.int b, .int (nI k)]) (rest := []) (c_X7_lay (me := 44 + 2 * u) (b := b) (n := nI k) (σ := σ) ((hs.2.2.2.2.2.2.2.2.1 u hu))) cal_X7_lay calV_X7_lay m750 ⟨rfl, rfl, Nat.le_of_ble_eq_true rfl, Nat.le_of_ble_eq_true rfl⟩ rfl (hs.2.2.2.2.2.2.2.2.1 u hu).1.1 (hs.2.2.2.2.2.2.2.2.1 u hu).1.2 ⟨_, _, rfl⟩ rfl (Nat.le_of_ble_eq_true rfl) dX9_sheet_88 (q := 91) rfl (kU ?_)
              refine v_iconst h (v := 1) dX9_sheet_91 (q := 92) rfl (by decide) ?_
              exact v_iret h dX9_sheet_92 (pA_of (by unfold oSheet; rw [if_pos ⟨(by rw [eu]; exact inN_of hu (by decide)), (by first | exact Or.inl (by assumption) | exact Or.inr (Or.inl (by assumption)) | exact Or.inr (Or.inr (Or.inl (by assumption))) | exact Or.inr (Or.inr (Or.inr (by assumption))))⟩, if_neg (fun z => by first | exact z.2 (by assumption) | exact z.1 (by assumption)), if_neg (fun z => by first | exact z.2 (by assumption) | exact z.1 (by assumption)), if_neg (by assumption), eu, cl_nI (by omega), cl_nI (by omega)]) (hR.lay (k := k) hu (by first | exact Or.inl (by assumption) | exact Or.inr (Or.inl (by assumption)) | exact Or.inr (Or.inr (Or.inl (by assumption))) | exact Or.inr (Or.inr (Or.inr (by assumption)))) (by omega) (fun z => absurd z (by assumption))))
            · refine v_iconst h (v := 0) dX9_sheet_83 (q := 84) rfl (by decide) ?_
              refine v_goto h (t := 88) dX9_sheet_84 (by decide) ?_
              refine v_callV h (As := [.int b, .int 0]) (rest := []) (c_X7_lay (me := 44 + 2 * u) (b := b) (n := 0) (σ := σ) ((hs.2.2.2.2.2.2.2.2.1 u hu))) cal_X7_lay calV_X7_lay m750 ⟨rfl, rfl, Nat.le_of_ble_eq_true rfl, Nat.le_of_ble_eq_true rfl⟩ rfl (hs.2.2.2.2.2.2.2.2.1 u hu).1.1 (hs.2.2.2.2.2.2.2.2.1 u hu).1.2 ⟨_, _, rfl⟩ rfl (Nat.le_of_ble_eq_true rfl) dX9_sheet_88 (q := 91) rfl (kU ?_)
              refine v_iconst h (v := 1) dX9_sheet_91 (q := 92) rfl (by decide) ?_
              exact v_iret h dX9_sheet_92 (pA_of (by unfold oSheet; rw [if_pos ⟨(by rw [eu]; exact inN_of hu (by decide)), (by first | exact Or.inl (by assumption) | exact Or.inr (Or.inl (by assumption)) | exact Or.inr (Or.inr (Or.inl (by assumption))) | exact Or.inr (Or.inr (Or.inr (by assumption))))⟩, if_neg (fun z => z.1 (by assumption)), if_neg (fun z => z.1 (by assumption)), if_pos (by assumption), eu, cl_nI (by omega)]) (hR.lay (k := 0) hu (by first | exact Or.inl (by assumption) | exact Or.inr (Or.inl (by assumption)) | exact Or.inr (Or.inr (Or.inl (by assumption))) | exact Or.inr (Or.inr (Or.inr (by assumption)))) (by omega) (fun _ => rfl)))
          · refine v_aload_n h (i := 0) dX9_sheet_70 (q := 71) rfl rfl 1 rfl ?_
            refine v_iconst h (v := 1) dX9_sheet_71 (q := 72) rfl (by decide) ?_
            refine v_callV h (As := [.int 1]) (rest := []) (c_ref (σ := σ) hs (e := 1) (by decide) rfl) cal_X9_refuse calV_X9_refuse m315 ⟨rfl, rfl, Nat.le_of_ble_eq_true rfl, Nat.le_of_ble_eq_true rfl⟩ rfl hs.1.1 hs.1.2 ⟨_, _, rfl⟩ rfl (Nat.le_of_ble_eq_true rfl) dX9_sheet_72 (q := 75) rfl (kI ?_)
            exact v_iret h dX9_sheet_75 (pA_of (by unfold oSheet; rw [if_pos ⟨(by rw [eu]; exact inN_of hu (by decide)), (by first | exact Or.inl (by assumption) | exact Or.inr (Or.inl (by assumption)) | exact Or.inr (Or.inr (Or.inl (by assumption))) | exact Or.inr (Or.inr (Or.inr (by assumption))))⟩, if_neg (fun z => by first | exact z.2 (by assumption) | exact z.1 (by assumption)), if_pos ⟨by assumption, by assumption⟩]; rfl) (hR.err (by decide)))
      · refine v_iload_n h (i := 3) dX9_sheet_50 (q := 51) rfl rfl 4 rfl ?_
        refine v_if_ge h (t := 60) dX9_sheet_51 (by decide) (q := 54) rfl (fun c51 => ?_) (fun c51 => ?_)
        · refine v_iload_n h (i := 2) dX9_sheet_60 (q := 61) rfl rfl 3 rfl ?_
          refine v_if_eq h (t := 76) dX9_sheet_61 (by decide) (q := 64) rfl (fun c61_1 => ?_) (fun c61_1 => ?_)
          · refine v_aload h (i := 4) dX9_sheet_76 (q := 78) rfl 0 rfl ?_
            refine v_iload_n h (i := 2) dX9_sheet_78 (q := 79) rfl rfl 3 rfl ?_
            refine v_iload_n h (i := 2) dX9_sheet_79 (q := 80) rfl rfl 3 rfl ?_
            refine v_if_ne h (t := 87) dX9_sheet_80 (by decide) (q := 83) rfl (fun c80_2 => ?_) (fun c80_2 => ?_)
            · obtain ⟨k, hk, rfl⟩ : ∃ k, k ≤ 40 ∧ n = nI k := by first | exact n40 (by assumption) (by assumption) | (exfalso; contradiction)
              refine v_iload_n h (i := 3) dX9_sheet_87 (q := 88) rfl rfl 4 rfl ?_
              refine v_callV h (As := [.int b, .int (nI k)]) (rest := []) (c_X7_lay (me := 44 + 2 * u) (b := b) (n := nI k) (σ := σ) ((hs.2.2.2.2.2.2.2.2.1 u hu))) cal_X7_lay calV_X7_lay m750 ⟨rfl, rfl, Nat.le_of_ble_eq_true rfl, Nat.le_of_ble_eq_true rfl⟩ rfl (hs.2.2.2.2.2.2.2.2.1 u hu).1.1 (hs.2.2.2.2.2.2.2.2.1 u hu).1.2 ⟨_, _, rfl⟩ rfl (Nat.le_of_ble_eq_true rfl) dX9_sheet_88 (q := 91) rfl (kU ?_)
              refine v_iconst h (v := 1) dX9_sheet_91 (q := 92) rfl (by decide) ?_
              exact v_iret h dX9_sheet_92 (pA_of (by unfold oSheet; rw [if_pos ⟨(by rw [eu]; exact inN_of hu (by decide)), (by first | exact Or.inl (by assumption) | exact Or.inr (Or.inl (by assumption)) | exact Or.inr (Or.inr (Or.inl (by assumption))) | exact Or.inr (Or.inr (Or.inr (by assumption))))⟩, if_neg (fun z => by first | exact z.2 (by assumption) | exact z.1 (by assumption)), if_neg (fun z => by first | exact z.2 (by assumption) | exact z.1 (by assumption)), if_neg (by assumption), eu, cl_nI (by omega), cl_nI (by omega)]) (hR.lay (k := k) hu (by first | exact Or.inl (by assumption) | exact Or.inr (Or.inl (by assumption)) | exact Or.inr (Or.inr (Or.inl (by assumption))) | exact Or.inr (Or.inr (Or.inr (by assumption)))) (by omega) (fun z => absurd z (by assumption))))
            · refine v_iconst h (v := 0) dX9_sheet_83 (q := 84) rfl (by decide) ?_
              refine v_goto h (t := 88) dX9_sheet_84 (by decide) ?_
              refine v_callV h (As := [.int b, .int 0]) (rest := []) (c_X7_lay (me := 44 + 2 * u) (b := b) (n := 0) (σ := σ) ((hs.2.2.2.2.2.2.2.2.1 u hu))) cal_X7_lay calV_X7_lay m750 ⟨rfl, rfl, Nat.le_of_ble_eq_true rfl, Nat.le_of_ble_eq_true rfl⟩ rfl (hs.2.2.2.2.2.2.2.2.1 u hu).1.1 (hs.2.2.2.2.2.2.2.2.1 u hu).1.2 ⟨_, _, rfl⟩ rfl (Nat.le_of_ble_eq_true rfl) dX9_sheet_88 (q := 91) rfl (kU ?_)
              refine v_iconst h (v := 1) dX9_sheet_91 (q := 92) rfl (by decide) ?_
              exact v_iret h dX9_sheet_92 (pA_of (by unfold oSheet; rw [if_pos ⟨(by rw [eu]; exact inN_of hu (by decide)), (by first | exact Or.inl (by assumption) | exact Or.inr (Or.inl (by assumption)) | exact Or.inr (Or.inr (Or.inl (by assumption))) | exact Or.inr (Or.inr (Or.inr (by assumption))))⟩, if_neg (fun z => z.1 (by assumption)), if_neg (fun z => z.1 (by assumption)), if_pos (by assumption), eu, cl_nI (by omega)]) (hR.lay (k := 0) hu (by first | exact Or.inl (by assumption) | exact Or.inr (Or.inl (by assumption)) | exact Or.inr (Or.inr (Or.inl (by assumption))) | exact Or.inr (Or.inr (Or.inr (by assumption)))) (by omega) (fun _ => rfl)))
          · refine v_iload_n h (i := 3) dX9_sheet_64 (q := 65) rfl rfl 4 rfl ?_
            refine v_bipush h (v := 40) dX9_sheet_65 (q := 67) rfl (by decide) ?_
            refine v_icmp_le h (t := 76) dX9_sheet_67 (by decide) (q := 70) rfl (fun c67_1 => ?_) (fun c67_1 => ?_)
            · refine v_aload h (i := 4) dX9_sheet_76 (q := 78) rfl 0 rfl ?_
              refine v_iload_n h (i := 2) dX9_sheet_78 (q := 79) rfl rfl 3 rfl ?_
              refine v_iload_n h (i := 2) dX9_sheet_79 (q := 80) rfl rfl 3 rfl ?_
              refine v_if_ne h (t := 87) dX9_sheet_80 (by decide) (q := 83) rfl (fun c80_3 => ?_) (fun c80_3 => ?_)
              · obtain ⟨k, hk, rfl⟩ : ∃ k, k ≤ 40 ∧ n = nI k := by first | exact n40 (by assumption) (by assumption) | (exfalso; contradiction)
                refine v_iload_n h (i := 3) dX9_sheet_87 (q := 88) rfl rfl 4 rfl ?_
                refine v_callV h (As := [.int b, .int (nI k)]) (rest := []) (c_X7_lay (me := 44 + 2 * u) (b := b) (n := nI k) (σ := σ) ((hs.2.2.2.2.2.2.2.2.1 u hu))) cal_X7_lay calV_X7_lay m750 ⟨rfl, rfl, Nat.le_of_ble_eq_true rfl, Nat.le_of_ble_eq_true rfl⟩ rfl (hs.2.2.2.2.2.2.2.2.1 u hu).1.1 (hs.2.2.2.2.2.2.2.2.1 u hu).1.2 ⟨_, _, rfl⟩ rfl (Nat.le_of_ble_eq_true rfl) dX9_sheet_88 (q := 91) rfl (kU ?_)
                refine v_iconst h (v := 1) dX9_sheet_91 (q := 92) rfl (by decide) ?_
                exact v_iret h dX9_sheet_92 (pA_of (by unfold oSheet; rw [if_pos ⟨(by rw [eu]; exact inN_of hu (by decide)), (by first | exact Or.inl (by assumption) | exact Or.inr (Or.inl (by assumption)) | exact Or.inr (Or.inr (Or.inl (by assumption))) | exact Or.inr (Or.inr (Or.inr (by assumption))))⟩, if_neg (fun z => by first | exact z.2 (by assumption) | exact z.1 (by assumption)), if_neg (fun z => by first | exact z.2 (by assumption) | exact z.1 (by assumption)), if_neg (by assumption), eu, cl_nI (by omega), cl_nI (by omega)]) (hR.lay (k := k) hu (by first | exact Or.inl (by assumption) | exact Or.inr (Or.inl (by assumption)) | exact Or.inr (Or.inr (Or.inl (by assumption))) | exact Or.inr (Or.inr (Or.inr (by assumption)))) (by omega) (fun z => absurd z (by assumption))))
              · refine v_iconst h (v := 0) dX9_sheet_83 (q := 84) rfl (by decide) ?_
                refine v_goto h (t := 88) dX9_sheet_84 (by decide) ?_
                refine v_callV h (As := [.int b, .int 0]) (rest := []) (c_X7_lay (me := 44 + 2 * u) (b := b) (n := 0) (σ := σ) ((hs.2.2.2.2.2.2.2.2.1 u hu))) cal_X7_lay calV_X7_lay m750 ⟨rfl, rfl, Nat.le_of_ble_eq_true rfl, Nat.le_of_ble_eq_true rfl⟩ rfl (hs.2.2.2.2.2.2.2.2.1 u hu).1.1 (hs.2.2.2.2.2.2.2.2.1 u hu).1.2 ⟨_, _, rfl⟩ rfl (Nat.le_of_ble_eq_true rfl) dX9_sheet_88 (q := 91) rfl (kU ?_)
                refine v_iconst h (v := 1) dX9_sheet_91 (q := 92) rfl (by decide) ?_
                exact v_iret h dX9_sheet_92 (pA_of (by unfold oSheet; rw [if_pos ⟨(by rw [eu]; exact inN_of hu (by decide)), (by first | exact Or.inl (by assumption) | exact Or.inr (Or.inl (by assumption)) | exact Or.inr (Or.inr (Or.inl (by assumption))) | exact Or.inr (Or.inr (Or.inr (by assumption))))⟩, if_neg (fun z => z.1 (by assumption)), if_neg (fun z => z.1 (by assumption)), if_pos (by assumption), eu, cl_nI (by omega)]) (hR.lay (k := 0) hu (by first | exact Or.inl (by assumption) | exact Or.inr (Or.inl (by assumption)) | exact Or.inr (Or.inr (Or.inl (by assumption))) | exact Or.inr (Or.inr (Or.inr (by assumption)))) (by omega) (fun _ => rfl)))
            · refine v_aload_n h (i := 0) dX9_sheet_70 (q := 71) rfl rfl 1 rfl ?_
              refine v_iconst h (v := 1) dX9_sheet_71 (q := 72) rfl (by decide) ?_
              refine v_callV h (As := [.int 1]) (rest := []) (c_ref (σ := σ) hs (e := 1) (by decide) rfl) cal_X9_refuse calV_X9_refuse m315 ⟨rfl, rfl, Nat.le_of_ble_eq_true rfl, Nat.le_of_ble_eq_true rfl⟩ rfl hs.1.1 hs.1.2 ⟨_, _, rfl⟩ rfl (Nat.le_of_ble_eq_true rfl) dX9_sheet_72 (q := 75) rfl (kI ?_)
              exact v_iret h dX9_sheet_75 (pA_of (by unfold oSheet; rw [if_pos ⟨(by rw [eu]; exact inN_of hu (by decide)), (by first | exact Or.inl (by assumption) | exact Or.inr (Or.inl (by assumption)) | exact Or.inr (Or.inr (Or.inl (by assumption))) | exact Or.inr (Or.inr (Or.inr (by assumption))))⟩, if_neg (fun z => by first | exact z.2 (by assumption) | exact z.1 (by assumption)), if_pos ⟨by assumption, by assumption⟩]; rfl) (hR.err (by decide)))
        · refine v_aload_n h (i := 0) dX9_sheet_54 (q := 55) rfl rfl 1 rfl ?_
          refine v_iconst h (v := 3) dX9_sheet_55 (q := 56) rfl (by decide) ?_
          refine v_callV h (As := [.int 3]) (rest := []) (c_ref (σ := σ) hs (e := 3) (by decide) rfl) cal_X9_refuse calV_X9_refuse m315 ⟨rfl, rfl, Nat.le_of_ble_eq_true rfl, Nat.le_of_ble_eq_true rfl⟩ rfl hs.1.1 hs.1.2 ⟨_, _, rfl⟩ rfl (Nat.le_of_ble_eq_true rfl) dX9_sheet_56 (q := 59) rfl (kI ?_)
          exact v_iret h dX9_sheet_59 (pA_of (by unfold oSheet; rw [if_pos ⟨(by rw [eu]; exact inN_of hu (by decide)), (by first | exact Or.inl (by assumption) | exact Or.inr (Or.inl (by assumption)) | exact Or.inr (Or.inr (Or.inl (by assumption))) | exact Or.inr (Or.inr (Or.inr (by assumption))))⟩, if_pos ⟨by assumption, by assumption⟩]; rfl) (hR.err (by decide)))
    · refine v_iload_n h (i := 2) dX9_sheet_22 (q := 23) rfl rfl 3 rfl ?_
      refine v_bipush h (v := 8) dX9_sheet_23 (q := 25) rfl (by decide) ?_
      refine v_icmp_eq h (t := 46) dX9_sheet_25 (by decide) (q := 28) rfl (fun c25 => ?_) (fun c25 => ?_)
      · refine v_iload_n h (i := 2) dX9_sheet_46 (q := 47) rfl rfl 3 rfl ?_
        refine v_if_eq h (t := 60) dX9_sheet_47 (by decide) (q := 50) rfl (fun c47_1 => ?_) (fun c47_1 => ?_)
        · refine v_iload_n h (i := 2) dX9_sheet_60 (q := 61) rfl rfl 3 rfl ?_
          refine v_if_eq h (t := 76) dX9_sheet_61 (by decide) (q := 64) rfl (fun c61_2 => ?_) (fun c61_2 => ?_)
          · refine v_aload h (i := 4) dX9_sheet_76 (q := 78) rfl 0 rfl ?_
            refine v_iload_n h (i := 2) dX9_sheet_78 (q := 79) rfl rfl 3 rfl ?_
            refine v_iload_n h (i := 2) dX9_sheet_79 (q := 80) rfl rfl 3 rfl ?_
            refine v_if_ne h (t := 87) dX9_sheet_80 (by decide) (q := 83) rfl (fun c80_4 => ?_) (fun c80_4 => ?_)
            · obtain ⟨k, hk, rfl⟩ : ∃ k, k ≤ 40 ∧ n = nI k := by first | exact n40 (by assumption) (by assumption) | (exfalso; contradiction)
              refine v_iload_n h (i := 3) dX9_sheet_87 (q := 88) rfl rfl 4 rfl ?_
              refine v_callV h (As := [.int b, .int (nI k)]) (rest := []) (c_X7_lay (me := 44 + 2 * u) (b := b) (n := nI k) (σ := σ) ((hs.2.2.2.2.2.2.2.2.1 u hu))) cal_X7_lay calV_X7_lay m750 ⟨rfl, rfl, Nat.le_of_ble_eq_true rfl, Nat.le_of_ble_eq_true rfl⟩ rfl (hs.2.2.2.2.2.2.2.2.1 u hu).1.1 (hs.2.2.2.2.2.2.2.2.1 u hu).1.2 ⟨_, _, rfl⟩ rfl (Nat.le_of_ble_eq_true rfl) dX9_sheet_88 (q := 91) rfl (kU ?_)
              refine v_iconst h (v := 1) dX9_sheet_91 (q := 92) rfl (by decide) ?_
              exact v_iret h dX9_sheet_92 (pA_of (by unfold oSheet; rw [if_pos ⟨(by rw [eu]; exact inN_of hu (by decide)), (by first | exact Or.inl (by assumption) | exact Or.inr (Or.inl (by assumption)) | exact Or.inr (Or.inr (Or.inl (by assumption))) | exact Or.inr (Or.inr (Or.inr (by assumption))))⟩, if_neg (fun z => by first | exact z.2 (by assumption) | exact z.1 (by assumption)), if_neg (fun z => by first | exact z.2 (by assumption) | exact z.1 (by assumption)), if_neg (by assumption), eu, cl_nI (by omega), cl_nI (by omega)]) (hR.lay (k := k) hu (by first | exact Or.inl (by assumption) | exact Or.inr (Or.inl (by assumption)) | exact Or.inr (Or.inr (Or.inl (by assumption))) | exact Or.inr (Or.inr (Or.inr (by assumption)))) (by omega) (fun z => absurd z (by assumption))))
            · refine v_iconst h (v := 0) dX9_sheet_83 (q := 84) rfl (by decide) ?_
              refine v_goto h (t := 88) dX9_sheet_84 (by decide) ?_
              refine v_callV h (As := [.int b, .int 0]) (rest := []) (c_X7_lay (me := 44 + 2 * u) (b := b) (n := 0) (σ := σ) ((hs.2.2.2.2.2.2.2.2.1 u hu))) cal_X7_lay calV_X7_lay m750 ⟨rfl, rfl, Nat.le_of_ble_eq_true rfl, Nat.le_of_ble_eq_true rfl⟩ rfl (hs.2.2.2.2.2.2.2.2.1 u hu).1.1 (hs.2.2.2.2.2.2.2.2.1 u hu).1.2 ⟨_, _, rfl⟩ rfl (Nat.le_of_ble_eq_true rfl) dX9_sheet_88 (q := 91) rfl (kU ?_)
              refine v_iconst h (v := 1) dX9_sheet_91 (q := 92) rfl (by decide) ?_
              exact v_iret h dX9_sheet_92 (pA_of (by unfold oSheet; rw [if_pos ⟨(by rw [eu]; exact inN_of hu (by decide)), (by first | exact Or.inl (by assumption) | exact Or.inr (Or.inl (by assumption)) | exact Or.inr (Or.inr (Or.inl (by assumption))) | exact Or.inr (Or.inr (Or.inr (by assumption))))⟩, if_neg (fun z => z.1 (by assumption)), if_neg (fun z => z.1 (by assumption)), if_pos (by assumption), eu, cl_nI (by omega)]) (hR.lay (k := 0) hu (by first | exact Or.inl (by assumption) | exact Or.inr (Or.inl (by assumption)) | exact Or.inr (Or.inr (Or.inl (by assumption))) | exact Or.inr (Or.inr (Or.inr (by assumption)))) (by omega) (fun _ => rfl)))
          · refine v_iload_n h (i := 3) dX9_sheet_64 (q := 65) rfl rfl 4 rfl ?_
            refine v_bipush h (v := 40) dX9_sheet_65 (q := 67) rfl (by decide) ?_
            refine v_icmp_le h (t := 76) dX9_sheet_67 (by decide) (q := 70) rfl (fun c67_2 => ?_) (fun c67_2 => ?_)
            · refine v_aload h (i := 4) dX9_sheet_76 (q := 78) rfl 0 rfl ?_
              refine v_iload_n h (i := 2) dX9_sheet_78 (q := 79) rfl rfl 3 rfl ?_
              refine v_iload_n h (i := 2) dX9_sheet_79 (q := 80) rfl rfl 3 rfl ?_
              refine v_if_ne h (t := 87) dX9_sheet_80 (by decide) (q := 83) rfl (fun c80_5 => ?_) (fun c80_5 => ?_)
              · obtain ⟨k, hk, rfl⟩ : ∃ k, k ≤ 40 ∧ n = nI k := by first | exact n40 (by assumption) (by assumption) | (exfalso; contradiction)
                refine v_iload_n h (i := 3) dX9_sheet_87 (q := 88) rfl rfl 4 rfl ?_
                refine v_callV h (As := [.int b, .int (nI k)]) (rest := []) (c_X7_lay (me := 44 + 2 * u) (b := b) (n := nI k) (σ := σ) ((hs.2.2.2.2.2.2.2.2.1 u hu))) cal_X7_lay calV_X7_lay m750 ⟨rfl, rfl, Nat.le_of_ble_eq_true rfl, Nat.le_of_ble_eq_true rfl⟩ rfl (hs.2.2.2.2.2.2.2.2.1 u hu).1.1 (hs.2.2.2.2.2.2.2.2.1 u hu).1.2 ⟨_, _, rfl⟩ rfl (Nat.le_of_ble_eq_true rfl) dX9_sheet_88 (q := 91) rfl (kU ?_)
                refine v_iconst h (v := 1) dX9_sheet_91 (q := 92) rfl (by decide) ?_
                exact v_iret h dX9_sheet_92 (pA_of (by unfold oSheet; rw [if_pos ⟨(by rw [eu]; exact inN_of hu (by decide)), (by first | exact Or.inl (by assumption) | exact Or.inr (Or.inl (by assumption)) | exact Or.inr (Or.inr (Or.inl (by assumption))) | exact Or.inr (Or.inr (Or.inr (by assumption))))⟩, if_neg (fun z => by first | exact z.2 (by assumption) | exact z.1 (by assumption)), if_neg (fun z => by first | exact z.2 (by assumption) | exact z.1 (by assumption)), if_neg (by assumption), eu, cl_nI (by omega), cl_nI (by omega)]) (hR.lay (k := k) hu (by first | exact Or.inl (by assumption) | exact Or.inr (Or.inl (by assumption)) | exact Or.inr (Or.inr (Or.inl (by assumption))) | exact Or.inr (Or.inr (Or.inr (by assumption)))) (by omega) (fun z => absurd z (by assumption))))
              · refine v_iconst h (v := 0) dX9_sheet_83 (q := 84) rfl (by decide) ?_
                refine v_goto h (t := 88) dX9_sheet_84 (by decide) ?_
                refine v_callV h (As := [.int b, .int 0]) (rest := []) (c_X7_lay (me := 44 + 2 * u) (b := b) (n := 0) (σ := σ) ((hs.2.2.2.2.2.2.2.2.1 u hu))) cal_X7_lay calV_X7_lay m750 ⟨rfl, rfl, Nat.le_of_ble_eq_true rfl, Nat.le_of_ble_eq_true rfl⟩ rfl (hs.2.2.2.2.2.2.2.2.1 u hu).1.1 (hs.2.2.2.2.2.2.2.2.1 u hu).1.2 ⟨_, _, rfl⟩ rfl (Nat.le_of_ble_eq_true rfl) dX9_sheet_88 (q := 91) rfl (kU ?_)
                refine v_iconst h (v := 1) dX9_sheet_91 (q := 92) rfl (by decide) ?_
                exact v_iret h dX9_sheet_92 (pA_of (by unfold oSheet; rw [if_pos ⟨(by rw [eu]; exact inN_of hu (by decide)), (by first | exact Or.inl (by assumption) | exact Or.inr (Or.inl (by assumption)) | exact Or.inr (Or.inr (Or.inl (by assumption))) | exact Or.inr (Or.inr (Or.inr (by assumption))))⟩, if_neg (fun z => z.1 (by assumption)), if_neg (fun z => z.1 (by assumption)), if_pos (by assumption), eu, cl_nI (by omega)]) (hR.lay (k := 0) hu (by first | exact Or.inl (by assumption) | exact Or.inr (Or.inl (by assumption)) | exact Or.inr (Or.inr (Or.inl (by assumption))) | exact Or.inr (Or.inr (Or.inr (by assumption)))) (by omega) (fun _ => rfl)))
            · refine v_aload_n h (i := 0) dX9_sheet_70 (q := 71) rfl rfl 1 rfl ?_
              refine v_iconst h (v := 1) dX9_sheet_71 (q := 72) rfl (by decide) ?_
              refine v_callV h (As := [.int 1]) (rest := []) (c_ref (σ := σ) hs (e := 1) (by decide) rfl) cal_X9_refuse calV_X9_refuse m315 ⟨rfl, rfl, Nat.le_of_ble_eq_true rfl, Nat.le_of_ble_eq_true rfl⟩ rfl hs.1.1 hs.1.2 ⟨_, _, rfl⟩ rfl (Nat.le_of_ble_eq_true rfl) dX9_sheet_72 (q := 75) rfl (kI ?_)
              exact v_iret h dX9_sheet_75 (pA_of (by unfold oSheet; rw [if_pos ⟨(by rw [eu]; exact inN_of hu (by decide)), (by first | exact Or.inl (by assumption) | exact Or.inr (Or.inl (by assumption)) | exact Or.inr (Or.inr (Or.inl (by assumption))) | exact Or.inr (Or.inr (Or.inr (by assumption))))⟩, if_neg (fun z => by first | exact z.2 (by assumption) | exact z.1 (by assumption)), if_pos ⟨by assumption, by assumption⟩]; rfl) (hR.err (by decide)))
        · refine v_iload_n h (i := 3) dX9_sheet_50 (q := 51) rfl rfl 4 rfl ?_
          refine v_if_ge h (t := 60) dX9_sheet_51 (by decide) (q := 54) rfl (fun c51_1 => ?_) (fun c51_1 => ?_)
          · refine v_iload_n h (i := 2) dX9_sheet_60 (q := 61) rfl rfl 3 rfl ?_
            refine v_if_eq h (t := 76) dX9_sheet_61 (by decide) (q := 64) rfl (fun c61_3 => ?_) (fun c61_3 => ?_)
            · refine v_aload h (i := 4) dX9_sheet_76 (q := 78) rfl 0 rfl ?_
              refine v_iload_n h (i := 2) dX9_sheet_78 (q := 79) rfl rfl 3 rfl ?_
              refine v_iload_n h (i := 2) dX9_sheet_79 (q := 80) rfl rfl 3 rfl ?_
              refine v_if_ne h (t := 87) dX9_sheet_80 (by decide) (q := 83) rfl (fun c80_6 => ?_) (fun c80_6 => ?_)
              · obtain ⟨k, hk, rfl⟩ : ∃ k, k ≤ 40 ∧ n = nI k := by first | exact n40 (by assumption) (by assumption) | (exfalso; contradiction)
                refine v_iload_n h (i := 3) dX9_sheet_87 (q := 88) rfl rfl 4 rfl ?_
                refine v_callV h (As := [.int b, .int (nI k)]) (rest := []) (c_X7_lay (me := 44 + 2 * u) (b := b) (n := nI k) (σ := σ) ((hs.2.2.2.2.2.2.2.2.1 u hu))) cal_X7_lay calV_X7_lay m750 ⟨rfl, rfl, Nat.le_of_ble_eq_true rfl, Nat.le_of_ble_eq_true rfl⟩ rfl (hs.2.2.2.2.2.2.2.2.1 u hu).1.1 (hs.2.2.2.2.2.2.2.2.1 u hu).1.2 ⟨_, _, rfl⟩ rfl (Nat.le_of_ble_eq_true rfl) dX9_sheet_88 (q := 91) rfl (kU ?_)
                refine v_iconst h (v := 1) dX9_sheet_91 (q := 92) rfl (by decide) ?_
                exact v_iret h dX9_sheet_92 (pA_of (by unfold oSheet; rw [if_pos ⟨(by rw [eu]; exact inN_of hu (by decide)), (by first | exact Or.inl (by assumption) | exact Or.inr (Or.inl (by assumption)) | exact Or.inr (Or.inr (Or.inl (by assumption))) | exact Or.inr (Or.inr (Or.inr (by assumption))))⟩, if_neg (fun z => by first | exact z.2 (by assumption) | exact z.1 (by assumption)), if_neg (fun z => by first | exact z.2 (by assumption) | exact z.1 (by assumption)), if_neg (by assumption), eu, cl_nI (by omega), cl_nI (by omega)]) (hR.lay (k := k) hu (by first | exact Or.inl (by assumption) | exact Or.inr (Or.inl (by assumption)) | exact Or.inr (Or.inr (Or.inl (by assumption))) | exact Or.inr (Or.inr (Or.inr (by assumption)))) (by omega) (fun z => absurd z (by assumption))))
              · refine v_iconst h (v := 0) dX9_sheet_83 (q := 84) rfl (by decide) ?_
                refine v_goto h (t := 88) dX9_sheet_84 (by decide) ?_
                refine v_callV h (As := [.int b, .int 0]) (rest := []) (c_X7_lay (me := 44 + 2 * u) (b := b) (n := 0) (σ := σ) ((hs.2.2.2.2.2.2.2.2.1 u hu))) cal_X7_lay calV_X7_lay m750 ⟨rfl, rfl, Nat.le_of_ble_eq_true rfl, Nat.le_of_ble_eq_true rfl⟩ rfl (hs.2.2.2.2.2.2.2.2.1 u hu).1.1 (hs.2.2.2.2.2.2.2.2.1 u hu).1.2 ⟨_, _, rfl⟩ rfl (Nat.le_of_ble_eq_true rfl) dX9_sheet_88 (q := 91) rfl (kU ?_)
                refine v_iconst h (v := 1) dX9_sheet_91 (q := 92) rfl (by decide) ?_
                exact v_iret h dX9_sheet_92 (pA_of (by unfold oSheet; rw [if_pos ⟨(by rw [eu]; exact inN_of hu (by decide)), (by first | exact Or.inl (by assumption) | exact Or.inr (Or.inl (by assumption)) | exact Or.inr (Or.inr (Or.inl (by assumption))) | exact Or.inr (Or.inr (Or.inr (by assumption))))⟩, if_neg (fun z => z.1 (by assumption)), if_neg (fun z => z.1 (by assumption)), if_pos (by assumption), eu, cl_nI (by omega)]) (hR.lay (k := 0) hu (by first | exact Or.inl (by assumption) | exact Or.inr (Or.inl (by assumption)) | exact Or.inr (Or.inr (Or.inl (by assumption))) | exact Or.inr (Or.inr (Or.inr (by assumption)))) (by omega) (fun _ => rfl)))
            · refine v_iload_n h (i := 3) dX9_sheet_64 (q := 65) rfl rfl 4 rfl ?_
              refine v_bipush h (v := 40) dX9_sheet_65 (q := 67) rfl (by decide) ?_
              refine v_icmp_le h (t := 76) dX9_sheet_67 (by decide) (q := 70) rfl (fun c67_3 => ?_) (fun c67_3 => ?_)
              · refine v_aload h (i := 4) dX9_sheet_76 (q := 78) rfl 0 rfl ?_
                refine v_iload_n h (i := 2) dX9_sheet_78 (q := 79) rfl rfl 3 rfl ?_
                refine v_iload_n h (i := 2) dX9_sheet_79 (q := 80) rfl rfl 3 rfl ?_
                refine v_if_ne h (t := 87) dX9_sheet_80 (by decide) (q := 83) rfl (fun c80_7 => ?_) (fun c80_7 => ?_)
                · obtain ⟨k, hk, rfl⟩ : ∃ k, k ≤ 40 ∧ n = nI k := by first | exact n40 (by assumption) (by assumption) | (exfalso; contradiction)
                  refine v_iload_n h (i := 3) dX9_sheet_87 (q := 88) rfl rfl 4 rfl ?_
                  refine v_callV h (As := [.int b, .int (nI k)]) (rest := []) (c_X7_lay (me := 44 + 2 * u) (b := b) (n := nI k) (σ := σ) ((hs.2.2.2.2.2.2.2.2.1 u hu))) cal_X7_lay calV_X7_lay m750 ⟨rfl, rfl, Nat.le_of_ble_eq_true rfl, Nat.le_of_ble_eq_true rfl⟩ rfl (hs.2.2.2.2.2.2.2.2.1 u hu).1.1 (hs.2.2.2.2.2.2.2.2.1 u hu).1.2 ⟨_, _, rfl⟩ rfl (Nat.le_of_ble_eq_true rfl) dX9_sheet_88 (q := 91) rfl (kU ?_)
                  refine v_iconst h (v := 1) dX9_sheet_91 (q := 92) rfl (by decide) ?_
                  exact v_iret h dX9_sheet_92 (pA_of (by unfold oSheet; rw [if_pos ⟨(by rw [eu]; exact inN_of hu (by decide)), (by first | exact Or.inl (by assumption) | exact Or.inr (Or.inl (by assumption)) | exact Or.inr (Or.inr (Or.inl (by assumption))) | exact Or.inr (Or.inr (Or.inr (by assumption))))⟩, if_neg (fun z => by first | exact z.2 (by assumption) | exact z.1 (by assumption)), if_neg (fun z => by first | exact z.2 (by assumption) | exact z.1 (by assumption)), if_neg (by assumption), eu, cl_nI (by omega), cl_nI (by omega)]) (hR.lay (k := k) hu (by first | exact Or.inl (by assumption) | exact Or.inr (Or.inl (by assumption)) | exact Or.inr (Or.inr (Or.inl (by assumption))) | exact Or.inr (Or.inr (Or.inr (by assumption)))) (by omega) (fun z => absurd z (by assumption))))
                · refine v_iconst h (v := 0) dX9_sheet_83 (q := 84) rfl (by decide) ?_
                  refine v_goto h (t := 88) dX9_sheet_84 (by decide) ?_
                  refine v_callV h (As := [.int b, .int 0]) (rest := []) (c_X7_lay (me := 44 + 2 * u) (b := b) (n := 0) (σ := σ) ((hs.2.2.2.2.2.2.2.2.1 u hu))) cal_X7_lay calV_X7_lay m750 ⟨rfl, rfl, Nat.le_of_ble_eq_true rfl, Nat.le_of_ble_eq_true rfl⟩ rfl (hs.2.2.2.2.2.2.2.2.1 u hu).1.1 (hs.2.2.2.2.2.2.2.2.1 u hu).1.2 ⟨_, _, rfl⟩ rfl (Nat.le_of_ble_eq_true rfl) dX9_sheet_88 (q := 91) rfl (kU ?_)
                  refine v_iconst h (v := 1) dX9_sheet_91 (q := 92) rfl (by decide) ?_
                  exact v_iret h dX9_sheet_92 (pA_of (by unfold oSheet; rw [if_pos ⟨(by rw [eu]; exact inN_of hu (by decide)), (by first | exact Or.inl (by assumption) | exact Or.inr (Or.inl (by assumption)) | exact Or.inr (Or.inr (Or.inl (by assumption))) | exact Or.inr (Or.inr (Or.inr (by assumption))))⟩, if_neg (fun z => z.1 (by assumption)), if_neg (fun z => z.1 (by assumption)), if_pos (by assumption), eu, cl_nI (by omega)]) (hR.lay (k := 0) hu (by first | exact Or.inl (by assumption) | exact Or.inr (Or.inl (by assumption)) | exact Or.inr (Or.inr (Or.inl (by assumption))) | exact Or.inr (Or.inr (Or.inr (by assumption)))) (by omega) (fun _ => rfl)))
              · refine v_aload_n h (i := 0) dX9_sheet_70 (q := 71) rfl rfl 1 rfl ?_
                refine v_iconst h (v := 1) dX9_sheet_71 (q := 72) rfl (by decide) ?_
                refine v_callV h (As := [.int 1]) (rest := []) (c_ref (σ := σ) hs (e := 1) (by decide) rfl) cal_X9_refuse calV_X9_refuse m315 ⟨rfl, rfl, Nat.le_of_ble_eq_true rfl, Nat.le_of_ble_eq_true rfl⟩ rfl hs.1.1 hs.1.2 ⟨_, _, rfl⟩ rfl (Nat.le_of_ble_eq_true rfl) dX9_sheet_72 (q := 75) rfl (kI ?_)
                exact v_iret h dX9_sheet_75 (pA_of (by unfold oSheet; rw [if_pos ⟨(by rw [eu]; exact inN_of hu (by decide)), (by first | exact Or.inl (by assumption) | exact Or.inr (Or.inl (by assumption)) | exact Or.inr (Or.inr (Or.inl (by assumption))) | exact Or.inr (Or.inr (Or.inr (by assumption))))⟩, if_neg (fun z => by first | exact z.2 (by assumption) | exact z.1 (by assumption)), if_pos ⟨by assumption, by assumption⟩]; rfl) (hR.err (by decide)))
          · refine v_aload_n h (i := 0) dX9_sheet_54 (q := 55) rfl rfl 1 rfl ?_
            refine v_iconst h (v := 3) dX9_sheet_55 (q := 56) rfl (by decide) ?_
            refine v_callV h (As := [.int 3]) (rest := []) (c_ref (σ := σ) hs (e := 3) (by decide) rfl) cal_X9_refuse calV_X9_refuse m315 ⟨rfl, rfl, Nat.le_of_ble_eq_true rfl, Nat.le_of_ble_eq_true rfl⟩ rfl hs.1.1 hs.1.2 ⟨_, _, rfl⟩ rfl (Nat.le_of_ble_eq_true rfl) dX9_sheet_56 (q := 59) rfl (kI ?_)
            exact v_iret h dX9_sheet_59 (pA_of (by unfold oSheet; rw [if_pos ⟨(by rw [eu]; exact inN_of hu (by decide)), (by first | exact Or.inl (by assumption) | exact Or.inr (Or.inl (by assumption)) | exact Or.inr (Or.inr (Or.inl (by assumption))) | exact Or.inr (Or.inr (Or.inr (by assumption))))⟩, if_pos ⟨by assumption, by assumption⟩]; rfl) (hR.err (by decide)))
      · refine v_iload_n h (i := 2) dX9_sheet_28 (q := 29) rfl rfl 3 rfl ?_
        refine v_bipush h (v := 16) dX9_sheet_29 (q := 31) rfl (by decide) ?_
        refine v_icmp_eq h (t := 46) dX9_sheet_31 (by decide) (q := 34) rfl (fun c31 => ?_) (fun c31 => ?_)
        · refine v_iload_n h (i := 2) dX9_sheet_46 (q := 47) rfl rfl 3 rfl ?_
          refine v_if_eq h (t := 60) dX9_sheet_47 (by decide) (q := 50) rfl (fun c47_2 => ?_) (fun c47_2 => ?_)
          · refine v_iload_n h (i := 2) dX9_sheet_60 (q := 61) rfl rfl 3 rfl ?_
            refine v_if_eq h (t := 76) dX9_sheet_61 (by decide) (q := 64) rfl (fun c61_4 => ?_) (fun c61_4 => ?_)
            · refine v_aload h (i := 4) dX9_sheet_76 (q := 78) rfl 0 rfl ?_
              refine v_iload_n h (i := 2) dX9_sheet_78 (q := 79) rfl rfl 3 rfl ?_
              refine v_iload_n h (i := 2) dX9_sheet_79 (q := 80) rfl rfl 3 rfl ?_
              refine v_if_ne h (t := 87) dX9_sheet_80 (by decide) (q := 83) rfl (fun c80_8 => ?_) (fun c80_8 => ?_)
              · obtain ⟨k, hk, rfl⟩ : ∃ k, k ≤ 40 ∧ n = nI k := by first | exact n40 (by assumption) (by assumption) | (exfalso; contradiction)
                refine v_iload_n h (i := 3) dX9_sheet_87 (q := 88) rfl rfl 4 rfl ?_
                refine v_callV h (As := [.int b, .int (nI k)]) (rest := []) (c_X7_lay (me := 44 + 2 * u) (b := b) (n := nI k) (σ := σ) ((hs.2.2.2.2.2.2.2.2.1 u hu))) cal_X7_lay calV_X7_lay m750 ⟨rfl, rfl, Nat.le_of_ble_eq_true rfl, Nat.le_of_ble_eq_true rfl⟩ rfl (hs.2.2.2.2.2.2.2.2.1 u hu).1.1 (hs.2.2.2.2.2.2.2.2.1 u hu).1.2 ⟨_, _, rfl⟩ rfl (Nat.le_of_ble_eq_true rfl) dX9_sheet_88 (q := 91) rfl (kU ?_)
                refine v_iconst h (v := 1) dX9_sheet_91 (q := 92) rfl (by decide) ?_
                exact v_iret h dX9_sheet_92 (pA_of (by unfold oSheet; rw [if_pos ⟨(by rw [eu]; exact inN_of hu (by decide)), (by first | exact Or.inl (by assumption) | exact Or.inr (Or.inl (by assumption)) | exact Or.inr (Or.inr (Or.inl (by assumption))) | exact Or.inr (Or.inr (Or.inr (by assumption))))⟩, if_neg (fun z => by first | exact z.2 (by assumption) | exact z.1 (by assumption)), if_neg (fun z => by first | exact z.2 (by assumption) | exact z.1 (by assumption)), if_neg (by assumption), eu, cl_nI (by omega), cl_nI (by omega)]) (hR.lay (k := k) hu (by first | exact Or.inl (by assumption) | exact Or.inr (Or.inl (by assumption)) | exact Or.inr (Or.inr (Or.inl (by assumption))) | exact Or.inr (Or.inr (Or.inr (by assumption)))) (by omega) (fun z => absurd z (by assumption))))
              · refine v_iconst h (v := 0) dX9_sheet_83 (q := 84) rfl (by decide) ?_
                refine v_goto h (t := 88) dX9_sheet_84 (by decide) ?_
                refine v_callV h (As := [.int b, .int 0]) (rest := []) (c_X7_lay (me := 44 + 2 * u) (b := b) (n := 0) (σ := σ) ((hs.2.2.2.2.2.2.2.2.1 u hu))) cal_X7_lay calV_X7_lay m750 ⟨rfl, rfl, Nat.le_of_ble_eq_true rfl, Nat.le_of_ble_eq_true rfl⟩ rfl (hs.2.2.2.2.2.2.2.2.1 u hu).1.1 (hs.2.2.2.2.2.2.2.2.1 u hu).1.2 ⟨_, _, rfl⟩ rfl (Nat.le_of_ble_eq_true rfl) dX9_sheet_88 (q := 91) rfl (kU ?_)
                refine v_iconst h (v := 1) dX9_sheet_91 (q := 92) rfl (by decide) ?_
                exact v_iret h dX9_sheet_92 (pA_of (by unfold oSheet; rw [if_pos ⟨(by rw [eu]; exact inN_of hu (by decide)), (by first | exact Or.inl (by assumption) | exact Or.inr (Or.inl (by assumption)) | exact Or.inr (Or.inr (Or.inl (by assumption))) | exact Or.inr (Or.inr (Or.inr (by assumption))))⟩, if_neg (fun z => z.1 (by assumption)), if_neg (fun z => z.1 (by assumption)), if_pos (by assumption), eu, cl_nI (by omega)]) (hR.lay (k := 0) hu (by first | exact Or.inl (by assumption) | exact Or.inr (Or.inl (by assumption)) | exact Or.inr (Or.inr (Or.inl (by assumption))) | exact Or.inr (Or.inr (Or.inr (by assumption)))) (by omega) (fun _ => rfl)))
            · refine v_iload_n h (i := 3) dX9_sheet_64 (q := 65) rfl rfl 4 rfl ?_
              refine v_bipush h (v := 40) dX9_sheet_65 (q := 67) rfl (by decide) ?_
              refine v_icmp_le h (t := 76) dX9_sheet_67 (by decide) (q := 70) rfl (fun c67_4 => ?_) (fun c67_4 => ?_)
              · refine v_aload h (i := 4) dX9_sheet_76 (q := 78) rfl 0 rfl ?_
                refine v_iload_n h (i := 2) dX9_sheet_78 (q := 79) rfl rfl 3 rfl ?_
                refine v_iload_n h (i := 2) dX9_sheet_79 (q := 80) rfl rfl 3 rfl ?_
                refine v_if_ne h (t := 87) dX9_sheet_80 (by decide) (q := 83) rfl (fun c80_9 => ?_) (fun c80_9 => ?_)
                · obtain ⟨k, hk, rfl⟩ : ∃ k, k ≤ 40 ∧ n = nI k := by first | exact n40 (by assumption) (by assumption) | (exfalso; contradiction)
                  refine v_iload_n h (i := 3) dX9_sheet_87 (q := 88) rfl rfl 4 rfl ?_
                  refine v_callV h (As := [.int b, .int (nI k)]) (rest := []) (c_X7_lay (me := 44 + 2 * u) (b := b) (n := nI k) (σ := σ) ((hs.2.2.2.2.2.2.2.2.1 u hu))) cal_X7_lay calV_X7_lay m750 ⟨rfl, rfl, Nat.le_of_ble_eq_true rfl, Nat.le_of_ble_eq_true rfl⟩ rfl (hs.2.2.2.2.2.2.2.2.1 u hu).1.1 (hs.2.2.2.2.2.2.2.2.1 u hu).1.2 ⟨_, _, rfl⟩ rfl (Nat.le_of_ble_eq_true rfl) dX9_sheet_88 (q := 91) rfl (kU ?_)
                  refine v_iconst h (v := 1) dX9_sheet_91 (q := 92) rfl (by decide) ?_
                  exact v_iret h dX9_sheet_92 (pA_of (by unfold oSheet; rw [if_pos ⟨(by rw [eu]; exact inN_of hu (by decide)), (by first | exact Or.inl (by assumption) | exact Or.inr (Or.inl (by assumption)) | exact Or.inr (Or.inr (Or.inl (by assumption))) | exact Or.inr (Or.inr (Or.inr (by assumption))))⟩, if_neg (fun z => by first | exact z.2 (by assumption) | exact z.1 (by assumption)), if_neg (fun z => by first | exact z.2 (by assumption) | exact z.1 (by assumption)), if_neg (by assumption), eu, cl_nI (by omega), cl_nI (by omega)]) (hR.lay (k := k) hu (by first | exact Or.inl (by assumption) | exact Or.inr (Or.inl (by assumption)) | exact Or.inr (Or.inr (Or.inl (by assumption))) | exact Or.inr (Or.inr (Or.inr (by assumption)))) (by omega) (fun z => absurd z (by assumption))))
                · refine v_iconst h (v := 0) dX9_sheet_83 (q := 84) rfl (by decide) ?_
                  refine v_goto h (t := 88) dX9_sheet_84 (by decide) ?_
                  refine v_callV h (As := [.int b, .int 0]) (rest := []) (c_X7_lay (me := 44 + 2 * u) (b := b) (n := 0) (σ := σ) ((hs.2.2.2.2.2.2.2.2.1 u hu))) cal_X7_lay calV_X7_lay m750 ⟨rfl, rfl, Nat.le_of_ble_eq_true rfl, Nat.le_of_ble_eq_true rfl⟩ rfl (hs.2.2.2.2.2.2.2.2.1 u hu).1.1 (hs.2.2.2.2.2.2.2.2.1 u hu).1.2 ⟨_, _, rfl⟩ rfl (Nat.le_of_ble_eq_true rfl) dX9_sheet_88 (q := 91) rfl (kU ?_)
                  refine v_iconst h (v := 1) dX9_sheet_91 (q := 92) rfl (by decide) ?_
                  exact v_iret h dX9_sheet_92 (pA_of (by unfold oSheet; rw [if_pos ⟨(by rw [eu]; exact inN_of hu (by decide)), (by first | exact Or.inl (by assumption) | exact Or.inr (Or.inl (by assumption)) | exact Or.inr (Or.inr (Or.inl (by assumption))) | exact Or.inr (Or.inr (Or.inr (by assumption))))⟩, if_neg (fun z => z.1 (by assumption)), if_neg (fun z => z.1 (by assumption)), if_pos (by assumption), eu, cl_nI (by omega)]) (hR.lay (k := 0) hu (by first | exact Or.inl (by assumption) | exact Or.inr (Or.inl (by assumption)) | exact Or.inr (Or.inr (Or.inl (by assumption))) | exact Or.inr (Or.inr (Or.inr (by assumption)))) (by omega) (fun _ => rfl)))
              · refine v_aload_n h (i := 0) dX9_sheet_70 (q := 71) rfl rfl 1 rfl ?_
                refine v_iconst h (v := 1) dX9_sheet_71 (q := 72) rfl (by decide) ?_
                refine v_callV h (As := [.int 1]) (rest := []) (c_ref (σ := σ) hs (e := 1) (by decide) rfl) cal_X9_refuse calV_X9_refuse m315 ⟨rfl, rfl, Nat.le_of_ble_eq_true rfl, Nat.le_of_ble_eq_true rfl⟩ rfl hs.1.1 hs.1.2 ⟨_, _, rfl⟩ rfl (Nat.le_of_ble_eq_true rfl) dX9_sheet_72 (q := 75) rfl (kI ?_)
                exact v_iret h dX9_sheet_75 (pA_of (by unfold oSheet; rw [if_pos ⟨(by rw [eu]; exact inN_of hu (by decide)), (by first | exact Or.inl (by assumption) | exact Or.inr (Or.inl (by assumption)) | exact Or.inr (Or.inr (Or.inl (by assumption))) | exact Or.inr (Or.inr (Or.inr (by assumption))))⟩, if_neg (fun z => by first | exact z.2 (by assumption) | exact z.1 (by assumption)), if_pos ⟨by assumption, by assumption⟩]; rfl) (hR.err (by decide)))
          · refine v_iload_n h (i := 3) dX9_sheet_50 (q := 51) rfl rfl 4 rfl ?_
            refine v_if_ge h (t := 60) dX9_sheet_51 (by decide) (q := 54) rfl (fun c51_2 => ?_) (fun c51_2 => ?_)
            · refine v_iload_n h (i := 2) dX9_sheet_60 (q := 61) rfl rfl 3 rfl ?_
              refine v_if_eq h (t := 76) dX9_sheet_61 (by decide) (q := 64) rfl (fun c61_5 => ?_) (fun c61_5 => ?_)
              · refine v_aload h (i := 4) dX9_sheet_76 (q := 78) rfl 0 rfl ?_
                refine v_iload_n h (i := 2) dX9_sheet_78 (q := 79) rfl rfl 3 rfl ?_
                refine v_iload_n h (i := 2) dX9_sheet_79 (q := 80) rfl rfl 3 rfl ?_
                refine v_if_ne h (t := 87) dX9_sheet_80 (by decide) (q := 83) rfl (fun c80_10 => ?_) (fun c80_10 => ?_)
                · obtain ⟨k, hk, rfl⟩ : ∃ k, k ≤ 40 ∧ n = nI k := by first | exact n40 (by assumption) (by assumption) | (exfalso; contradiction)
                  refine v_iload_n h (i := 3) dX9_sheet_87 (q := 88) rfl rfl 4 rfl ?_
                  refine v_callV h (As := [.int b, .int (nI k)]) (rest := []) (c_X7_lay (me := 44 + 2 * u) (b := b) (n := nI k) (σ := σ) ((hs.2.2.2.2.2.2.2.2.1 u hu))) cal_X7_lay calV_X7_lay m750 ⟨rfl, rfl, Nat.le_of_ble_eq_true rfl, Nat.le_of_ble_eq_true rfl⟩ rfl (hs.2.2.2.2.2.2.2.2.1 u hu).1.1 (hs.2.2.2.2.2.2.2.2.1 u hu).1.2 ⟨_, _, rfl⟩ rfl (Nat.le_of_ble_eq_true rfl) dX9_sheet_88 (q := 91) rfl (kU ?_)
                  refine v_iconst h (v := 1) dX9_sheet_91 (q := 92) rfl (by decide) ?_
                  exact v_iret h dX9_sheet_92 (pA_of (by unfold oSheet; rw [if_pos ⟨(by rw [eu]; exact inN_of hu (by decide)), (by first | exact Or.inl (by assumption) | exact Or.inr (Or.inl (by assumption)) | exact Or.inr (Or.inr (Or.inl (by assumption))) | exact Or.inr (Or.inr (Or.inr (by assumption))))⟩, if_neg (fun z => by first | exact z.2 (by assumption) | exact z.1 (by assumption)), if_neg (fun z => by first | exact z.2 (by assumption) | exact z.1 (by assumption)), if_neg (by assumption), eu, cl_nI (by omega), cl_nI (by omega)]) (hR.lay (k := k) hu (by first | exact Or.inl (by assumption) | exact Or.inr (Or.inl (by assumption)) | exact Or.inr (Or.inr (Or.inl (by assumption))) | exact Or.inr (Or.inr (Or.inr (by assumption)))) (by omega) (fun z => absurd z (by assumption))))
                · refine v_iconst h (v := 0) dX9_sheet_83 (q := 84) rfl (by decide) ?_
                  refine v_goto h (t := 88) dX9_sheet_84 (by decide) ?_
                  refine v_callV h (As := [.int b, .int 0]) (rest := []) (c_X7_lay (me := 44 + 2 * u) (b := b) (n := 0) (σ := σ) ((hs.2.2.2.2.2.2.2.2.1 u hu))) cal_X7_lay calV_X7_lay m750 ⟨rfl, rfl, Nat.le_of_ble_eq_true rfl, Nat.le_of_ble_eq_true rfl⟩ rfl (hs.2.2.2.2.2.2.2.2.1 u hu).1.1 (hs.2.2.2.2.2.2.2.2.1 u hu).1.2 ⟨_, _, rfl⟩ rfl (Nat.le_of_ble_eq_true rfl) dX9_sheet_88 (q := 91) rfl (kU ?_)
                  refine v_iconst h (v := 1) dX9_sheet_91 (q := 92) rfl (by decide) ?_
                  exact v_iret h dX9_sheet_92 (pA_of (by unfold oSheet; rw [if_pos ⟨(by rw [eu]; exact inN_of hu (by decide)), (by first | exact Or.inl (by assumption) | exact Or.inr (Or.inl (by assumption)) | exact Or.inr (Or.inr (Or.inl (by assumption))) | exact Or.inr (Or.inr (Or.inr (by assumption))))⟩, if_neg (fun z => z.1 (by assumption)), if_neg (fun z => z.1 (by assumption)), if_pos (by assumption), eu, cl_nI (by omega)]) (hR.lay (k := 0) hu (by first | exact Or.inl (by assumption) | exact Or.inr (Or.inl (by assumption)) | exact Or.inr (Or.inr (Or.inl (by assumption))) | exact Or.inr (Or.inr (Or.inr (by assumption)))) (by omega) (fun _ => rfl)))
              · refine v_iload_n h (i := 3) dX9_sheet_64 (q := 65) rfl rfl 4 rfl ?_
                refine v_bipush h (v := 40) dX9_sheet_65 (q := 67) rfl (by decide) ?_
                refine v_icmp_le h (t := 76) dX9_sheet_67 (by decide) (q := 70) rfl (fun c67_5 => ?_) (fun c67_5 => ?_)
                · refine v_aload h (i := 4) dX9_sheet_76 (q := 78) rfl 0 rfl ?_
                  refine v_iload_n h (i := 2) dX9_sheet_78 (q := 79) rfl rfl 3 rfl ?_
                  refine v_iload_n h (i := 2) dX9_sheet_79 (q := 80) rfl rfl 3 rfl ?_
                  refine v_if_ne h (t := 87) dX9_sheet_80 (by decide) (q := 83) rfl (fun c80_11 => ?_) (fun c80_11 => ?_)
                  · obtain ⟨k, hk, rfl⟩ : ∃ k, k ≤ 40 ∧ n = nI k := by first | exact n40 (by assumption) (by assumption) | (exfalso; contradiction)
                    refine v_iload_n h (i := 3) dX9_sheet_87 (q := 88) rfl rfl 4 rfl ?_
                    refine v_callV h (As := [.int b, .int (nI k)]) (rest := []) (c_X7_lay (me := 44 + 2 * u) (b := b) (n := nI k) (σ := σ) ((hs.2.2.2.2.2.2.2.2.1 u hu))) cal_X7_lay calV_X7_lay m750 ⟨rfl, rfl, Nat.le_of_ble_eq_true rfl, Nat.le_of_ble_eq_true rfl⟩ rfl (hs.2.2.2.2.2.2.2.2.1 u hu).1.1 (hs.2.2.2.2.2.2.2.2.1 u hu).1.2 ⟨_, _, rfl⟩ rfl (Nat.le_of_ble_eq_true rfl) dX9_sheet_88 (q := 91) rfl (kU ?_)
                    refine v_iconst h (v := 1) dX9_sheet_91 (q := 92) rfl (by decide) ?_
                    exact v_iret h dX9_sheet_92 (pA_of (by unfold oSheet; rw [if_pos ⟨(by rw [eu]; exact inN_of hu (by decide)), (by first | exact Or.inl (by assumption) | exact Or.inr (Or.inl (by assumption)) | exact Or.inr (Or.inr (Or.inl (by assumption))) | exact Or.inr (Or.inr (Or.inr (by assumption))))⟩, if_neg (fun z => by first | exact z.2 (by assumption) | exact z.1 (by assumption)), if_neg (fun z => by first | exact z.2 (by assumption) | exact z.1 (by assumption)), if_neg (by assumption), eu, cl_nI (by omega), cl_nI (by omega)]) (hR.lay (k := k) hu (by first | exact Or.inl (by assumption) | exact Or.inr (Or.inl (by assumption)) | exact Or.inr (Or.inr (Or.inl (by assumption))) | exact Or.inr (Or.inr (Or.inr (by assumption)))) (by omega) (fun z => absurd z (by assumption))))
                  · refine v_iconst h (v := 0) dX9_sheet_83 (q := 84) rfl (by decide) ?_
                    refine v_goto h (t := 88) dX9_sheet_84 (by decide) ?_
                    refine v_callV h (As := [.int b, .int 0]) (rest := []) (c_X7_lay (me := 44 + 2 * u) (b := b) (n := 0) (σ := σ) ((hs.2.2.2.2.2.2.2.2.1 u hu))) cal_X7_lay calV_X7_lay m750 ⟨rfl, rfl, Nat.le_of_ble_eq_true rfl, Nat.le_of_ble_eq_true rfl⟩ rfl (hs.2.2.2.2.2.2.2.2.1 u hu).1.1 (hs.2.2.2.2.2.2.2.2.1 u hu).1.2 ⟨_, _, rfl⟩ rfl (Nat.le_of_ble_eq_true rfl) dX9_sheet_88 (q := 91) rfl (kU ?_)
                    refine v_iconst h (v := 1) dX9_sheet_91 (q := 92) rfl (by decide) ?_
                    exact v_iret h dX9_sheet_92 (pA_of (by unfold oSheet; rw [if_pos ⟨(by rw [eu]; exact inN_of hu (by decide)), (by first | exact Or.inl (by assumption) | exact Or.inr (Or.inl (by assumption)) | exact Or.inr (Or.inr (Or.inl (by assumption))) | exact Or.inr (Or.inr (Or.inr (by assumption))))⟩, if_neg (fun z => z.1 (by assumption)), if_neg (fun z => z.1 (by assumption)), if_pos (by assumption), eu, cl_nI (by omega)]) (hR.lay (k := 0) hu (by first | exact Or.inl (by assumption) | exact Or.inr (Or.inl (by assumption)) | exact Or.inr (Or.inr (Or.inl (by assumption))) | exact Or.inr (Or.inr (Or.inr (by assumption)))) (by omega) (fun _ => rfl)))
                · refine v_aload_n h (i := 0) dX9_sheet_70 (q := 71) rfl rfl 1 rfl ?_
                  refine v_iconst h (v := 1) dX9_sheet_71 (q := 72) rfl (by decide) ?_
                  refine v_callV h (As := [.int 1]) (rest := []) (c_ref (σ := σ) hs (e := 1) (by decide) rfl) cal_X9_refuse calV_X9_refuse m315 ⟨rfl, rfl, Nat.le_of_ble_eq_true rfl, Nat.le_of_ble_eq_true rfl⟩ rfl hs.1.1 hs.1.2 ⟨_, _, rfl⟩ rfl (Nat.le_of_ble_eq_true rfl) dX9_sheet_72 (q := 75) rfl (kI ?_)
                  exact v_iret h dX9_sheet_75 (pA_of (by unfold oSheet; rw [if_pos ⟨(by rw [eu]; exact inN_of hu (by decide)), (by first | exact Or.inl (by assumption) | exact Or.inr (Or.inl (by assumption)) | exact Or.inr (Or.inr (Or.inl (by assumption))) | exact Or.inr (Or.inr (Or.inr (by assumption))))⟩, if_neg (fun z => by first | exact z.2 (by assumption) | exact z.1 (by assumption)), if_pos ⟨by assumption, by assumption⟩]; rfl) (hR.err (by decide)))
            · refine v_aload_n h (i := 0) dX9_sheet_54 (q := 55) rfl rfl 1 rfl ?_
              refine v_iconst h (v := 3) dX9_sheet_55 (q := 56) rfl (by decide) ?_
              refine v_callV h (As := [.int 3]) (rest := []) (c_ref (σ := σ) hs (e := 3) (by decide) rfl) cal_X9_refuse calV_X9_refuse m315 ⟨rfl, rfl, Nat.le_of_ble_eq_true rfl, Nat.le_of_ble_eq_true rfl⟩ rfl hs.1.1 hs.1.2 ⟨_, _, rfl⟩ rfl (Nat.le_of_ble_eq_true rfl) dX9_sheet_56 (q := 59) rfl (kI ?_)
              exact v_iret h dX9_sheet_59 (pA_of (by unfold oSheet; rw [if_pos ⟨(by rw [eu]; exact inN_of hu (by decide)), (by first | exact Or.inl (by assumption) | exact Or.inr (Or.inl (by assumption)) | exact Or.inr (Or.inr (Or.inl (by assumption))) | exact Or.inr (Or.inr (Or.inr (by assumption))))⟩, if_pos ⟨by assumption, by assumption⟩]; rfl) (hR.err (by decide)))
        · refine v_iload_n h (i := 2) dX9_sheet_34 (q := 35) rfl rfl 3 rfl ?_
          refine v_bipush h (v := 32) dX9_sheet_35 (q := 37) rfl (by decide) ?_
          refine v_icmp_eq h (t := 46) dX9_sheet_37 (by decide) (q := 40) rfl (fun c37 => ?_) (fun c37 => ?_)
          · refine v_iload_n h (i := 2) dX9_sheet_46 (q := 47) rfl rfl 3 rfl ?_
            refine v_if_eq h (t := 60) dX9_sheet_47 (by decide) (q := 50) rfl (fun c47_3 => ?_) (fun c47_3 => ?_)
            · refine v_iload_n h (i := 2) dX9_sheet_60 (q := 61) rfl rfl 3 rfl ?_
              refine v_if_eq h (t := 76) dX9_sheet_61 (by decide) (q := 64) rfl (fun c61_6 => ?_) (fun c61_6 => ?_)
              · refine v_aload h (i := 4) dX9_sheet_76 (q := 78) rfl 0 rfl ?_
                refine v_iload_n h (i := 2) dX9_sheet_78 (q := 79) rfl rfl 3 rfl ?_
                refine v_iload_n h (i := 2) dX9_sheet_79 (q := 80) rfl rfl 3 rfl ?_
                refine v_if_ne h (t := 87) dX9_sheet_80 (by decide) (q := 83) rfl (fun c80_12 => ?_) (fun c80_12 => ?_)
                · obtain ⟨k, hk, rfl⟩ : ∃ k, k ≤ 40 ∧ n = nI k := by first | exact n40 (by assumption) (by assumption) | (exfalso; contradiction)
                  refine v_iload_n h (i := 3) dX9_sheet_87 (q := 88) rfl rfl 4 rfl ?_
                  refine v_callV h (As := [.int b, .int (nI k)]) (rest := []) (c_X7_lay (me := 44 + 2 * u) (b := b) (n := nI k) (σ := σ) ((hs.2.2.2.2.2.2.2.2.1 u hu))) cal_X7_lay calV_X7_lay m750 ⟨rfl, rfl, Nat.le_of_ble_eq_true rfl, Nat.le_of_ble_eq_true rfl⟩ rfl (hs.2.2.2.2.2.2.2.2.1 u hu).1.1 (hs.2.2.2.2.2.2.2.2.1 u hu).1.2 ⟨_, _, rfl⟩ rfl (Nat.le_of_ble_eq_true rfl) dX9_sheet_88 (q := 91) rfl (kU ?_)
                  refine v_iconst h (v := 1) dX9_sheet_91 (q := 92) rfl (by decide) ?_
                  exact v_iret h dX9_sheet_92 (pA_of (by unfold oSheet; rw [if_pos ⟨(by rw [eu]; exact inN_of hu (by decide)), (by first | exact Or.inl (by assumption) | exact Or.inr (Or.inl (by assumption)) | exact Or.inr (Or.inr (Or.inl (by assumption))) | exact Or.inr (Or.inr (Or.inr (by assumption))))⟩, if_neg (fun z => by first | exact z.2 (by assumption) | exact z.1 (by assumption)), if_neg (fun z => by first | exact z.2 (by assumption) | exact z.1 (by assumption)), if_neg (by assumption), eu, cl_nI (by omega), cl_nI (by omega)]) (hR.lay (k := k) hu (by first | exact Or.inl (by assumption) | exact Or.inr (Or.inl (by assumption)) | exact Or.inr (Or.inr (Or.inl (by assumption))) | exact Or.inr (Or.inr (Or.inr (by assumption)))) (by omega) (fun z => absurd z (by assumption))))
                · refine v_iconst h (v := 0) dX9_sheet_83 (q := 84) rfl (by decide) ?_
                  refine v_goto h (t := 88) dX9_sheet_84 (by decide) ?_
                  refine v_callV h (As := [.int b, .int 0]) (rest := []) (c_X7_lay (me := 44 + 2 * u) (b := b) (n := 0) (σ := σ) ((hs.2.2.2.2.2.2.2.2.1 u hu))) cal_X7_lay calV_X7_lay m750 ⟨rfl, rfl, Nat.le_of_ble_eq_true rfl, Nat.le_of_ble_eq_true rfl⟩ rfl (hs.2.2.2.2.2.2.2.2.1 u hu).1.1 (hs.2.2.2.2.2.2.2.2.1 u hu).1.2 ⟨_, _, rfl⟩ rfl (Nat.le_of_ble_eq_true rfl) dX9_sheet_88 (q := 91) rfl (kU ?_)
                  refine v_iconst h (v := 1) dX9_sheet_91 (q := 92) rfl (by decide) ?_
                  exact v_iret h dX9_sheet_92 (pA_of (by unfold oSheet; rw [if_pos ⟨(by rw [eu]; exact inN_of hu (by decide)), (by first | exact Or.inl (by assumption) | exact Or.inr (Or.inl (by assumption)) | exact Or.inr (Or.inr (Or.inl (by assumption))) | exact Or.inr (Or.inr (Or.inr (by assumption))))⟩, if_neg (fun z => z.1 (by assumption)), if_neg (fun z => z.1 (by assumption)), if_pos (by assumption), eu, cl_nI (by omega)]) (hR.lay (k := 0) hu (by first | exact Or.inl (by assumption) | exact Or.inr (Or.inl (by assumption)) | exact Or.inr (Or.inr (Or.inl (by assumption))) | exact Or.inr (Or.inr (Or.inr (by assumption)))) (by omega) (fun _ => rfl)))
              · refine v_iload_n h (i := 3) dX9_sheet_64 (q := 65) rfl rfl 4 rfl ?_
                refine v_bipush h (v := 40) dX9_sheet_65 (q := 67) rfl (by decide) ?_
                refine v_icmp_le h (t := 76) dX9_sheet_67 (by decide) (q := 70) rfl (fun c67_6 => ?_) (fun c67_6 => ?_)
                · refine v_aload h (i := 4) dX9_sheet_76 (q := 78) rfl 0 rfl ?_
                  refine v_iload_n h (i := 2) dX9_sheet_78 (q := 79) rfl rfl 3 rfl ?_
                  refine v_iload_n h (i := 2) dX9_sheet_79 (q := 80) rfl rfl 3 rfl ?_
                  refine v_if_ne h (t := 87) dX9_sheet_80 (by decide) (q := 83) rfl (fun c80_13 => ?_) (fun c80_13 => ?_)
                  · obtain ⟨k, hk, rfl⟩ : ∃ k, k ≤ 40 ∧ n = nI k := by first | exact n40 (by assumption) (by assumption) | (exfalso; contradiction)
                    refine v_iload_n h (i := 3) dX9_sheet_87 (q := 88) rfl rfl 4 rfl ?_
                    refine v_callV h (As := [.int b, .int (nI k)]) (rest := []) (c_X7_lay (me := 44 + 2 * u) (b := b) (n := nI k) (σ := σ) ((hs.2.2.2.2.2.2.2.2.1 u hu))) cal_X7_lay calV_X7_lay m750 ⟨rfl, rfl, Nat.le_of_ble_eq_true rfl, Nat.le_of_ble_eq_true rfl⟩ rfl (hs.2.2.2.2.2.2.2.2.1 u hu).1.1 (hs.2.2.2.2.2.2.2.2.1 u hu).1.2 ⟨_, _, rfl⟩ rfl (Nat.le_of_ble_eq_true rfl) dX9_sheet_88 (q := 91) rfl (kU ?_)
                    refine v_iconst h (v := 1) dX9_sheet_91 (q := 92) rfl (by decide) ?_
                    exact v_iret h dX9_sheet_92 (pA_of (by unfold oSheet; rw [if_pos ⟨(by rw [eu]; exact inN_of hu (by decide)), (by first | exact Or.inl (by assumption) | exact Or.inr (Or.inl (by assumption)) | exact Or.inr (Or.inr (Or.inl (by assumption))) | exact Or.inr (Or.inr (Or.inr (by assumption))))⟩, if_neg (fun z => by first | exact z.2 (by assumption) | exact z.1 (by assumption)), if_neg (fun z => by first | exact z.2 (by assumption) | exact z.1 (by assumption)), if_neg (by assumption), eu, cl_nI (by omega), cl_nI (by omega)]) (hR.lay (k := k) hu (by first | exact Or.inl (by assumption) | exact Or.inr (Or.inl (by assumption)) | exact Or.inr (Or.inr (Or.inl (by assumption))) | exact Or.inr (Or.inr (Or.inr (by assumption)))) (by omega) (fun z => absurd z (by assumption))))
                  · refine v_iconst h (v := 0) dX9_sheet_83 (q := 84) rfl (by decide) ?_
                    refine v_goto h (t := 88) dX9_sheet_84 (by decide) ?_
                    refine v_callV h (As := [.int b, .int 0]) (rest := []) (c_X7_lay (me := 44 + 2 * u) (b := b) (n := 0) (σ := σ) ((hs.2.2.2.2.2.2.2.2.1 u hu))) cal_X7_lay calV_X7_lay m750 ⟨rfl, rfl, Nat.le_of_ble_eq_true rfl, Nat.le_of_ble_eq_true rfl⟩ rfl (hs.2.2.2.2.2.2.2.2.1 u hu).1.1 (hs.2.2.2.2.2.2.2.2.1 u hu).1.2 ⟨_, _, rfl⟩ rfl (Nat.le_of_ble_eq_true rfl) dX9_sheet_88 (q := 91) rfl (kU ?_)
                    refine v_iconst h (v := 1) dX9_sheet_91 (q := 92) rfl (by decide) ?_
                    exact v_iret h dX9_sheet_92 (pA_of (by unfold oSheet; rw [if_pos ⟨(by rw [eu]; exact inN_of hu (by decide)), (by first | exact Or.inl (by assumption) | exact Or.inr (Or.inl (by assumption)) | exact Or.inr (Or.inr (Or.inl (by assumption))) | exact Or.inr (Or.inr (Or.inr (by assumption))))⟩, if_neg (fun z => z.1 (by assumption)), if_neg (fun z => z.1 (by assumption)), if_pos (by assumption), eu, cl_nI (by omega)]) (hR.lay (k := 0) hu (by first | exact Or.inl (by assumption) | exact Or.inr (Or.inl (by assumption)) | exact Or.inr (Or.inr (Or.inl (by assumption))) | exact Or.inr (Or.inr (Or.inr (by assumption)))) (by omega) (fun _ => rfl)))
                · refine v_aload_n h (i := 0) dX9_sheet_70 (q := 71) rfl rfl 1 rfl ?_
                  refine v_iconst h (v := 1) dX9_sheet_71 (q := 72) rfl (by decide) ?_
                  refine v_callV h (As := [.int 1]) (rest := []) (c_ref (σ := σ) hs (e := 1) (by decide) rfl) cal_X9_refuse calV_X9_refuse m315 ⟨rfl, rfl, Nat.le_of_ble_eq_true rfl, Nat.le_of_ble_eq_true rfl⟩ rfl hs.1.1 hs.1.2 ⟨_, _, rfl⟩ rfl (Nat.le_of_ble_eq_true rfl) dX9_sheet_72 (q := 75) rfl (kI ?_)
                  exact v_iret h dX9_sheet_75 (pA_of (by unfold oSheet; rw [if_pos ⟨(by rw [eu]; exact inN_of hu (by decide)), (by first | exact Or.inl (by assumption) | exact Or.inr (Or.inl (by assumption)) | exact Or.inr (Or.inr (Or.inl (by assumption))) | exact Or.inr (Or.inr (Or.inr (by assumption))))⟩, if_neg (fun z => by first | exact z.2 (by assumption) | exact z.1 (by assumption)), if_pos ⟨by assumption, by assumption⟩]; rfl) (hR.err (by decide)))
            · refine v_iload_n h (i := 3) dX9_sheet_50 (q := 51) rfl rfl 4 rfl ?_
              refine v_if_ge h (t := 60) dX9_sheet_51 (by decide) (q := 54) rfl (fun c51_3 => ?_) (fun c51_3 => ?_)
              · refine v_iload_n h (i := 2) dX9_sheet_60 (q := 61) rfl rfl 3 rfl ?_
                refine v_if_eq h (t := 76) dX9_sheet_61 (by decide) (q := 64) rfl (fun c61_7 => ?_) (fun c61_7 => ?_)
                · refine v_aload h (i := 4) dX9_sheet_76 (q := 78) rfl 0 rfl ?_
                  refine v_iload_n h (i := 2) dX9_sheet_78 (q := 79) rfl rfl 3 rfl ?_
                  refine v_iload_n h (i := 2) dX9_sheet_79 (q := 80) rfl rfl 3 rfl ?_
                  refine v_if_ne h (t := 87) dX9_sheet_80 (by decide) (q := 83) rfl (fun c80_14 => ?_) (fun c80_14 => ?_)
                  · obtain ⟨k, hk, rfl⟩ : ∃ k, k ≤ 40 ∧ n = nI k := by first | exact n40 (by assumption) (by assumption) | (exfalso; contradiction)
                    refine v_iload_n h (i := 3) dX9_sheet_87 (q := 88) rfl rfl 4 rfl ?_
                    refine v_callV h (As := [.int b, .int (nI k)]) (rest := []) (c_X7_lay (me := 44 + 2 * u) (b := b) (n := nI k) (σ := σ) ((hs.2.2.2.2.2.2.2.2.1 u hu))) cal_X7_lay calV_X7_lay m750 ⟨rfl, rfl, Nat.le_of_ble_eq_true rfl, Nat.le_of_ble_eq_true rfl⟩ rfl (hs.2.2.2.2.2.2.2.2.1 u hu).1.1 (hs.2.2.2.2.2.2.2.2.1 u hu).1.2 ⟨_, _, rfl⟩ rfl (Nat.le_of_ble_eq_true rfl) dX9_sheet_88 (q := 91) rfl (kU ?_)
                    refine v_iconst h (v := 1) dX9_sheet_91 (q := 92) rfl (by decide) ?_
                    exact v_iret h dX9_sheet_92 (pA_of (by unfold oSheet; rw [if_pos ⟨(by rw [eu]; exact inN_of hu (by decide)), (by first | exact Or.inl (by assumption) | exact Or.inr (Or.inl (by assumption)) | exact Or.inr (Or.inr (Or.inl (by assumption))) | exact Or.inr (Or.inr (Or.inr (by assumption))))⟩, if_neg (fun z => by first | exact z.2 (by assumption) | exact z.1 (by assumption)), if_neg (fun z => by first | exact z.2 (by assumption) | exact z.1 (by assumption)), if_neg (by assumption), eu, cl_nI (by omega), cl_nI (by omega)]) (hR.lay (k := k) hu (by first | exact Or.inl (by assumption) | exact Or.inr (Or.inl (by assumption)) | exact Or.inr (Or.inr (Or.inl (by assumption))) | exact Or.inr (Or.inr (Or.inr (by assumption)))) (by omega) (fun z => absurd z (by assumption))))
                  · refine v_iconst h (v := 0) dX9_sheet_83 (q := 84) rfl (by decide) ?_
                    refine v_goto h (t := 88) dX9_sheet_84 (by decide) ?_
                    refine v_callV h (As := [.int b, .int 0]) (rest := []) (c_X7_lay (me := 44 + 2 * u) (b := b) (n := 0) (σ := σ) ((hs.2.2.2.2.2.2.2.2.1 u hu))) cal_X7_lay calV_X7_lay m750 ⟨rfl, rfl, Nat.le_of_ble_eq_true rfl, Nat.le_of_ble_eq_true rfl⟩ rfl (hs.2.2.2.2.2.2.2.2.1 u hu).1.1 (hs.2.2.2.2.2.2.2.2.1 u hu).1.2 ⟨_, _, rfl⟩ rfl (Nat.le_of_ble_eq_true rfl) dX9_sheet_88 (q := 91) rfl (kU ?_)
                    refine v_iconst h (v := 1) dX9_sheet_91 (q := 92) rfl (by decide) ?_
                    exact v_iret h dX9_sheet_92 (pA_of (by unfold oSheet; rw [if_pos ⟨(by rw [eu]; exact inN_of hu (by decide)), (by first | exact Or.inl (by assumption) | exact Or.inr (Or.inl (by assumption)) | exact Or.inr (Or.inr (Or.inl (by assumption))) | exact Or.inr (Or.inr (Or.inr (by assumption))))⟩, if_neg (fun z => z.1 (by assumption)), if_neg (fun z => z.1 (by assumption)), if_pos (by assumption), eu, cl_nI (by omega)]) (hR.lay (k := 0) hu (by first | exact Or.inl (by assumption) | exact Or.inr (Or.inl (by assumption)) | exact Or.inr (Or.inr (Or.inl (by assumption))) | exact Or.inr (Or.inr (Or.inr (by assumption)))) (by omega) (fun _ => rfl)))
                · refine v_iload_n h (i := 3) dX9_sheet_64 (q := 65) rfl rfl 4 rfl ?_
                  refine v_bipush h (v := 40) dX9_sheet_65 (q := 67) rfl (by decide) ?_
                  refine v_icmp_le h (t := 76) dX9_sheet_67 (by decide) (q := 70) rfl (fun c67_7 => ?_) (fun c67_7 => ?_)
                  · refine v_aload h (i := 4) dX9_sheet_76 (q := 78) rfl 0 rfl ?_
                    refine v_iload_n h (i := 2) dX9_sheet_78 (q := 79) rfl rfl 3 rfl ?_
                    refine v_iload_n h (i := 2) dX9_sheet_79 (q := 80) rfl rfl 3 rfl ?_
                    refine v_if_ne h (t := 87) dX9_sheet_80 (by decide) (q := 83) rfl (fun c80_15 => ?_) (fun c80_15 => ?_)
                    · obtain ⟨k, hk, rfl⟩ : ∃ k, k ≤ 40 ∧ n = nI k := by first | exact n40 (by assumption) (by assumption) | (exfalso; contradiction)
                      refine v_iload_n h (i := 3) dX9_sheet_87 (q := 88) rfl rfl 4 rfl ?_
                      refine v_callV h (As := [.int b, .int (nI k)]) (rest := []) (c_X7_lay (me := 44 + 2 * u) (b := b) (n := nI k) (σ := σ) ((hs.2.2.2.2.2.2.2.2.1 u hu))) cal_X7_lay calV_X7_lay m750 ⟨rfl, rfl, Nat.le_of_ble_eq_true rfl, Nat.le_of_ble_eq_true rfl⟩ rfl (hs.2.2.2.2.2.2.2.2.1 u hu).1.1 (hs.2.2.2.2.2.2.2.2.1 u hu).1.2 ⟨_, _, rfl⟩ rfl (Nat.le_of_ble_eq_true rfl) dX9_sheet_88 (q := 91) rfl (kU ?_)
                      refine v_iconst h (v := 1) dX9_sheet_91 (q := 92) rfl (by decide) ?_
                      exact v_iret h dX9_sheet_92 (pA_of (by unfold oSheet; rw [if_pos ⟨(by rw [eu]; exact inN_of hu (by decide)), (by first | exact Or.inl (by assumption) | exact Or.inr (Or.inl (by assumption)) | exact Or.inr (Or.inr (Or.inl (by assumption))) | exact Or.inr (Or.inr (Or.inr (by assumption))))⟩, if_neg (fun z => by first | exact z.2 (by assumption) | exact z.1 (by assumption)), if_neg (fun z => by first | exact z.2 (by assumption) | exact z.1 (by assumption)), if_neg (by assumption), eu, cl_nI (by omega), cl_nI (by omega)]) (hR.lay (k := k) hu (by first | exact Or.inl (by assumption) | exact Or.inr (Or.inl (by assumption)) | exact Or.inr (Or.inr (Or.inl (by assumption))) | exact Or.inr (Or.inr (Or.inr (by assumption)))) (by omega) (fun z => absurd z (by assumption))))
                    · refine v_iconst h (v := 0) dX9_sheet_83 (q := 84) rfl (by decide) ?_
                      refine v_goto h (t := 88) dX9_sheet_84 (by decide) ?_
                      refine v_callV h (As := [.int b, .int 0]) (rest := []) (c_X7_lay (me := 44 + 2 * u) (b := b) (n := 0) (σ := σ) ((hs.2.2.2.2.2.2.2.2.1 u hu))) cal_X7_lay calV_X7_lay m750 ⟨rfl, rfl, Nat.le_of_ble_eq_true rfl, Nat.le_of_ble_eq_true rfl⟩ rfl (hs.2.2.2.2.2.2.2.2.1 u hu).1.1 (hs.2.2.2.2.2.2.2.2.1 u hu).1.2 ⟨_, _, rfl⟩ rfl (Nat.le_of_ble_eq_true rfl) dX9_sheet_88 (q := 91) rfl (kU ?_)
                      refine v_iconst h (v := 1) dX9_sheet_91 (q := 92) rfl (by decide) ?_
                      exact v_iret h dX9_sheet_92 (pA_of (by unfold oSheet; rw [if_pos ⟨(by rw [eu]; exact inN_of hu (by decide)), (by first | exact Or.inl (by assumption) | exact Or.inr (Or.inl (by assumption)) | exact Or.inr (Or.inr (Or.inl (by assumption))) | exact Or.inr (Or.inr (Or.inr (by assumption))))⟩, if_neg (fun z => z.1 (by assumption)), if_neg (fun z => z.1 (by assumption)), if_pos (by assumption), eu, cl_nI (by omega)]) (hR.lay (k := 0) hu (by first | exact Or.inl (by assumption) | exact Or.inr (Or.inl (by assumption)) | exact Or.inr (Or.inr (Or.inl (by assumption))) | exact Or.inr (Or.inr (Or.inr (by assumption)))) (by omega) (fun _ => rfl)))
                  · refine v_aload_n h (i := 0) dX9_sheet_70 (q := 71) rfl rfl 1 rfl ?_
                    refine v_iconst h (v := 1) dX9_sheet_71 (q := 72) rfl (by decide) ?_
                    refine v_callV h (As := [.int 1]) (rest := []) (c_ref (σ := σ) hs (e := 1) (by decide) rfl) cal_X9_refuse calV_X9_refuse m315 ⟨rfl, rfl, Nat.le_of_ble_eq_true rfl, Nat.le_of_ble_eq_true rfl⟩ rfl hs.1.1 hs.1.2 ⟨_, _, rfl⟩ rfl (Nat.le_of_ble_eq_true rfl) dX9_sheet_72 (q := 75) rfl (kI ?_)
                    exact v_iret h dX9_sheet_75 (pA_of (by unfold oSheet; rw [if_pos ⟨(by rw [eu]; exact inN_of hu (by decide)), (by first | exact Or.inl (by assumption) | exact Or.inr (Or.inl (by assumption)) | exact Or.inr (Or.inr (Or.inl (by assumption))) | exact Or.inr (Or.inr (Or.inr (by assumption))))⟩, if_neg (fun z => by first | exact z.2 (by assumption) | exact z.1 (by assumption)), if_pos ⟨by assumption, by assumption⟩]; rfl) (hR.err (by decide)))
              · refine v_aload_n h (i := 0) dX9_sheet_54 (q := 55) rfl rfl 1 rfl ?_
                refine v_iconst h (v := 3) dX9_sheet_55 (q := 56) rfl (by decide) ?_
                refine v_callV h (As := [.int 3]) (rest := []) (c_ref (σ := σ) hs (e := 3) (by decide) rfl) cal_X9_refuse calV_X9_refuse m315 ⟨rfl, rfl, Nat.le_of_ble_eq_true rfl, Nat.le_of_ble_eq_true rfl⟩ rfl hs.1.1 hs.1.2 ⟨_, _, rfl⟩ rfl (Nat.le_of_ble_eq_true rfl) dX9_sheet_56 (q := 59) rfl (kI ?_)
                exact v_iret h dX9_sheet_59 (pA_of (by unfold oSheet; rw [if_pos ⟨(by rw [eu]; exact inN_of hu (by decide)), (by first | exact Or.inl (by assumption) | exact Or.inr (Or.inl (by assumption)) | exact Or.inr (Or.inr (Or.inl (by assumption))) | exact Or.inr (Or.inr (Or.inr (by assumption))))⟩, if_pos ⟨by assumption, by assumption⟩]; rfl) (hR.err (by decide)))
          · refine v_aload_n h (i := 0) dX9_sheet_40 (q := 41) rfl rfl 1 rfl ?_
            refine v_iconst h (v := 1) dX9_sheet_41 (q := 42) rfl (by decide) ?_
            refine v_callV h (As := [.int 1]) (rest := []) (c_ref (σ := σ) hs (e := 1) (by decide) rfl) cal_X9_refuse calV_X9_refuse m315 ⟨rfl, rfl, Nat.le_of_ble_eq_true rfl, Nat.le_of_ble_eq_true rfl⟩ rfl hs.1.1 hs.1.2 ⟨_, _, rfl⟩ rfl (Nat.le_of_ble_eq_true rfl) dX9_sheet_42 (q := 45) rfl (kI ?_)
            exact v_iret h dX9_sheet_45 (pA_of (by unfold oSheet; rw [if_neg (fun z => by first | exact (by rcases z.2 with e | e | e | e <;> contradiction))]; rfl) (hR.err (by decide)))
  · refine v_astoreN h (i := 4) (ls1 := [(4, .null), (0, .ref (b_ad w 0)), (1, .int s), (2, .int b), (3, .int n)]) dX9_sheet_5 (q := 7) rfl (Nat.le_of_ble_eq_true rfl) rfl ?_
    refine v_aloadN h (i := 4) dX9_sheet_7 (q := 9) rfl 0 rfl ?_
    refine v_ifnonnullN h dX9_sheet_9 (q := 12) rfl ?_
    refine v_aload_n h (i := 0) dX9_sheet_12 (q := 13) rfl rfl 1 rfl ?_
    refine v_iconst h (v := 1) dX9_sheet_13 (q := 14) rfl (by decide) ?_
    refine v_callV h (As := [.int 1]) (rest := []) (c_ref (σ := σ) hs (e := 1) (by decide) rfl) cal_X9_refuse calV_X9_refuse m315 ⟨rfl, rfl, Nat.le_of_ble_eq_true rfl, Nat.le_of_ble_eq_true rfl⟩ rfl hs.1.1 hs.1.2 ⟨_, _, rfl⟩ rfl (Nat.le_of_ble_eq_true rfl) dX9_sheet_14 (q := 17) rfl (kI ?_)
    exact v_iret h dX9_sheet_17 (pA_of (by unfold oSheet; rw [if_neg (fun z => by first | exact c2 z.1)]; rfl) (hR.err (by decide)))
