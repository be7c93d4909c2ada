def fdR (row : Nat → Int32) (f : Nat) (word : Int64) : Nat → Nat → Int32
  | 0 => row
  | k + 1 => upd (upd (fdR row f word k) (66 + f + k) (tkF word k)) 9 (nI (f + k + 1))
theorem fd_o {row : Nat → Int32} {f : Nat} {word : Int64} {j : Nat} (h9 : j ≠ 9) : ∀ k, f + k ≤ 50 → (j < 66 ∨ 116 ≤ j) → fdR row f word k j = row j
  | 0, _, _ => rfl
  | k + 1, hk, hj => by
    rw [fdR, upd_n h9, upd_n (by omega), fd_o h9 k (by omega) hj]
theorem fd_9 {row : Nat → Int32} {f : Nat} {word : Int64} (h : row 9 = nI f) : ∀ k, fdR row f word k 9 = nI (f + k)
  | 0 => h
  | k + 1 => by
    rw [fdR, upd_s]
    rfl
theorem fd_t {row tape : Nat → Int32} {f : Nat} {word : Int64} (h : ∀ j, j < 50 → row (66 + j) = tape j) : ∀ k, f + k ≤ 50 → ∀ j, j < 50 → fdR row f word k (66 + j) = tpF tape f word k j
  | 0, _, j, hj => h j hj
  | k + 1, hk, j, hj => by
    rw [fdR, upd_n (by omega)]
    show _ = upd (tpF tape f word k) (f + k) (tkF word k) j
    unfold upd
    by_cases e : j = f + k
    · rw [if_pos e, if_pos (by omega)]
    · rw [if_neg e, if_neg (by omega)]
      exact fd_t h k (by omega) j hj
theorem co_stop {N : bN} {i : Nat} (h : ¬ i < liN N) : ∀ k, coN N (i + k) = coN N i
  | 0 => rfl
  | k + 1 => by
    show coN N ((i + k) + 1) = _
    rw [coN, if_neg (by omega), co_stop h k]

set_option maxHeartbeats 4000000 in
set_option maxRecDepth 100000 in
theorem lX10_check_49 {w : bw} {σ : bSt} {A : bA} {l : Int32} (hm : sModel w) (hR : RQ σ A) {x : bX} (h : Cx x w cX10_check RX10 5 (some .int) (rmm 8 194)) : RQ (b_up σ 1 10 0) (setWt A (0, A.1.2.2.2.2)) → ∀ d : Nat, d < 6 → inN l (liN A.1.1) → l = nI d → ∀ m k : Nat, k + m = A.1.2.2.2.1 → ∀ τ : bSt, fM (b_set (b_up σ 1 10 0) 3 (b_up σ 1 10 0 1)) τ → MW τ (goN (gvT A.1.2.1) false A.1.1 k) A.1.2.1 → ckN (gvT A.1.2.1) A.1.1 A.1.2.2.2.2 d m k = ckN (gvT A.1.2.1) A.1.1 A.1.2.2.2.2 d A.1.2.2.2.1 0 → V x w 5 (pM (oCheck l A)) 49 [(4, .int (nI k)), (3, .int 0), (0, .ref (b_ad w 0)), (1, .int (nI d)), (2, .int (nI A.1.2.2.2.1))] [] τ := by
  intro hR1 d hl6 hcond eld
  have hw := hR.wt
  have hbt := hR.1.2.1.bt
  refine b_ind (fun m ih => ?_)
  intro k hkm τ hf hWt hck
  refine v_iload h (i := 4) dX10_check_49 (q := 51) rfl 0 rfl ?_
  refine v_iload_n h (i := 2) dX10_check_51 (q := 52) rfl rfl 4 rfl ?_
  refine v_icmp_ge h (t := 99) dX10_check_52 (by decide) (q := 55) rfl (fun c52 => ?_) (fun c52 => ?_)
  · refine v_aload_n h (i := 0) dX10_check_99 (q := 100) rfl rfl 2 rfl ?_
    refine v_iload_n h (i := 3) dX10_check_100 (q := 101) rfl rfl 1 rfl ?_
    refine v_callV h (As := [.int 0]) (rest := []) (c_X10_putBack (σ := τ) (v := 0) hm) cal_X10_putBack calV_X10_putBack m1205 ⟨rfl, rfl, Nat.le_of_ble_eq_true rfl, Nat.le_of_ble_eq_true rfl⟩ rfl hm.1.1 hm.1.2 ⟨_, _, rfl⟩ rfl (Nat.le_of_ble_eq_true rfl) dX10_check_101 (q := 104) rfl (kI ?_)
    exact v_iret h dX10_check_104 (pM_of (by subst eld; unfold oCheck; rw [if_pos hcond, cl_nI (n := d) (by omega), ← hck, show m = 0 by have := nge (k := A.1.2.2.2.1) (nI_toInt (by omega)) (by omega) c52; omega]; rfl) (hR1.back hf hWt))
  · refine v_iload_n h (i := 3) dX10_check_55 (q := 56) rfl rfl 1 rfl ?_
    refine v_if_ne h (t := 99) dX10_check_56 (by decide) (q := 59) rfl (fun c => absurd (by decide) c) (fun _ => ?_)
    have hkn : k < A.1.2.2.2.1 := nlt (nI_toInt (by omega)) (by omega) c52
    have hgo := IvN_go (lo := false) (gvT_B A.1.2.1) hR.1.2.1.1 hbt.1 k (by omega)
    refine v_aload_n h (i := 0) dX10_check_59 (q := 60) rfl rfl 2 rfl ?_
    refine v_iconst h (v := 1) dX10_check_60 (q := 61) rfl (by decide) ?_
    refine v_iconst h (v := 0) dX10_check_61 (q := 62) rfl (by decide) ?_
    refine v_callV h (As := [.int 1, .int 0]) (rest := []) (c_X10_beatsGo (σ := τ) (n := 1) (lv := 0) (N := goN (gvT A.1.2.1) false A.1.1 k) (T := A.1.2.1) hm hWt (by rw [hgo.2, nI_clamp (by omega)]; omega)) cal_X10_beatsGo calV_X10_beatsGo m1166 ⟨rfl, rfl, Nat.le_of_ble_eq_true rfl, Nat.le_of_ble_eq_true rfl⟩ rfl hm.1.1 hm.1.2 ⟨_, _, rfl⟩ rfl (Nat.le_of_ble_eq_true rfl) dX10_check_62 (q := 65) rfl (kV (fun σ62 h62 => ?_))
    have hW2 : MW σ62 (goN (gvT A.1.2.1) false A.1.1 (k + 1)) A.1.2.1 := by
      have hq := h62.2
      rw [show decide (¬ (0 : Int32) = 0) = false by decide] at hq
      exact hq
    have ev1 : σ62 1 (116 + k) = A.1.2.2.2.2 k := by
      rw [h62.1.2 _ (by omega), hf.2 _ (by omega), b_set_n (by decide), b_up_s, upd_n (by omega)]
      exact hR.wt.2.2 k (by omega)
    have ev2 : σ62 1 (49 + 3 * d) = goN (gvT A.1.2.1) false A.1.1 (k + 1) (49 + 3 * d) := hW2.n (by omega)
    refine v_aload_n h (i := 0) dX10_check_65 (q := 66) rfl rfl 2 rfl ?_
    refine v_get h (k := 0) (v := .ref (b_ad w 1)) cls10 hm.1.1 hm.1.2 (Nat.le_of_ble_eq_true rfl) m849 rfl dX10_check_66 (q := 69) rfl ?_
    refine v_bipush h (v := 116) dX10_check_69 (q := 71) rfl (by decide) ?_
    refine v_iload h (i := 4) dX10_check_71 (q := 73) rfl 0 rfl ?_
    refine v_iadd h dX10_check_73 (q := 74) rfl ?_
    rw [show (116 + (nI k) : Int32) = nI (116 + k) from (nI_add 116 k)]
    refine v_iald h (k := (116 + k)) hm.2.1.1 hm.2.1.2 (vp_in_nI (by omega) (by decide)) (nI_clamp (by omega)) dX10_check_74 (q := 75) rfl ?_
    refine v_aload_n h (i := 0) dX10_check_75 (q := 76) rfl rfl 2 rfl ?_
    refine v_iload_n h (i := 1) dX10_check_76 (q := 77) rfl rfl 3 rfl ?_
    refine v_iconst h (v := 1) dX10_check_77 (q := 78) rfl (by decide) ?_
    refine v_callV h (As := [.int (nI d), .int 1]) (rest := [.int (σ62 1 ((116 + k)))]) (c_X10_listenerIs (σ := σ62) (l := d) (f := 1) hm hl6 (by decide)) cal_X10_listenerIs calV_X10_listenerIs m1033 ⟨rfl, rfl, Nat.le_of_ble_eq_true rfl, Nat.le_of_ble_eq_true rfl⟩ rfl hm.1.1 hm.1.2 ⟨_, _, rfl⟩ rfl (Nat.le_of_ble_eq_true rfl) dX10_check_78 (q := 81) rfl (kI ?_)
    refine v_icmp_ne h (t := 88) dX10_check_81 (by decide) (q := 84) rfl (fun c81 => ?_) (fun c81 => ?_)
    · refine v_iconst h (v := 1) dX10_check_88 (q := 89) rfl (by decide) ?_
      refine v_iload h (i := 4) dX10_check_89 (q := 91) rfl 0 rfl ?_
      refine v_iadd h dX10_check_91 (q := 92) rfl ?_
      rw [show (1 + (nI k) : Int32) = nI (1 + k) from (nI_add 1 k)]
      refine v_istore_n h (i := 3) (ls1 := [(3, .int (nI (1 + k))), (4, .int (nI k)), (0, .ref (b_ad w 0)), (1, .int (nI d)), (2, .int (nI A.1.2.2.2.1))]) dX10_check_92 (q := 93) rfl rfl (Nat.le_of_ble_eq_true rfl) rfl ?_
      refine v_iinc h (p := 1) (u := nI (k + 1)) (ls1 := [(4, .int (nI (k + 1))), (3, .int (nI (1 + k))), (0, .ref (b_ad w 0)), (1, .int (nI d)), (2, .int (nI A.1.2.2.2.1))]) dX10_check_93 (q := 96) rfl rfl (nI_1 k) (Nat.le_of_ble_eq_true rfl) rfl ?_
      refine v_goto h (t := 49) dX10_check_96 (by decide) ?_
      refine v_iload h (i := 4) dX10_check_49 (q := 51) rfl 0 rfl ?_
      refine v_iload_n h (i := 2) dX10_check_51 (q := 52) rfl rfl 4 rfl ?_
      refine v_icmp_ge h (t := 99) dX10_check_52 (by decide) (q := 55) rfl (fun c52_1 => ?_) (fun c52_1 => ?_)
      · refine v_aload_n h (i := 0) dX10_check_99 (q := 100) rfl rfl 2 rfl ?_
        refine v_iload_n h (i := 3) dX10_check_100 (q := 101) rfl rfl 1 rfl ?_
        refine v_callV h (As := [.int (nI (1 + k))]) (rest := []) (c_X10_putBack (σ := σ62) (v := nI (1 + k)) hm) cal_X10_putBack calV_X10_putBack m1205 ⟨rfl, rfl, Nat.le_of_ble_eq_true rfl, Nat.le_of_ble_eq_true rfl⟩ rfl hm.1.1 hm.1.2 ⟨_, _, rfl⟩ rfl (Nat.le_of_ble_eq_true rfl) dX10_check_101 (q := 104) rfl (kI ?_)
        exact v_iret h dX10_check_104 (pM_of (by subst eld; unfold oCheck; rw [if_pos hcond, cl_nI (n := d) (by omega), ← hck, show m = (m - 1) + 1 by omega, ck_one (by rw [← ev1, ← ev2]; exact c81)]) (hR1.back (hf.trans h62.1) hW2))
      · refine v_iload_n h (i := 3) dX10_check_55 (q := 56) rfl rfl 1 rfl ?_
        refine v_if_ne h (t := 99) dX10_check_56 (by decide) (q := 59) rfl (fun c56 => ?_) (fun c56 => absurd c56 (fun z => absurd ((nI_z (by omega)).mp z) (by omega)))
        refine v_aload_n h (i := 0) dX10_check_99 (q := 100) rfl rfl 2 rfl ?_
        refine v_iload_n h (i := 3) dX10_check_100 (q := 101) rfl rfl 1 rfl ?_
        refine v_callV h (As := [.int (nI (1 + k))]) (rest := []) (c_X10_putBack (σ := σ62) (v := nI (1 + k)) hm) cal_X10_putBack calV_X10_putBack m1205 ⟨rfl, rfl, Nat.le_of_ble_eq_true rfl, Nat.le_of_ble_eq_true rfl⟩ rfl hm.1.1 hm.1.2 ⟨_, _, rfl⟩ rfl (Nat.le_of_ble_eq_true rfl) dX10_check_101 (q := 104) rfl (kI ?_)
        exact v_iret h dX10_check_104 (pM_of (by subst eld; unfold oCheck; rw [if_pos hcond, cl_nI (n := d) (by omega), ← hck, show m = (m - 1) + 1 by omega, ck_one (by rw [← ev1, ← ev2]; exact c81)]) (hR1.back (hf.trans h62.1) hW2))
    · refine v_iconst h (v := 0) dX10_check_84 (q := 85) rfl (by decide) ?_
      refine v_goto h (t := 92) dX10_check_85 (by decide) ?_
      refine v_istore_n h (i := 3) (ls1 := [(3, .int 0), (4, .int (nI k)), (0, .ref (b_ad w 0)), (1, .int (nI d)), (2, .int (nI A.1.2.2.2.1))]) dX10_check_92 (q := 93) rfl rfl (Nat.le_of_ble_eq_true rfl) rfl ?_
      refine v_iinc h (p := 1) (u := nI (k + 1)) (ls1 := [(4, .int (nI (k + 1))), (3, .int 0), (0, .ref (b_ad w 0)), (1, .int (nI d)), (2, .int (nI A.1.2.2.2.1))]) dX10_check_93 (q := 96) rfl rfl (nI_1 k) (Nat.le_of_ble_eq_true rfl) rfl ?_
      refine v_goto h (t := 49) dX10_check_96 (by decide) ?_
      exact ih (m - 1) (by omega) (k + 1) (by omega) σ62 (hf.trans h62.1) hW2 (by rw [← hck, show m = (m - 1) + 1 by omega, ck_go (by rw [← ev1, ← ev2]; exact c81)]; rfl)
set_option maxHeartbeats 4000000 in
set_option maxRecDepth 100000 in
theorem c_X10_check {w : bw} {σ : bSt} {A : bA} {l : Int32} (hm : sModel w) (hR : RQ σ A) : MV yX10_check cX10_check 5 (some .int) (rmm 8 194) w [.ref (b_ad w 0), .int l] σ (pM (oCheck l A)) := by
  refine b_met (ls := [(0, .ref (b_ad w 0)), (1, .int l)]) (by decide) (Nat.le_of_ble_eq_true rfl) rfl (fun x h => ?_)
  refine v_aload_n h (i := 0) dX10_check_0 (q := 1) rfl rfl 0 rfl ?_
  refine v_get h (k := 0) (v := .ref (b_ad w 1)) cls10 hm.1.1 hm.1.2 (Nat.le_of_ble_eq_true rfl) m849 rfl dX10_check_1 (q := 4) rfl ?_
  refine v_bipush h (v := 10) dX10_check_4 (q := 6) rfl (by decide) ?_
  refine v_iald h (k := 10) hm.2.1.1 hm.2.1.2 (vp_in_nI (n := 10) (by decide) (by decide)) (by decide) dX10_check_6 (q := 7) rfl ?_
  rw [show (σ 1 10 : Int32) = nI A.1.2.2.2.1 from hR.wt.1]
  refine v_istore_n h (i := 2) (ls1 := [(2, .int (nI A.1.2.2.2.1)), (0, .ref (b_ad w 0)), (1, .int l)]) dX10_check_7 (q := 8) rfl rfl (Nat.le_of_ble_eq_true rfl) rfl ?_
  refine v_aload_n h (i := 0) dX10_check_8 (q := 9) rfl rfl 1 rfl ?_
  refine v_get h (k := 0) (v := .ref (b_ad w 1)) cls10 hm.1.1 hm.1.2 (Nat.le_of_ble_eq_true rfl) m849 rfl dX10_check_9 (q := 12) rfl ?_
  refine v_bipush h (v := 10) dX10_check_12 (q := 14) rfl (by decide) ?_
  refine v_iconst h (v := 0) dX10_check_14 (q := 15) rfl (by decide) ?_
  refine v_iast h (k := 10) hm.2.1.1 hm.2.1.2 (vp_in_nI (n := 10) (by decide) (by decide)) (by decide) dX10_check_15 (q := 16) rfl ?_
  have hw := hR.wt
  have hR1 : RQ (b_up σ 1 10 0) (setWt A (0, A.1.2.2.2.2)) := hR.set1 (D := (setWt A (0, A.1.2.2.2.2)).1) (by rw [b_up_n (by omega)]; exact ⟨rfl, rfl⟩) (fun j hj => by rw [b_up_n (by omega)]) (hR.1.wt2 (p := (0, A.1.2.2.2.2)) (fun k hk => by rw [b_up_s, upd_n (by omega)]) (by rw [b_up_s, upd_s]; rfl) (Nat.zero_le _) (fun k hk => by rw [b_up_s, upd_n (by omega)]; exact hR.wt.2.2 k hk)) (hR.2.1.sc (b_up_n (by omega)))
  refine v_aload_n h (i := 0) dX10_check_16 (q := 17) rfl rfl 1 rfl ?_
  refine v_iload_n h (i := 1) dX10_check_17 (q := 18) rfl rfl 2 rfl ?_
  refine v_bipush h (v := 8) dX10_check_18 (q := 20) rfl (by decide) ?_
  refine v_callV h (As := [.int l, .int 8]) (rest := []) (c_X10_is (σ := b_up σ 1 10 0) (k := l) (c := 8) hm (by decide)) cal_X10_is calV_X10_is m953 ⟨rfl, rfl, Nat.le_of_ble_eq_true rfl, Nat.le_of_ble_eq_true rfl⟩ rfl hm.1.1 hm.1.2 ⟨_, _, rfl⟩ rfl (Nat.le_of_ble_eq_true rfl) dX10_check_20 (q := 23) rfl (kB (fun c20 => ?_) (fun c20 => ?_))
  · refine v_if_ne h (t := 33) dX10_check_23 (by decide) (q := 26) rfl (fun _ => ?_) (fun c => absurd c (by decide))
    obtain ⟨d, hd, rfl⟩ := inN_nI (hR1.isl.mp c20)
    refine v_aload_n h (i := 0) dX10_check_33 (q := 34) rfl rfl 1 rfl ?_
    refine v_get h (k := 0) (v := .ref (b_ad w 1)) cls10 hm.1.1 hm.1.2 (Nat.le_of_ble_eq_true rfl) m849 rfl dX10_check_34 (q := 37) rfl ?_
    refine v_aload_n h (i := 0) dX10_check_37 (q := 38) rfl rfl 1 rfl ?_
    refine v_get h (k := 2) (v := .ref (b_ad w 3)) cls10 hm.1.1 hm.1.2 (Nat.le_of_ble_eq_true rfl) m851 rfl dX10_check_38 (q := 41) rfl ?_
    refine v_callS h (As := [.ref (b_ad w 1), .ref (b_ad w 3)]) (rest := []) (c_X10_copy (σ := b_up σ 1 10 0) (a := 1) (b := 3) hm.2.1 hm.2.2.2.1 (by decide)) cal_X10_copy m1203 m1202 ⟨rfl, rfl, Nat.le_of_ble_eq_true rfl, Nat.le_of_ble_eq_true rfl⟩ rfl rfl (Nat.le_of_ble_eq_true rfl) dX10_check_41 (q := 44) rfl (kU ?_)
    refine v_iconst h (v := 0) dX10_check_44 (q := 45) rfl (by decide) ?_
    refine v_istore_n h (i := 3) (ls1 := [(3, .int 0), (2, .int (nI A.1.2.2.2.1)), (0, .ref (b_ad w 0)), (1, .int (nI d))]) dX10_check_45 (q := 46) rfl rfl (Nat.le_of_ble_eq_true rfl) rfl ?_
    refine v_iconst h (v := 0) dX10_check_46 (q := 47) rfl (by decide) ?_
    refine v_istore h (i := 4) (ls1 := [(4, .int 0), (3, .int 0), (2, .int (nI A.1.2.2.2.1)), (0, .ref (b_ad w 0)), (1, .int (nI d))]) dX10_check_47 (q := 49) rfl (Nat.le_of_ble_eq_true rfl) rfl ?_
    refine v_ls [0, 1, 3, 4, 2] (ls2 := [(4, .int 0), (3, .int 0), (0, .ref (b_ad w 0)), (1, .int (nI d)), (2, .int (nI A.1.2.2.2.1))]) rfl ?_
    exact lX10_check_49 hm hR h hR1 d (Nat.lt_of_lt_of_le hd hR.li.2) (hR1.isl.mp c20) rfl A.1.2.2.2.1 0 (by omega) _ fM_rfl hR1.mw.as3 rfl
  · refine v_if_ne h (t := 33) dX10_check_23 (by decide) (q := 26) rfl (fun c => absurd (by decide) c) (fun _ => ?_)
    refine v_aload_n h (i := 0) dX10_check_26 (q := 27) rfl rfl 1 rfl ?_
    refine v_ldc h (v := -1000000001) m931 dX10_check_27 (q := 29) rfl ?_
    refine v_callV h (As := [.int (-1000000001)]) (rest := []) (c_X10_finding (σ := b_up σ 1 10 0) (e := 1) (v := -1000000001) hm (by decide) (by decide +kernel)) cal_X10_finding calV_X10_finding m932 ⟨rfl, rfl, Nat.le_of_ble_eq_true rfl, Nat.le_of_ble_eq_true rfl⟩ rfl hm.1.1 hm.1.2 ⟨_, _, rfl⟩ rfl (Nat.le_of_ble_eq_true rfl) dX10_check_29 (q := 32) rfl (kI ?_)
    exact v_iret h dX10_check_32 (pM_of (by unfold oCheck; rw [if_neg (fun z => by first | exact c20 (hR1.isl.mpr z)), ref1]) (hR1.err (by decide)))

set_option maxHeartbeats 4000000 in
set_option maxRecDepth 100000 in
theorem lX10_count_101 {w : bw} {σ : bSt} {A : bA} {what : Int32} (hm : sModel w) (hR : RQ σ A) {x : bX} (h : Cx x w cX10_count RX10 4 (some .int) (rmm 3 65)) : oCount what A = (coN A.1.1 6, A) → ∀ m i : Nat, i + m = liN A.1.1 → V x w 4 (pM (oCount what A)) 101 [(3, .int (nI i)), (2, .int (coN A.1.1 i)), (0, .ref (b_ad w 0))] [] σ := by
  intro hop
  refine b_ind (fun m ih => ?_)
  intro i him
  refine v_iload_n h (i := 3) dX10_count_101 (q := 102) rfl rfl 0 rfl ?_
  refine v_aload_n h (i := 0) dX10_count_102 (q := 103) rfl rfl 2 rfl ?_
  refine v_get h (k := 0) (v := .ref (b_ad w 1)) cls10 hm.1.1 hm.1.2 (Nat.le_of_ble_eq_true rfl) m849 rfl dX10_count_103 (q := 106) rfl ?_
  refine v_bipush h (v := 8) dX10_count_106 (q := 108) rfl (by decide) ?_
  refine v_iald h (k := 8) hm.2.1.1 hm.2.1.2 (vp_in_nI (n := 8) (by decide) (by decide)) (by decide) dX10_count_108 (q := 109) rfl ?_
  rw [show (σ 1 8 : Int32) = nI (liN A.1.1) from hR.li.1]
  refine v_icmp_ge h (t := 127) dX10_count_109 (by decide) (q := 112) rfl (fun c109 => ?_) (fun c109 => ?_)
  · refine v_iload_n h (i := 2) dX10_count_127 (q := 128) rfl rfl 1 rfl ?_
    exact v_iret h dX10_count_128 (pM_of (by rw [hop]; have hz := co_stop (N := A.1.1) (i := i) (by have := nge (k := liN A.1.1) (nI_toInt (by have := hR.li.2; omega)) (by have := hR.li.2; omega) c109; omega) (6 - i); rw [show i + (6 - i) = 6 by have := hR.li.2; omega] at hz; rw [hz]) hR)
  · have hi : i < liN A.1.1 := nlt (nI_toInt (by have := hR.li.2; omega)) (by have := hR.li.2; omega) c109
    have hl6 : i < 6 := by have := hR.li.2; omega
    refine v_iload_n h (i := 2) dX10_count_112 (q := 113) rfl rfl 1 rfl ?_
    refine v_aload_n h (i := 0) dX10_count_113 (q := 114) rfl rfl 2 rfl ?_
    refine v_iload_n h (i := 3) dX10_count_114 (q := 115) rfl rfl 0 rfl ?_
    refine v_iconst h (v := 2) dX10_count_115 (q := 116) rfl (by decide) ?_
    refine v_callV h (As := [.int (nI i), .int 2]) (rest := [.int (coN A.1.1 i)]) (c_X10_listenerIs (σ := σ) (l := i) (f := 2) hm hl6 (by decide)) cal_X10_listenerIs calV_X10_listenerIs m1033 ⟨rfl, rfl, Nat.le_of_ble_eq_true rfl, Nat.le_of_ble_eq_true rfl⟩ rfl hm.1.1 hm.1.2 ⟨_, _, rfl⟩ rfl (Nat.le_of_ble_eq_true rfl) dX10_count_116 (q := 119) rfl (kI ?_)
    rw [show (σ 1 (50 + 3 * i) : Int32) = A.1.1 (50 + 3 * i) from (hR.n (by omega))]
    refine v_iadd h dX10_count_119 (q := 120) rfl ?_
    refine v_istore_n h (i := 2) (ls1 := [(2, .int ((coN A.1.1 i) + (A.1.1 (50 + 3 * i)))), (3, .int (nI i)), (0, .ref (b_ad w 0))]) dX10_count_120 (q := 121) rfl rfl (Nat.le_of_ble_eq_true rfl) rfl ?_
    refine v_iinc h (p := 1) (u := nI (i + 1)) (ls1 := [(3, .int (nI (i + 1))), (2, .int ((coN A.1.1 i) + (A.1.1 (50 + 3 * i)))), (0, .ref (b_ad w 0))]) dX10_count_121 (q := 124) rfl rfl (nI_1 i) (Nat.le_of_ble_eq_true rfl) rfl ?_
    refine v_goto h (t := 101) dX10_count_124 (by decide) ?_
    have es : coN A.1.1 (i + 1) = coN A.1.1 i + A.1.1 (50 + 3 * i) := by rw [coN, if_pos hi]
    have hz := ih (m - 1) (by omega) (i + 1) (by omega)
    rw [es] at hz
    exact hz
set_option maxHeartbeats 4000000 in
set_option maxRecDepth 100000 in
theorem c_X10_count {w : bw} {σ : bSt} {A : bA} {what : Int32} (hm : sModel w) (hR : RQ σ A) : MV yX10_count cX10_count 4 (some .int) (rmm 3 65) w [.ref (b_ad w 0), .int what] σ (pM (oCount what A)) := by
  refine b_met (ls := [(0, .ref (b_ad w 0)), (1, .int what)]) (by decide) (Nat.le_of_ble_eq_true rfl) rfl (fun x h => ?_)
  refine v_iconst h (v := 0) dX10_count_0 (q := 1) rfl (by decide) ?_
  refine v_istore_n h (i := 2) (ls1 := [(2, .int 0), (0, .ref (b_ad w 0)), (1, .int what)]) dX10_count_1 (q := 2) rfl rfl (Nat.le_of_ble_eq_true rfl) rfl ?_
  refine v_iload_n h (i := 1) dX10_count_2 (q := 3) rfl rfl 2 rfl ?_
  by_cases e3_0 : what = (0 : Int32)
  · refine v_tableIn h (off := 57) (t := 60) dX10_count_3 (by rw [e3_0]; decide) (by rw [e3_0]; decide) (by rw [e3_0]; rfl) (by decide) ?_
    refine v_aload_n h (i := 0) dX10_count_60 (q := 61) rfl rfl 1 rfl ?_
    refine v_get h (k := 0) (v := .ref (b_ad w 1)) cls10 hm.1.1 hm.1.2 (Nat.le_of_ble_eq_true rfl) m849 rfl dX10_count_61 (q := 64) rfl ?_
    refine v_iconst h (v := 0) dX10_count_64 (q := 65) rfl (by decide) ?_
    refine v_iald h (k := 0) hm.2.1.1 hm.2.1.2 (vp_in_nI (n := 0) (by decide) (by decide)) (by decide) dX10_count_65 (q := 66) rfl ?_
    rw [show (σ 1 0 : Int32) = A.1.1 0 from (hR.n (by omega))]
    exact v_iret h dX10_count_66 (pM_of (by unfold oCount; rw [if_pos e3_0]) hR)
  by_cases e3_1 : what = (1 : Int32)
  · refine v_tableIn h (off := 64) (t := 67) dX10_count_3 (by rw [e3_1]; decide) (by rw [e3_1]; decide) (by rw [e3_1]; rfl) (by decide) ?_
    refine v_aload_n h (i := 0) dX10_count_67 (q := 68) rfl rfl 1 rfl ?_
    refine v_get h (k := 0) (v := .ref (b_ad w 1)) cls10 hm.1.1 hm.1.2 (Nat.le_of_ble_eq_true rfl) m849 rfl dX10_count_68 (q := 71) rfl ?_
    refine v_bipush h (v := 7) dX10_count_71 (q := 73) rfl (by decide) ?_
    refine v_iald h (k := 7) hm.2.1.1 hm.2.1.2 (vp_in_nI (n := 7) (by decide) (by decide)) (by decide) dX10_count_73 (q := 74) rfl ?_
    rw [show (σ 1 7 : Int32) = A.1.1 7 from (hR.n (by omega))]
    exact v_iret h dX10_count_74 (pM_of (by unfold oCount; rw [if_neg e3_0, if_pos e3_1]) hR)
  by_cases e3_2 : what = (2 : Int32)
  · refine v_tableIn h (off := 72) (t := 75) dX10_count_3 (by rw [e3_2]; decide) (by rw [e3_2]; decide) (by rw [e3_2]; rfl) (by decide) ?_
    refine v_aload_n h (i := 0) dX10_count_75 (q := 76) rfl rfl 1 rfl ?_
    refine v_get h (k := 0) (v := .ref (b_ad w 1)) cls10 hm.1.1 hm.1.2 (Nat.le_of_ble_eq_true rfl) m849 rfl dX10_count_76 (q := 79) rfl ?_
    refine v_bipush h (v := 8) dX10_count_79 (q := 81) rfl (by decide) ?_
    refine v_iald h (k := 8) hm.2.1.1 hm.2.1.2 (vp_in_nI (n := 8) (by decide) (by decide)) (by decide) dX10_count_81 (q := 82) rfl ?_
    rw [show (σ 1 8 : Int32) = A.1.1 8 from (hR.n (by omega))]
    exact v_iret h dX10_count_82 (pM_of (by unfold oCount; rw [if_neg e3_0, if_neg e3_1, if_pos e3_2]) hR)
  by_cases e3_3 : what = (3 : Int32)
  · refine v_tableIn h (off := 80) (t := 83) dX10_count_3 (by rw [e3_3]; decide) (by rw [e3_3]; decide) (by rw [e3_3]; rfl) (by decide) ?_
    refine v_aload_n h (i := 0) dX10_count_83 (q := 84) rfl rfl 1 rfl ?_
    refine v_callV h (As := []) (rest := []) (c_X10_singers (σ := σ) (N := A.1.1) (T := A.1.2.1) hm hR.mw) cal_X10_singers calV_X10_singers m1037 ⟨rfl, rfl, Nat.le_of_ble_eq_true rfl, Nat.le_of_ble_eq_true rfl⟩ rfl hm.1.1 hm.1.2 ⟨_, _, rfl⟩ rfl (Nat.le_of_ble_eq_true rfl) dX10_count_84 (q := 87) rfl (kI ?_)
    refine v_callS h (As := [.int (sngN A.1.1 9)]) (rest := []) (c_bits (σ := σ) (v := sngN A.1.1 9)) cal_X10_bits m1046 m1045 ⟨rfl, rfl, Nat.le_of_ble_eq_true rfl, Nat.le_of_ble_eq_true rfl⟩ rfl rfl (Nat.le_of_ble_eq_true rfl) dX10_count_87 (q := 90) rfl (kI ?_)
    exact v_iret h dX10_count_90 (pM_of (by unfold oCount; rw [if_neg e3_0, if_neg e3_1, if_neg e3_2, if_pos e3_3]) hR)
  by_cases e3_4 : what = (4 : Int32)
  · refine v_tableIn h (off := 88) (t := 91) dX10_count_3 (by rw [e3_4]; decide) (by rw [e3_4]; decide) (by rw [e3_4]; rfl) (by decide) ?_
    refine v_aload_n h (i := 0) dX10_count_91 (q := 92) rfl rfl 1 rfl ?_
    refine v_get h (k := 0) (v := .ref (b_ad w 1)) cls10 hm.1.1 hm.1.2 (Nat.le_of_ble_eq_true rfl) m849 rfl dX10_count_92 (q := 95) rfl ?_
    refine v_bipush h (v := 6) dX10_count_95 (q := 97) rfl (by decide) ?_
    refine v_iald h (k := 6) hm.2.1.1 hm.2.1.2 (vp_in_nI (n := 6) (by decide) (by decide)) (by decide) dX10_count_97 (q := 98) rfl ?_
    rw [show (σ 1 6 : Int32) = A.1.1 6 from (hR.n (by omega))]
    exact v_iret h dX10_count_98 (pM_of (by unfold oCount; rw [if_neg e3_0, if_neg e3_1, if_neg e3_2, if_neg e3_3, if_pos e3_4]) hR)
  by_cases e3_5 : what = (5 : Int32)
  · refine v_tableIn h (off := 96) (t := 99) dX10_count_3 (by rw [e3_5]; decide) (by rw [e3_5]; decide) (by rw [e3_5]; rfl) (by decide) ?_
    refine v_iconst h (v := 0) dX10_count_99 (q := 100) rfl (by decide) ?_
    refine v_istore_n h (i := 3) (ls1 := [(3, .int 0), (2, .int 0), (0, .ref (b_ad w 0)), (1, .int what)]) dX10_count_100 (q := 101) rfl rfl (Nat.le_of_ble_eq_true rfl) rfl ?_
    refine v_ls [0, 1, 2] (ls2 := [(3, .int 0), (2, .int 0), (0, .ref (b_ad w 0))]) rfl ?_
    exact lX10_count_101 hm hR h (by unfold oCount; rw [if_neg e3_0, if_neg e3_1, if_neg e3_2, if_neg e3_3, if_neg e3_4, if_pos e3_5]) (liN A.1.1) 0 (by omega)
  by_cases e3_6 : what = (6 : Int32)
  · refine v_tableIn h (off := 126) (t := 129) dX10_count_3 (by rw [e3_6]; decide) (by rw [e3_6]; decide) (by rw [e3_6]; rfl) (by decide) ?_
    refine v_aload_n h (i := 0) dX10_count_129 (q := 130) rfl rfl 1 rfl ?_
    refine v_get h (k := 0) (v := .ref (b_ad w 1)) cls10 hm.1.1 hm.1.2 (Nat.le_of_ble_eq_true rfl) m849 rfl dX10_count_130 (q := 133) rfl ?_
    refine v_iconst h (v := 1) dX10_count_133 (q := 134) rfl (by decide) ?_
    refine v_iald h (k := 1) hm.2.1.1 hm.2.1.2 (vp_in_nI (n := 1) (by decide) (by decide)) (by decide) dX10_count_134 (q := 135) rfl ?_
    rw [show (σ 1 1 : Int32) = A.1.1 1 from (hR.n (by omega))]
    exact v_iret h dX10_count_135 (pM_of (by unfold oCount; rw [if_neg e3_0, if_neg e3_1, if_neg e3_2, if_neg e3_3, if_neg e3_4, if_neg e3_5, if_pos e3_6]) hR)
  by_cases e3_7 : what = (7 : Int32)
  · refine v_tableIn h (off := 133) (t := 136) dX10_count_3 (by rw [e3_7]; decide) (by rw [e3_7]; decide) (by rw [e3_7]; rfl) (by decide) ?_
    refine v_aload_n h (i := 0) dX10_count_136 (q := 137) rfl rfl 1 rfl ?_
    refine v_get h (k := 0) (v := .ref (b_ad w 1)) cls10 hm.1.1 hm.1.2 (Nat.le_of_ble_eq_true rfl) m849 rfl dX10_count_137 (q := 140) rfl ?_
    refine v_bipush h (v := 9) dX10_count_140 (q := 142) rfl (by decide) ?_
    refine v_iald h (k := 9) hm.2.1.1 hm.2.1.2 (vp_in_nI (n := 9) (by decide) (by decide)) (by decide) dX10_count_142 (q := 143) rfl ?_
    rw [show (σ 1 9 : Int32) = nI A.1.2.2.1.1 from hR.fed.1]
    exact v_iret h dX10_count_143 (pM_of (by unfold oCount; rw [if_neg e3_0, if_neg e3_1, if_neg e3_2, if_neg e3_3, if_neg e3_4, if_neg e3_5, if_neg e3_6, if_pos e3_7]) hR)
  by_cases e3_8 : what = (8 : Int32)
  · refine v_tableIn h (off := 141) (t := 144) dX10_count_3 (by rw [e3_8]; decide) (by rw [e3_8]; decide) (by rw [e3_8]; rfl) (by decide) ?_
    refine v_aload_n h (i := 0) dX10_count_144 (q := 145) rfl rfl 1 rfl ?_
    refine v_get h (k := 0) (v := .ref (b_ad w 1)) cls10 hm.1.1 hm.1.2 (Nat.le_of_ble_eq_true rfl) m849 rfl dX10_count_145 (q := 148) rfl ?_
    refine v_bipush h (v := 10) dX10_count_148 (q := 150) rfl (by decide) ?_
    refine v_iald h (k := 10) hm.2.1.1 hm.2.1.2 (vp_in_nI (n := 10) (by decide) (by decide)) (by decide) dX10_count_150 (q := 151) rfl ?_
    rw [show (σ 1 10 : Int32) = nI A.1.2.2.2.1 from hR.wt.1]
    exact v_iret h dX10_count_151 (pM_of (by unfold oCount; rw [if_neg e3_0, if_neg e3_1, if_neg e3_2, if_neg e3_3, if_neg e3_4, if_neg e3_5, if_neg e3_6, if_neg e3_7, if_pos e3_8]) hR)
  by_cases e3_9 : what = (9 : Int32)
  · refine v_tableIn h (off := 149) (t := 152) dX10_count_3 (by rw [e3_9]; decide) (by rw [e3_9]; decide) (by rw [e3_9]; rfl) (by decide) ?_
    refine v_aload_n h (i := 0) dX10_count_152 (q := 153) rfl rfl 1 rfl ?_
    refine v_get h (k := 17) (v := .int (σ 0 17)) cls10 hm.1.1 hm.1.2 (Nat.le_of_ble_eq_true rfl) m866 rfl dX10_count_153 (q := 156) rfl ?_
    rw [show (σ 0 17 : Int32) = nI A.2.2.2.2.1.1 from hR.tr.1]
    exact v_iret h dX10_count_156 (pM_of (by unfold oCount; rw [if_neg e3_0, if_neg e3_1, if_neg e3_2, if_neg e3_3, if_neg e3_4, if_neg e3_5, if_neg e3_6, if_neg e3_7, if_neg e3_8, if_pos e3_9]) hR)
  by_cases e3_10 : what = (10 : Int32)
  · refine v_tableIn h (off := 154) (t := 157) dX10_count_3 (by rw [e3_10]; decide) (by rw [e3_10]; decide) (by rw [e3_10]; rfl) (by decide) ?_
    refine v_aload_n h (i := 0) dX10_count_157 (q := 158) rfl rfl 1 rfl ?_
    refine v_get h (k := 0) (v := .ref (b_ad w 1)) cls10 hm.1.1 hm.1.2 (Nat.le_of_ble_eq_true rfl) m849 rfl dX10_count_158 (q := 161) rfl ?_
    refine v_bipush h (v := 11) dX10_count_161 (q := 163) rfl (by decide) ?_
    refine v_iald h (k := 11) hm.2.1.1 hm.2.1.2 (vp_in_nI (n := 11) (by decide) (by decide)) (by decide) dX10_count_163 (q := 164) rfl ?_
    rw [show (σ 1 11 : Int32) = A.1.1 11 from (hR.n (by omega))]
    exact v_iret h dX10_count_164 (pM_of (by unfold oCount; rw [if_neg e3_0, if_neg e3_1, if_neg e3_2, if_neg e3_3, if_neg e3_4, if_neg e3_5, if_neg e3_6, if_neg e3_7, if_neg e3_8, if_neg e3_9, if_pos e3_10]) hR)
  have e3_0i := sw_ne e3_0 (z := 0) (by decide)
  have e3_1i := sw_ne e3_1 (z := 1) (by decide)
  have e3_2i := sw_ne e3_2 (z := 2) (by decide)
  have e3_3i := sw_ne e3_3 (z := 3) (by decide)
  have e3_4i := sw_ne e3_4 (z := 4) (by decide)
  have e3_5i := sw_ne e3_5 (z := 5) (by decide)
  have e3_6i := sw_ne e3_6 (z := 6) (by decide)
  have e3_7i := sw_ne e3_7 (z := 7) (by decide)
  have e3_8i := sw_ne e3_8 (z := 8) (by decide)
  have e3_9i := sw_ne e3_9 (z := 9) (by decide)
  have e3_10i := sw_ne e3_10 (z := 10) (by decide)
  refine v_tableOut h (t := 165) dX10_count_3 (by omega) (by decide) ?_
  refine v_aload_n h (i := 0) dX10_count_165 (q := 166) rfl rfl 1 rfl ?_
  refine v_ldc h (v := -1000000001) m931 dX10_count_166 (q := 168) rfl ?_
  refine v_callV h (As := [.int (-1000000001)]) (rest := []) (c_X10_finding (σ := σ) (e := 1) (v := -1000000001) hm (by decide) (by decide +kernel)) cal_X10_finding calV_X10_finding m932 ⟨rfl, rfl, Nat.le_of_ble_eq_true rfl, Nat.le_of_ble_eq_true rfl⟩ rfl hm.1.1 hm.1.2 ⟨_, _, rfl⟩ rfl (Nat.le_of_ble_eq_true rfl) dX10_count_168 (q := 171) rfl (kI ?_)
  exact v_iret h dX10_count_171 (pM_of (by unfold oCount; rw [if_neg e3_0, if_neg e3_1, if_neg e3_2, if_neg e3_3, if_neg e3_4, if_neg e3_5, if_neg e3_6, if_neg e3_7, if_neg e3_8, if_neg e3_9, if_neg e3_10, ref1]) (hR.err (by decide)))

set_option maxHeartbeats 4000000 in
set_option maxRecDepth 100000 in
theorem lX10_feed_41 {w : bw} {σ : bSt} {A : bA} {word : Int64} {n : Int32} (hm : sModel w) (hR : RQ σ A) {x : bX} (h : Cx x w cX10_feed RX10 5 (some .int) (rmm 1 22)) : ∀ q : Nat, q ≤ 8 → A.1.2.2.1.1 + q ≤ 50 → wj n 1 8 → n = nI q → ∀ m k : Nat, k + m = q → ∀ τ : bSt, (∀ j, j ≠ 1 → τ j = σ j) → τ 1 = fdR (σ 1) A.1.2.2.1.1 word k → V x w 5 (pM (oFeed word n A)) 41 [(4, .int (nI k)), (0, .ref (b_ad w 0)), (1, .long word), (3, .int (nI q))] [] τ := by
  intro q hq8 hf50 hcond enq
  refine b_ind (fun m ih => ?_)
  intro k hkm τ ho hrow
  refine v_iload h (i := 4) dX10_feed_41 (q := 43) rfl 0 rfl ?_
  refine v_iload_n h (i := 3) dX10_feed_43 (q := 44) rfl rfl 3 rfl ?_
  refine v_icmp_ge h (t := 91) dX10_feed_44 (by decide) (q := 47) rfl (fun c44 => ?_) (fun c44 => ?_)
  · refine v_aload_n h (i := 0) dX10_feed_91 (q := 92) rfl rfl 1 rfl ?_
    refine v_get h (k := 0) (v := .ref (b_ad w 1)) cls10 hm.1.1 hm.1.2 (Nat.le_of_ble_eq_true rfl) m849 rfl dX10_feed_92 (q := 95) rfl ?_
    refine v_bipush h (v := 9) dX10_feed_95 (q := 97) rfl (by decide) ?_
    refine v_iald h (k := 9) hm.2.1.1 hm.2.1.2 (vp_in_nI (n := 9) (by decide) (by decide)) (by decide) dX10_feed_97 (q := 98) rfl ?_
    rw [show (τ 1 9 : Int32) = nI (A.1.2.2.1.1 + q) from (by rw [hrow, show q = k by have := nge (k := q) (nI_toInt (by omega)) (by omega) c44; omega]; exact fd_9 hR.fed.1 k)]
    exact v_iret h dX10_feed_98 (pM_of (by subst enq; unfold oFeed; rw [if_pos hcond, cl_nI (n := q) (by omega), if_pos hf50]; rfl) (hR.set1 (D := (A.1.1, A.1.2.1, (A.1.2.2.1.1 + q, tpF A.1.2.2.1.2 A.1.2.2.1.1 word q), A.1.2.2.2)) (by rw [ho 0 (by decide)]; exact ⟨rfl, rfl⟩) (fun j hj => ho j (by omega)) (hR.1.tp (p := (A.1.2.2.1.1 + q, tpF A.1.2.2.1.2 A.1.2.2.1.1 word q)) (fun i hi => by rw [hrow]; exact fd_o (by omega) k (by omega) (by omega)) (by rw [hrow, show q = k by have := nge (k := q) (nI_toInt (by omega)) (by omega) c44; omega]; exact fd_9 hR.fed.1 k) hf50 (fun i hi => by rw [hrow, show q = k by have := nge (k := q) (nI_toInt (by omega)) (by omega) c44; omega]; exact fd_t hR.fed.2.2 k (by omega) i hi)) (hR.2.1.sc (ho 5 (by decide)))))
  · have hkq : k < q := nlt (nI_toInt (by omega)) (by omega) c44
    have h9 : τ 1 9 = nI (A.1.2.2.1.1 + k) := by rw [hrow]; exact fd_9 hR.fed.1 k
    refine v_aload_n h (i := 0) dX10_feed_47 (q := 48) rfl rfl 1 rfl ?_
    refine v_get h (k := 0) (v := .ref (b_ad w 1)) cls10 hm.1.1 hm.1.2 (Nat.le_of_ble_eq_true rfl) m849 rfl dX10_feed_48 (q := 51) rfl ?_
    refine v_bipush h (v := 66) dX10_feed_51 (q := 53) rfl (by decide) ?_
    refine v_aload_n h (i := 0) dX10_feed_53 (q := 54) rfl rfl 1 rfl ?_
    refine v_get h (k := 0) (v := .ref (b_ad w 1)) cls10 hm.1.1 hm.1.2 (Nat.le_of_ble_eq_true rfl) m849 rfl dX10_feed_54 (q := 57) rfl ?_
    refine v_bipush h (v := 9) dX10_feed_57 (q := 59) rfl (by decide) ?_
    refine v_iald h (k := 9) hm.2.1.1 hm.2.1.2 (vp_in_nI (n := 9) (by decide) (by decide)) (by decide) dX10_feed_59 (q := 60) rfl ?_
    rw [show (τ 1 9 : Int32) = nI (A.1.2.2.1.1 + k) from h9]
    refine v_iadd h dX10_feed_60 (q := 61) rfl ?_
    rw [show (66 + (nI (A.1.2.2.1.1 + k)) : Int32) = nI (66 + A.1.2.2.1.1 + k) from (by rw [show (66 : Int32) = nI 66 from rfl, nI_add, show 66 + (A.1.2.2.1.1 + k) = 66 + A.1.2.2.1.1 + k by omega])]
    refine v_lload_n h (i := 1) dX10_feed_61 (q := 62) rfl rfl 2 rfl ?_
    refine v_bipush h (v := 8) dX10_feed_62 (q := 64) rfl (by decide) ?_
    refine v_iload h (i := 4) dX10_feed_64 (q := 66) rfl 0 rfl ?_
    refine v_imul h dX10_feed_66 (q := 67) rfl ?_
    rw [show (8 * (nI k) : Int32) = nI (8 * k) from (nI_mulN 8 k)]
    refine v_lshr h (v := word >>> ((nI (8 * k)).toInt64 &&& 63)) dX10_feed_67 (q := 68) rfl rfl ?_
    refine v_ldc2 h (v := 255) m1056 dX10_feed_68 (q := 71) rfl ?_
    refine v_land h dX10_feed_71 (q := 72) rfl ?_
    refine v_l2i h (v := ((word >>> ((nI (8 * k)).toInt64 &&& 63)) &&& 255).toInt32) dX10_feed_72 (q := 73) rfl rfl ?_
    rw [show (((word >>> ((nI (8 * k)).toInt64 &&& 63)) &&& 255).toInt32 : Int32) = tkF word k from (tk_M word (by omega))]
    refine v_iast h (k := (66 + A.1.2.2.1.1 + k)) hm.2.1.1 hm.2.1.2 (vp_in_nI (by omega) (by decide)) (nI_clamp (by omega)) dX10_feed_73 (q := 74) rfl ?_
    refine v_aload_n h (i := 0) dX10_feed_74 (q := 75) rfl rfl 1 rfl ?_
    refine v_get h (k := 0) (v := .ref (b_ad w 1)) cls10 hm.1.1 hm.1.2 (Nat.le_of_ble_eq_true rfl) m849 rfl dX10_feed_75 (q := 78) rfl ?_
    refine v_bipush h (v := 9) dX10_feed_78 (q := 80) rfl (by decide) ?_
    refine v_dup2 h dX10_feed_80 (q := 81) rfl rfl rfl ?_
    refine v_iald h (k := 9) hm.2.1.1 hm.2.1.2 (vp_in_nI (n := 9) (by decide) (by decide)) (by decide) dX10_feed_81 (q := 82) rfl ?_
    rw [show ((b_up τ 1 ((66 + A.1.2.2.1.1 + k)) (tkF word k)) 1 9 : Int32) = nI (A.1.2.2.1.1 + k) from (by rw [b_up_s, upd_n (by omega)]; exact h9)]
    refine v_iconst h (v := 1) dX10_feed_82 (q := 83) rfl (by decide) ?_
    refine v_iadd h dX10_feed_83 (q := 84) rfl ?_
    rw [show ((nI (A.1.2.2.1.1 + k)) + 1 : Int32) = nI (A.1.2.2.1.1 + k + 1) from (nI_1 _)]
    refine v_iast h (k := 9) hm.2.1.1 hm.2.1.2 (vp_in_nI (n := 9) (by decide) (by decide)) (by decide) dX10_feed_84 (q := 85) rfl ?_
    refine v_iinc h (p := 0) (u := nI (k + 1)) (ls1 := [(4, .int (nI (k + 1))), (0, .ref (b_ad w 0)), (1, .long word), (3, .int (nI q))]) dX10_feed_85 (q := 88) rfl rfl (nI_1 k) (Nat.le_of_ble_eq_true rfl) rfl ?_
    refine v_goto h (t := 41) dX10_feed_88 (by decide) ?_
    exact ih (m - 1) (by omega) (k + 1) (by omega) _ (fun j hj => by rw [b_up_n hj, b_up_n hj]; exact ho j hj) (by rw [b_up_s, b_up_s, hrow]; rfl)
set_option maxHeartbeats 4000000 in
set_option maxRecDepth 100000 in
theorem c_X10_feed {w : bw} {σ : bSt} {A : bA} {word : Int64} {n : Int32} (hm : sModel w) (hR : RQ σ A) : MV yX10_feed cX10_feed 5 (some .int) (rmm 1 22) w [.ref (b_ad w 0), .long word, .int n] σ (pM (oFeed word n A)) := by
  refine b_met (ls := [(0, .ref (b_ad w 0)), (1, .long word), (3, .int n)]) (by decide) (Nat.le_of_ble_eq_true rfl) rfl (fun x h => ?_)
  refine v_iload_n h (i := 3) dX10_feed_0 (q := 1) rfl rfl 2 rfl ?_
  refine v_iconst h (v := 1) dX10_feed_1 (q := 2) rfl (by decide) ?_
  refine v_bipush h (v := 8) dX10_feed_2 (q := 4) rfl (by decide) ?_
  refine v_callS h (As := [.int n, .int 1, .int 8]) (rest := []) (c_X10_within (v := n) (l := 1) (m := 8)) cal_X10_within m925 m924 ⟨rfl, rfl, Nat.le_of_ble_eq_true rfl, Nat.le_of_ble_eq_true rfl⟩ rfl rfl (Nat.le_of_ble_eq_true rfl) dX10_feed_4 (q := 7) rfl (kB (fun c4 => ?_) (fun c4 => ?_))
  · refine v_if_ne h (t := 17) dX10_feed_7 (by decide) (q := 10) rfl (fun _ => ?_) (fun c => absurd c (by decide))
    obtain ⟨q, hq1, hq8, rfl⟩ := wi_1 (n := 8) c4 rfl
    have hfd := hR.fed.2.1
    refine v_aload_n h (i := 0) dX10_feed_17 (q := 18) rfl rfl 0 rfl ?_
    refine v_get h (k := 0) (v := .ref (b_ad w 1)) cls10 hm.1.1 hm.1.2 (Nat.le_of_ble_eq_true rfl) m849 rfl dX10_feed_18 (q := 21) rfl ?_
    refine v_bipush h (v := 9) dX10_feed_21 (q := 23) rfl (by decide) ?_
    refine v_iald h (k := 9) hm.2.1.1 hm.2.1.2 (vp_in_nI (n := 9) (by decide) (by decide)) (by decide) dX10_feed_23 (q := 24) rfl ?_
    rw [show (σ 1 9 : Int32) = nI A.1.2.2.1.1 from hR.fed.1]
    refine v_iload_n h (i := 3) dX10_feed_24 (q := 25) rfl rfl 2 rfl ?_
    refine v_iadd h dX10_feed_25 (q := 26) rfl ?_
    rw [show ((nI A.1.2.2.1.1) + (nI q) : Int32) = nI (A.1.2.2.1.1 + q) from (nI_add _ q)]
    refine v_bipush h (v := 50) dX10_feed_26 (q := 28) rfl (by decide) ?_
    refine v_icmp_le h (t := 38) dX10_feed_28 (by decide) (q := 31) rfl (fun c28 => ?_) (fun c28 => ?_)
    · have hf50 : A.1.2.2.1.1 + q ≤ 50 := (nI_leI (by omega) (by decide)).mp c28
      refine v_iconst h (v := 0) dX10_feed_38 (q := 39) rfl (by decide) ?_
      refine v_istore h (i := 4) (ls1 := [(4, .int 0), (0, .ref (b_ad w 0)), (1, .long word), (3, .int (nI q))]) dX10_feed_39 (q := 41) rfl (Nat.le_of_ble_eq_true rfl) rfl ?_
      exact lX10_feed_41 hm hR h q hq8 hf50 c4 rfl q 0 (by omega) σ (fun _ _ => rfl) rfl
    · refine v_aload_n h (i := 0) dX10_feed_31 (q := 32) rfl rfl 0 rfl ?_
      refine v_ldc h (v := -1000000004) m948 dX10_feed_32 (q := 34) rfl ?_
      refine v_callV h (As := [.int (-1000000004)]) (rest := []) (c_X10_finding (σ := σ) (e := 4) (v := -1000000004) hm (by decide) (by decide +kernel)) cal_X10_finding calV_X10_finding m932 ⟨rfl, rfl, Nat.le_of_ble_eq_true rfl, Nat.le_of_ble_eq_true rfl⟩ rfl hm.1.1 hm.1.2 ⟨_, _, rfl⟩ rfl (Nat.le_of_ble_eq_true rfl) dX10_feed_34 (q := 37) rfl (kI ?_)
      exact v_iret h dX10_feed_37 (pM_of (by unfold oFeed; rw [if_pos (show wj (nI q) 1 8 from c4), cl_nI (n := q) (by omega), if_neg (fun z => c28 (nI_le (b := 50) z (by decide))), ref4]) (hR.err (by decide)))
  · refine v_if_ne h (t := 17) dX10_feed_7 (by decide) (q := 10) rfl (fun c => absurd (by decide) c) (fun _ => ?_)
    refine v_aload_n h (i := 0) dX10_feed_10 (q := 11) rfl rfl 0 rfl ?_
    refine v_ldc h (v := -1000000001) m931 dX10_feed_11 (q := 13) rfl ?_
    refine v_callV h (As := [.int (-1000000001)]) (rest := []) (c_X10_finding (σ := σ) (e := 1) (v := -1000000001) hm (by decide) (by decide +kernel)) cal_X10_finding calV_X10_finding m932 ⟨rfl, rfl, Nat.le_of_ble_eq_true rfl, Nat.le_of_ble_eq_true rfl⟩ rfl hm.1.1 hm.1.2 ⟨_, _, rfl⟩ rfl (Nat.le_of_ble_eq_true rfl) dX10_feed_13 (q := 16) rfl (kI ?_)
    exact v_iret h dX10_feed_16 (pM_of (by unfold oFeed; rw [if_neg (show ¬ wj n 1 8 from c4), ref1]) (hR.err (by decide)))
