set_option maxHeartbeats 4000000 in
set_option maxRecDepth 100000 in
theorem lX10_mooring_51 {w : bw} {σ : bSt} {A : bA} {b cell n0 : Int32} (hm : sModel w) (hR : RQ σ A) {x : bX} (h : Cx x w cX10_mooring RX10 8 (some .int) (rmm 7 168)) : ∀ d y n : Nat, d < afN A.1.1 → y < 64 → n ≤ 128 → inN b (afN A.1.1) ∧ wj cell 0 63 ∧ wj n0 0 128 → b = nI d → cell = nI y → n0 = nI n → ∀ m i : Nat, i + m = 64 → ∀ τ : bSt, tryM σ τ A.1.2.1 → V x w 8 (pM (oMooring b cell n0 A)) 51 [(6, .int (nI i)), (5, .int (bmN (fun c => nI (scN (gvT A.1.2.1) (upd A.1.1 (14 + 4 * d) (nI c)) (nI y) n)) i)), (4, .int (nI (fmN (fun c => nI (scN (gvT A.1.2.1) (upd A.1.1 (14 + 4 * d) (nI c)) (nI y) n)) i))), (0, .ref (b_ad w 0)), (1, .int (nI d)), (2, .int (nI y)), (3, .int (nI n))] [] τ := by
  intro d y n hd hy hn hcond ebd ecy enn
  have hb9 : d < 9 := by have := hR.af.2; omega
  refine b_ind (fun m ih => ?_)
  intro i him τ ht
  refine v_iload h (i := 6) dX10_mooring_51 (q := 53) rfl 0 rfl ?_
  refine v_bipush h (v := 64) dX10_mooring_53 (q := 55) rfl (by decide) ?_
  refine v_icmp_ge h (t := 112) dX10_mooring_55 (by decide) (q := 58) rfl (fun c55 => ?_) (fun c55 => ?_)
  · refine v_iload h (i := 4) dX10_mooring_112 (q := 114) rfl 2 rfl ?_
    exact v_iret h dX10_mooring_114 (pM_of (by subst ebd ecy enn; unfold oMooring; rw [if_pos hcond, cl_nI (n := d) (by omega), cl_nI (n := n) (by omega), show (64 : Nat) = i by have := nge (k := 64) rfl (by omega) c55; omega]) (hR.bk ht.bk ht.2.2.2))
  · have hi : i < 64 := nlt rfl (by omega) c55
    have hMI : IvB (upd A.1.1 (14 + 4 * d) (nI i)) := (hR.1.2.1.cellB ⟨i, hi, rfl⟩)
    have hGn : (0 : Int32) ≤ (fun c => nI (scN (gvT A.1.2.1) (upd A.1.1 (14 + 4 * d) (nI c)) (nI y) n)) i := nI_nn (by have := sc_le (g := gvT A.1.2.1) (N := upd A.1.1 (14 + 4 * d) (nI i)) (y := nI y) n; omega)
    refine v_aload_n h (i := 0) dX10_mooring_58 (q := 59) rfl rfl 3 rfl ?_
    refine v_get h (k := 0) (v := .ref (b_ad w 1)) cls10 hm.1.1 hm.1.2 (Nat.le_of_ble_eq_true rfl) m849 rfl dX10_mooring_59 (q := 62) rfl ?_
    refine v_bipush h (v := 12) dX10_mooring_62 (q := 64) rfl (by decide) ?_
    refine v_iconst h (v := 4) dX10_mooring_64 (q := 65) rfl (by decide) ?_
    refine v_iload_n h (i := 1) dX10_mooring_65 (q := 66) rfl rfl 4 rfl ?_
    refine v_imul h dX10_mooring_66 (q := 67) rfl ?_
    rw [show (4 * (nI d) : Int32) = nI (4 * d) from (nI_mulN 4 _)]
    refine v_iadd h dX10_mooring_67 (q := 68) rfl ?_
    rw [show (12 + (nI (4 * d)) : Int32) = nI (12 + 4 * d) from (nI_add 12 _)]
    refine v_iconst h (v := 2) dX10_mooring_68 (q := 69) rfl (by decide) ?_
    refine v_iadd h dX10_mooring_69 (q := 70) rfl ?_
    rw [show ((nI (12 + 4 * d)) + 2 : Int32) = nI (14 + 4 * d) from (by rw [show (2 : Int32) = nI 2 from rfl, nI_add, show 12 + 4 * d + 2 = 14 + 4 * d by omega])]
    refine v_iload h (i := 6) dX10_mooring_70 (q := 72) rfl 0 rfl ?_
    refine v_iast h (k := (14 + 4 * d)) hm.2.1.1 hm.2.1.2 (vp_in_nI (by omega) (by decide)) (nI_clamp (by omega)) dX10_mooring_72 (q := 73) rfl ?_
    have hmw : MW (b_up τ 1 ((14 + 4 * d)) (nI i)) (upd A.1.1 (14 + 4 * d) (nI i)) A.1.2.1 := (try_mw hR ht).up (by omega) hMI.1
    have hbt := bt128 hMI
    refine v_aload_n h (i := 0) dX10_mooring_73 (q := 74) rfl rfl 3 rfl ?_
    refine v_iload_n h (i := 2) dX10_mooring_74 (q := 75) rfl rfl 5 rfl ?_
    refine v_iload_n h (i := 3) dX10_mooring_75 (q := 76) rfl rfl 6 rfl ?_
    refine v_callV h (As := [.int (nI y), .int (nI n)]) (rest := []) (c_X10_scoreBy (σ := b_up τ 1 ((14 + 4 * d)) (nI i)) (y := y) (n := n) (N := upd A.1.1 (14 + 4 * d) (nI i)) (T := A.1.2.1) hm hmw hy hn hbt) cal_X10_scoreBy calV_X10_scoreBy m1217 ⟨rfl, rfl, Nat.le_of_ble_eq_true rfl, Nat.le_of_ble_eq_true rfl⟩ rfl hm.1.1 hm.1.2 ⟨_, _, rfl⟩ rfl (Nat.le_of_ble_eq_true rfl) dX10_mooring_76 (q := 79) rfl (kR (fun r76 σ76 h76 => ?_))
    refine v_istore h (i := 7) (ls1 := [(7, .int r76), (6, .int (nI i)), (5, .int (bmN (fun c => nI (scN (gvT A.1.2.1) (upd A.1.1 (14 + 4 * d) (nI c)) (nI y) n)) i)), (4, .int (nI (fmN (fun c => nI (scN (gvT A.1.2.1) (upd A.1.1 (14 + 4 * d) (nI c)) (nI y) n)) i))), (0, .ref (b_ad w 0)), (1, .int (nI d)), (2, .int (nI y)), (3, .int (nI n))]) dX10_mooring_79 (q := 81) rfl (Nat.le_of_ble_eq_true rfl) rfl ?_
    refine v_iload h (i := 7) dX10_mooring_81 (q := 83) rfl 0 rfl ?_
    refine v_iload h (i := 5) dX10_mooring_83 (q := 85) rfl 2 rfl ?_
    refine v_icmp_le h (t := 93) dX10_mooring_85 (by decide) (q := 88) rfl (fun c85 => ?_) (fun c85 => ?_)
    · refine v_iload h (i := 4) dX10_mooring_93 (q := 95) rfl 3 rfl ?_
      refine v_istore h (i := 4) (ls1 := [(4, .int (nI (fmN (fun c => nI (scN (gvT A.1.2.1) (upd A.1.1 (14 + 4 * d) (nI c)) (nI y) n)) i))), (7, .int r76), (6, .int (nI i)), (5, .int (bmN (fun c => nI (scN (gvT A.1.2.1) (upd A.1.1 (14 + 4 * d) (nI c)) (nI y) n)) i)), (0, .ref (b_ad w 0)), (1, .int (nI d)), (2, .int (nI y)), (3, .int (nI n))]) dX10_mooring_95 (q := 97) rfl (Nat.le_of_ble_eq_true rfl) rfl ?_
      refine v_iload h (i := 5) dX10_mooring_97 (q := 99) rfl 3 rfl ?_
      refine v_iload h (i := 7) dX10_mooring_99 (q := 101) rfl 1 rfl ?_
      refine v_max h m1001 m386 m13 m387 ⟨Nat.le_of_ble_eq_true rfl, Nat.le_of_ble_eq_true rfl⟩ dX10_mooring_101 (q := 104) rfl ?_
      refine v_istore h (i := 5) (ls1 := [(5, .int (imax (bmN (fun c => nI (scN (gvT A.1.2.1) (upd A.1.1 (14 + 4 * d) (nI c)) (nI y) n)) i) r76)), (4, .int (nI (fmN (fun c => nI (scN (gvT A.1.2.1) (upd A.1.1 (14 + 4 * d) (nI c)) (nI y) n)) i))), (7, .int r76), (6, .int (nI i)), (0, .ref (b_ad w 0)), (1, .int (nI d)), (2, .int (nI y)), (3, .int (nI n))]) dX10_mooring_104 (q := 106) rfl (Nat.le_of_ble_eq_true rfl) rfl ?_
      refine v_iinc h (p := 3) (u := nI (i + 1)) (ls1 := [(6, .int (nI (i + 1))), (5, .int (imax (bmN (fun c => nI (scN (gvT A.1.2.1) (upd A.1.1 (14 + 4 * d) (nI c)) (nI y) n)) i) r76)), (4, .int (nI (fmN (fun c => nI (scN (gvT A.1.2.1) (upd A.1.1 (14 + 4 * d) (nI c)) (nI y) n)) i))), (7, .int r76), (0, .ref (b_ad w 0)), (1, .int (nI d)), (2, .int (nI y)), (3, .int (nI n))]) dX10_mooring_106 (q := 109) rfl rfl (nI_1 i) (Nat.le_of_ble_eq_true rfl) rfl ?_
      refine v_goto h (t := 51) dX10_mooring_109 (by decide) ?_
      refine v_ls [0, 1, 2, 4, 5, 6, 7] (ls2 := [(6, .int (nI (i + 1))), (5, .int (imax (bmN (fun c => nI (scN (gvT A.1.2.1) (upd A.1.1 (14 + 4 * d) (nI c)) (nI y) n)) i) r76)), (4, .int (nI (fmN (fun c => nI (scN (gvT A.1.2.1) (upd A.1.1 (14 + 4 * d) (nI c)) (nI y) n)) i))), (0, .ref (b_ad w 0)), (1, .int (nI d)), (2, .int (nI y)), (3, .int (nI n))]) rfl ?_
      have hr : r76 = (fun c => nI (scN (gvT A.1.2.1) (upd A.1.1 (14 + 4 * d) (nI c)) (nI y) n)) i := h76.1
      have hcc := c85
      rw [hr] at hcc
      have hz := ih (m - 1) (by omega) (i + 1) (by omega) σ76 (try_s ht h76.2.1 h76.2.2)
      rw [← bm_max (f := (fun c => nI (scN (gvT A.1.2.1) (upd A.1.1 (14 + 4 * d) (nI c)) (nI y) n))) (i := i) hGn] at hz
      rw [(bm_no (f := (fun c => nI (scN (gvT A.1.2.1) (upd A.1.1 (14 + 4 * d) (nI c)) (nI y) n))) (i := i) hGn (Int32.not_lt.mpr hcc)).1] at hz
      rw [hr]
      exact hz
    · refine v_iload h (i := 6) dX10_mooring_88 (q := 90) rfl 1 rfl ?_
      refine v_goto h (t := 95) dX10_mooring_90 (by decide) ?_
      refine v_istore h (i := 4) (ls1 := [(4, .int (nI i)), (7, .int r76), (6, .int (nI i)), (5, .int (bmN (fun c => nI (scN (gvT A.1.2.1) (upd A.1.1 (14 + 4 * d) (nI c)) (nI y) n)) i)), (0, .ref (b_ad w 0)), (1, .int (nI d)), (2, .int (nI y)), (3, .int (nI n))]) dX10_mooring_95 (q := 97) rfl (Nat.le_of_ble_eq_true rfl) rfl ?_
      refine v_iload h (i := 5) dX10_mooring_97 (q := 99) rfl 3 rfl ?_
      refine v_iload h (i := 7) dX10_mooring_99 (q := 101) rfl 1 rfl ?_
      refine v_max h m1001 m386 m13 m387 ⟨Nat.le_of_ble_eq_true rfl, Nat.le_of_ble_eq_true rfl⟩ dX10_mooring_101 (q := 104) rfl ?_
      refine v_istore h (i := 5) (ls1 := [(5, .int (imax (bmN (fun c => nI (scN (gvT A.1.2.1) (upd A.1.1 (14 + 4 * d) (nI c)) (nI y) n)) i) r76)), (4, .int (nI i)), (7, .int r76), (6, .int (nI i)), (0, .ref (b_ad w 0)), (1, .int (nI d)), (2, .int (nI y)), (3, .int (nI n))]) dX10_mooring_104 (q := 106) rfl (Nat.le_of_ble_eq_true rfl) rfl ?_
      refine v_iinc h (p := 3) (u := nI (i + 1)) (ls1 := [(6, .int (nI (i + 1))), (5, .int (imax (bmN (fun c => nI (scN (gvT A.1.2.1) (upd A.1.1 (14 + 4 * d) (nI c)) (nI y) n)) i) r76)), (4, .int (nI i)), (7, .int r76), (0, .ref (b_ad w 0)), (1, .int (nI d)), (2, .int (nI y)), (3, .int (nI n))]) dX10_mooring_106 (q := 109) rfl rfl (nI_1 i) (Nat.le_of_ble_eq_true rfl) rfl ?_
      refine v_goto h (t := 51) dX10_mooring_109 (by decide) ?_
      refine v_ls [0, 1, 2, 4, 5, 6, 7] (ls2 := [(6, .int (nI (i + 1))), (5, .int (imax (bmN (fun c => nI (scN (gvT A.1.2.1) (upd A.1.1 (14 + 4 * d) (nI c)) (nI y) n)) i) r76)), (4, .int (nI i)), (0, .ref (b_ad w 0)), (1, .int (nI d)), (2, .int (nI y)), (3, .int (nI n))]) rfl ?_
      have hr : r76 = (fun c => nI (scN (gvT A.1.2.1) (upd A.1.1 (14 + 4 * d) (nI c)) (nI y) n)) i := h76.1
      have hcc := c85
      rw [hr] at hcc
      have hz := ih (m - 1) (by omega) (i + 1) (by omega) σ76 (try_s ht h76.2.1 h76.2.2)
      rw [← bm_max (f := (fun c => nI (scN (gvT A.1.2.1) (upd A.1.1 (14 + 4 * d) (nI c)) (nI y) n))) (i := i) hGn] at hz
      rw [(bm_up (f := (fun c => nI (scN (gvT A.1.2.1) (upd A.1.1 (14 + 4 * d) (nI c)) (nI y) n))) (i := i) hGn (Int32.not_le.mp hcc)).1] at hz
      rw [hr]
      exact hz
set_option maxHeartbeats 4000000 in
set_option maxRecDepth 100000 in
theorem c_X10_mooring {w : bw} {σ : bSt} {A : bA} {b cell n0 : Int32} (hm : sModel w) (hR : RQ σ A) : MV yX10_mooring cX10_mooring 8 (some .int) (rmm 7 168) w [.ref (b_ad w 0), .int b, .int cell, .int n0] σ (pM (oMooring b cell n0 A)) := by
  refine b_met (ls := [(0, .ref (b_ad w 0)), (1, .int b), (2, .int cell), (3, .int n0)]) (by decide) (Nat.le_of_ble_eq_true rfl) rfl (fun x h => ?_)
  refine v_aload_n h (i := 0) dX10_mooring_0 (q := 1) rfl rfl 0 rfl ?_
  refine v_iload_n h (i := 1) dX10_mooring_1 (q := 2) rfl rfl 1 rfl ?_
  refine v_bipush h (v := 7) dX10_mooring_2 (q := 4) rfl (by decide) ?_
  refine v_callV h (As := [.int b, .int 7]) (rest := []) (c_X10_is (σ := σ) (k := b) (c := 7) hm (by decide)) cal_X10_is calV_X10_is m953 ⟨rfl, rfl, Nat.le_of_ble_eq_true rfl, Nat.le_of_ble_eq_true rfl⟩ rfl hm.1.1 hm.1.2 ⟨_, _, rfl⟩ rfl (Nat.le_of_ble_eq_true rfl) dX10_mooring_4 (q := 7) rfl (kB (fun c4 => ?_) (fun c4 => ?_))
  · refine v_if_eq h (t := 24) dX10_mooring_7 (by decide) (q := 10) rfl (fun c => absurd c (by decide)) (fun _ => ?_)
    refine v_iload_n h (i := 2) dX10_mooring_10 (q := 11) rfl rfl 2 rfl ?_
    refine v_callS h (As := [.int cell]) (rest := []) (c_X10_isCell (v := cell)) cal_X10_isCell m946 m945 ⟨rfl, rfl, Nat.le_of_ble_eq_true rfl, Nat.le_of_ble_eq_true rfl⟩ rfl rfl (Nat.le_of_ble_eq_true rfl) dX10_mooring_11 (q := 14) rfl (kB (fun c11 => ?_) (fun c11 => ?_))
    · refine v_if_eq h (t := 24) dX10_mooring_14 (by decide) (q := 17) rfl (fun c => absurd c (by decide)) (fun _ => ?_)
      refine v_iload_n h (i := 3) dX10_mooring_17 (q := 18) rfl rfl 3 rfl ?_
      refine v_callS h (As := [.int n0]) (rest := []) (c_X10_isAhead (v := n0)) cal_X10_isAhead m1200 m1199 ⟨rfl, rfl, Nat.le_of_ble_eq_true rfl, Nat.le_of_ble_eq_true rfl⟩ rfl rfl (Nat.le_of_ble_eq_true rfl) dX10_mooring_18 (q := 21) rfl (kB (fun c18 => ?_) (fun c18 => ?_))
      · refine v_if_ne h (t := 31) dX10_mooring_21 (by decide) (q := 24) rfl (fun _ => ?_) (fun c => absurd c (by decide))
        obtain ⟨d, hd, rfl⟩ := inN_nI (hR.isb.mp c4)
        have hb9 : d < 9 := by have := hR.af.2; omega
        obtain ⟨y, hy, rfl⟩ := cell_w c11
        obtain ⟨n, hn, rfl⟩ := wi_0 (n := 128) c18 rfl
        skip
        refine v_aload_n h (i := 0) dX10_mooring_31 (q := 32) rfl rfl 0 rfl ?_
        refine v_get h (k := 0) (v := .ref (b_ad w 1)) cls10 hm.1.1 hm.1.2 (Nat.le_of_ble_eq_true rfl) m849 rfl dX10_mooring_32 (q := 35) rfl ?_
        refine v_aload_n h (i := 0) dX10_mooring_35 (q := 36) rfl rfl 0 rfl ?_
        refine v_get h (k := 2) (v := .ref (b_ad w 3)) cls10 hm.1.1 hm.1.2 (Nat.le_of_ble_eq_true rfl) m851 rfl dX10_mooring_36 (q := 39) rfl ?_
        refine v_callS h (As := [.ref (b_ad w 1), .ref (b_ad w 3)]) (rest := []) (c_X10_copy (σ := σ) (a := 1) (b := 3) hm.2.1 hm.2.2.2.1 (by decide)) cal_X10_copy m1203 m1202 ⟨rfl, rfl, Nat.le_of_ble_eq_true rfl, Nat.le_of_ble_eq_true rfl⟩ rfl rfl (Nat.le_of_ble_eq_true rfl) dX10_mooring_39 (q := 42) rfl (kU ?_)
        refine v_iconst h (v := 0) dX10_mooring_42 (q := 43) rfl (by decide) ?_
        refine v_istore h (i := 4) (ls1 := [(4, .int 0), (0, .ref (b_ad w 0)), (1, .int (nI d)), (2, .int (nI y)), (3, .int (nI n))]) dX10_mooring_43 (q := 45) rfl (Nat.le_of_ble_eq_true rfl) rfl ?_
        refine v_iconst h (v := -1) dX10_mooring_45 (q := 46) rfl (by decide) ?_
        refine v_istore h (i := 5) (ls1 := [(5, .int (-1)), (4, .int 0), (0, .ref (b_ad w 0)), (1, .int (nI d)), (2, .int (nI y)), (3, .int (nI n))]) dX10_mooring_46 (q := 48) rfl (Nat.le_of_ble_eq_true rfl) rfl ?_
        refine v_iconst h (v := 0) dX10_mooring_48 (q := 49) rfl (by decide) ?_
        refine v_istore h (i := 6) (ls1 := [(6, .int 0), (5, .int (-1)), (4, .int 0), (0, .ref (b_ad w 0)), (1, .int (nI d)), (2, .int (nI y)), (3, .int (nI n))]) dX10_mooring_49 (q := 51) rfl (Nat.le_of_ble_eq_true rfl) rfl ?_
        exact lX10_mooring_51 hm hR h d y n hd hy hn ⟨hR.isb.mp c4, c11, c18⟩ rfl rfl rfl 64 0 rfl _ (try_0 hR)
      · refine v_if_ne h (t := 31) dX10_mooring_21 (by decide) (q := 24) rfl (fun c => absurd (by decide) c) (fun _ => ?_)
        refine v_aload_n h (i := 0) dX10_mooring_24 (q := 25) rfl rfl 0 rfl ?_
        refine v_ldc h (v := -1000000001) m931 dX10_mooring_25 (q := 27) rfl ?_
        refine v_callV h (As := [.int (-1000000001)]) (rest := []) (c_X10_finding (σ := σ) (e := 1) (v := -1000000001) hm (by decide) (by decide +kernel)) cal_X10_finding calV_X10_finding m932 ⟨rfl, rfl, Nat.le_of_ble_eq_true rfl, Nat.le_of_ble_eq_true rfl⟩ rfl hm.1.1 hm.1.2 ⟨_, _, rfl⟩ rfl (Nat.le_of_ble_eq_true rfl) dX10_mooring_27 (q := 30) rfl (kI ?_)
        exact v_iret h dX10_mooring_30 (pM_of (by unfold oMooring; rw [if_neg (fun z => by first | exact c4 (hR.isb.mpr z.1) | exact c11 z.2.1 | exact c18 z.2.2), ref1]) (hR.err (by decide)))
    · refine v_if_eq h (t := 24) dX10_mooring_14 (by decide) (q := 17) rfl (fun _ => ?_) (fun c => absurd (by decide) c)
      refine v_aload_n h (i := 0) dX10_mooring_24 (q := 25) rfl rfl 0 rfl ?_
      refine v_ldc h (v := -1000000001) m931 dX10_mooring_25 (q := 27) rfl ?_
      refine v_callV h (As := [.int (-1000000001)]) (rest := []) (c_X10_finding (σ := σ) (e := 1) (v := -1000000001) hm (by decide) (by decide +kernel)) cal_X10_finding calV_X10_finding m932 ⟨rfl, rfl, Nat.le_of_ble_eq_true rfl, Nat.le_of_ble_eq_true rfl⟩ rfl hm.1.1 hm.1.2 ⟨_, _, rfl⟩ rfl (Nat.le_of_ble_eq_true rfl) dX10_mooring_27 (q := 30) rfl (kI ?_)
      exact v_iret h dX10_mooring_30 (pM_of (by unfold oMooring; rw [if_neg (fun z => by first | exact c4 (hR.isb.mpr z.1) | exact c11 z.2.1 | exact c18 z.2.2), ref1]) (hR.err (by decide)))
  · refine v_if_eq h (t := 24) dX10_mooring_7 (by decide) (q := 10) rfl (fun _ => ?_) (fun c => absurd (by decide) c)
    refine v_aload_n h (i := 0) dX10_mooring_24 (q := 25) rfl rfl 0 rfl ?_
    refine v_ldc h (v := -1000000001) m931 dX10_mooring_25 (q := 27) rfl ?_
    refine v_callV h (As := [.int (-1000000001)]) (rest := []) (c_X10_finding (σ := σ) (e := 1) (v := -1000000001) hm (by decide) (by decide +kernel)) cal_X10_finding calV_X10_finding m932 ⟨rfl, rfl, Nat.le_of_ble_eq_true rfl, Nat.le_of_ble_eq_true rfl⟩ rfl hm.1.1 hm.1.2 ⟨_, _, rfl⟩ rfl (Nat.le_of_ble_eq_true rfl) dX10_mooring_27 (q := 30) rfl (kI ?_)
    exact v_iret h dX10_mooring_30 (pM_of (by unfold oMooring; rw [if_neg (fun z => by first | exact c4 (hR.isb.mpr z.1) | exact c11 z.2.1 | exact c18 z.2.2), ref1]) (hR.err (by decide)))

set_option maxHeartbeats 4000000 in
set_option maxRecDepth 100000 in
theorem lX10_sooner_59 {w : bw} {σ : bSt} {A : bA} {b cell n0 : Int32} (hm : sModel w) (hR : RQ σ A) {x : bX} (h : Cx x w cX10_sooner RX10 9 (some .int) (rmm 7 168)) : ∀ d y n : Nat, d < afN A.1.1 → y < 64 → n ≤ 128 → inN b (afN A.1.1) ∧ wj cell 0 63 ∧ wj n0 0 128 → b = nI d → cell = nI y → n0 = nI n → ∀ m i : Nat, i + m = 32 → ∀ τ : bSt, tryM σ τ A.1.2.1 → V x w 9 (pM (oSooner b cell n0 A)) 59 [(7, .int (nI i)), (5, .int (bmN (fun c => nI (scN (gvT A.1.2.1) (upd A.1.1 (15 + 4 * d) (rotR (A.1.1 (15 + 4 * d)) (nI c))) (nI y) n)) i)), (4, .int (nI (fmN (fun c => nI (scN (gvT A.1.2.1) (upd A.1.1 (15 + 4 * d) (rotR (A.1.1 (15 + 4 * d)) (nI c))) (nI y) n)) i))), (0, .ref (b_ad w 0)), (1, .int (nI d)), (2, .int (nI y)), (3, .int (nI n)), (6, .int (A.1.1 (15 + 4 * d)))] [] τ := by
  intro d y n hd hy hn hcond ebd ecy enn
  have hb9 : d < 9 := by have := hR.af.2; omega
  refine b_ind (fun m ih => ?_)
  intro i him τ ht
  refine v_iload h (i := 7) dX10_sooner_59 (q := 61) rfl 0 rfl ?_
  refine v_bipush h (v := 32) dX10_sooner_61 (q := 63) rfl (by decide) ?_
  refine v_icmp_ge h (t := 142) dX10_sooner_63 (by decide) (q := 66) rfl (fun c63 => ?_) (fun c63 => ?_)
  · refine v_iload h (i := 4) dX10_sooner_142 (q := 144) rfl 2 rfl ?_
    exact v_iret h dX10_sooner_144 (pM_of (by subst ebd ecy enn; unfold oSooner; rw [if_pos hcond, cl_nI (n := d) (by omega), cl_nI (n := n) (by omega), show (32 : Nat) = i by have := nge (k := 32) rfl (by omega) c63; omega]) (hR.bk ht.bk ht.2.2.2))
  · have hi : i < 32 := nlt rfl (by omega) c63
    have hMI : IvB (upd A.1.1 (15 + 4 * d) (rotR (A.1.1 (15 + 4 * d)) (nI i))) := (hR.1.2.1.part hb9)
    have hGn : (0 : Int32) ≤ (fun c => nI (scN (gvT A.1.2.1) (upd A.1.1 (15 + 4 * d) (rotR (A.1.1 (15 + 4 * d)) (nI c))) (nI y) n)) i := nI_nn (by have := sc_le (g := gvT A.1.2.1) (N := upd A.1.1 (15 + 4 * d) (rotR (A.1.1 (15 + 4 * d)) (nI i))) (y := nI y) n; omega)
    refine v_aload_n h (i := 0) dX10_sooner_66 (q := 67) rfl rfl 3 rfl ?_
    refine v_get h (k := 0) (v := .ref (b_ad w 1)) cls10 hm.1.1 hm.1.2 (Nat.le_of_ble_eq_true rfl) m849 rfl dX10_sooner_67 (q := 70) rfl ?_
    refine v_bipush h (v := 12) dX10_sooner_70 (q := 72) rfl (by decide) ?_
    refine v_iconst h (v := 4) dX10_sooner_72 (q := 73) rfl (by decide) ?_
    refine v_iload_n h (i := 1) dX10_sooner_73 (q := 74) rfl rfl 4 rfl ?_
    refine v_imul h dX10_sooner_74 (q := 75) rfl ?_
    rw [show (4 * (nI d) : Int32) = nI (4 * d) from (nI_mulN 4 _)]
    refine v_iadd h dX10_sooner_75 (q := 76) rfl ?_
    rw [show (12 + (nI (4 * d)) : Int32) = nI (12 + 4 * d) from (nI_add 12 _)]
    refine v_iconst h (v := 3) dX10_sooner_76 (q := 77) rfl (by decide) ?_
    refine v_iadd h dX10_sooner_77 (q := 78) rfl ?_
    rw [show ((nI (12 + 4 * d)) + 3 : Int32) = nI (15 + 4 * d) from (by rw [show (3 : Int32) = nI 3 from rfl, nI_add, show 12 + 4 * d + 3 = 15 + 4 * d by omega])]
    refine v_iload h (i := 7) dX10_sooner_78 (q := 80) rfl 0 rfl ?_
    refine v_if_ne h (t := 88) dX10_sooner_80 (by decide) (q := 83) rfl (fun c80 => ?_) (fun c80 => ?_)
    · refine v_iload h (i := 6) dX10_sooner_88 (q := 90) rfl 7 rfl ?_
      refine v_iload h (i := 7) dX10_sooner_90 (q := 92) rfl 0 rfl ?_
      refine v_iushr h (v := ushr (A.1.1 (15 + 4 * d)) (nI i)) dX10_sooner_92 (q := 93) rfl rfl ?_
      refine v_iload h (i := 6) dX10_sooner_93 (q := 95) rfl 7 rfl ?_
      refine v_bipush h (v := 32) dX10_sooner_95 (q := 97) rfl (by decide) ?_
      refine v_iload h (i := 7) dX10_sooner_97 (q := 99) rfl 0 rfl ?_
      refine v_isub h dX10_sooner_99 (q := 100) rfl ?_
      refine v_ishl h dX10_sooner_100 (q := 101) rfl ?_
      refine v_ior h dX10_sooner_101 (q := 102) rfl ?_
      rw [show ((ushr (A.1.1 (15 + 4 * d)) (nI i)) ||| ((A.1.1 (15 + 4 * d)) <<< ((32 - (nI i)) &&& 31)) : Int32) = rotR (A.1.1 (15 + 4 * d)) (nI i) from (rot_k _ hi (fun z => c80 (by rw [z]; rfl)))]
      refine v_iast h (k := (15 + 4 * d)) hm.2.1.1 hm.2.1.2 (vp_in_nI (by omega) (by decide)) (nI_clamp (by omega)) dX10_sooner_102 (q := 103) rfl ?_
      have hmw : MW (b_up τ 1 ((15 + 4 * d)) (rotR (A.1.1 (15 + 4 * d)) (nI i))) (upd A.1.1 (15 + 4 * d) (rotR (A.1.1 (15 + 4 * d)) (nI i))) A.1.2.1 := (try_mw hR ht).up (by omega) hMI.1
      have hbt := bt128 hMI
      refine v_aload_n h (i := 0) dX10_sooner_103 (q := 104) rfl rfl 3 rfl ?_
      refine v_iload_n h (i := 2) dX10_sooner_104 (q := 105) rfl rfl 5 rfl ?_
      refine v_iload_n h (i := 3) dX10_sooner_105 (q := 106) rfl rfl 6 rfl ?_
      refine v_callV h (As := [.int (nI y), .int (nI n)]) (rest := []) (c_X10_scoreBy (σ := b_up τ 1 ((15 + 4 * d)) (rotR (A.1.1 (15 + 4 * d)) (nI i))) (y := y) (n := n) (N := upd A.1.1 (15 + 4 * d) (rotR (A.1.1 (15 + 4 * d)) (nI i))) (T := A.1.2.1) hm hmw hy hn hbt) cal_X10_scoreBy calV_X10_scoreBy m1217 ⟨rfl, rfl, Nat.le_of_ble_eq_true rfl, Nat.le_of_ble_eq_true rfl⟩ rfl hm.1.1 hm.1.2 ⟨_, _, rfl⟩ rfl (Nat.le_of_ble_eq_true rfl) dX10_sooner_106 (q := 109) rfl (kR (fun r106 σ106 h106 => ?_))
      refine v_istore h (i := 8) (ls1 := [(8, .int r106), (7, .int (nI i)), (5, .int (bmN (fun c => nI (scN (gvT A.1.2.1) (upd A.1.1 (15 + 4 * d) (rotR (A.1.1 (15 + 4 * d)) (nI c))) (nI y) n)) i)), (4, .int (nI (fmN (fun c => nI (scN (gvT A.1.2.1) (upd A.1.1 (15 + 4 * d) (rotR (A.1.1 (15 + 4 * d)) (nI c))) (nI y) n)) i))), (0, .ref (b_ad w 0)), (1, .int (nI d)), (2, .int (nI y)), (3, .int (nI n)), (6, .int (A.1.1 (15 + 4 * d)))]) dX10_sooner_109 (q := 111) rfl (Nat.le_of_ble_eq_true rfl) rfl ?_
      refine v_iload h (i := 8) dX10_sooner_111 (q := 113) rfl 0 rfl ?_
      refine v_iload h (i := 5) dX10_sooner_113 (q := 115) rfl 2 rfl ?_
      refine v_icmp_le h (t := 123) dX10_sooner_115 (by decide) (q := 118) rfl (fun c115 => ?_) (fun c115 => ?_)
      · refine v_iload h (i := 4) dX10_sooner_123 (q := 125) rfl 3 rfl ?_
        refine v_istore h (i := 4) (ls1 := [(4, .int (nI (fmN (fun c => nI (scN (gvT A.1.2.1) (upd A.1.1 (15 + 4 * d) (rotR (A.1.1 (15 + 4 * d)) (nI c))) (nI y) n)) i))), (8, .int r106), (7, .int (nI i)), (5, .int (bmN (fun c => nI (scN (gvT A.1.2.1) (upd A.1.1 (15 + 4 * d) (rotR (A.1.1 (15 + 4 * d)) (nI c))) (nI y) n)) i)), (0, .ref (b_ad w 0)), (1, .int (nI d)), (2, .int (nI y)), (3, .int (nI n)), (6, .int (A.1.1 (15 + 4 * d)))]) dX10_sooner_125 (q := 127) rfl (Nat.le_of_ble_eq_true rfl) rfl ?_
        refine v_iload h (i := 5) dX10_sooner_127 (q := 129) rfl 3 rfl ?_
        refine v_iload h (i := 8) dX10_sooner_129 (q := 131) rfl 1 rfl ?_
        refine v_max h m1001 m386 m13 m387 ⟨Nat.le_of_ble_eq_true rfl, Nat.le_of_ble_eq_true rfl⟩ dX10_sooner_131 (q := 134) rfl ?_
        refine v_istore h (i := 5) (ls1 := [(5, .int (imax (bmN (fun c => nI (scN (gvT A.1.2.1) (upd A.1.1 (15 + 4 * d) (rotR (A.1.1 (15 + 4 * d)) (nI c))) (nI y) n)) i) r106)), (4, .int (nI (fmN (fun c => nI (scN (gvT A.1.2.1) (upd A.1.1 (15 + 4 * d) (rotR (A.1.1 (15 + 4 * d)) (nI c))) (nI y) n)) i))), (8, .int r106), (7, .int (nI i)), (0, .ref (b_ad w 0)), (1, .int (nI d)), (2, .int (nI y)), (3, .int (nI n)), (6, .int (A.1.1 (15 + 4 * d)))]) dX10_sooner_134 (q := 136) rfl (Nat.le_of_ble_eq_true rfl) rfl ?_
        refine v_iinc h (p := 3) (u := nI (i + 1)) (ls1 := [(7, .int (nI (i + 1))), (5, .int (imax (bmN (fun c => nI (scN (gvT A.1.2.1) (upd A.1.1 (15 + 4 * d) (rotR (A.1.1 (15 + 4 * d)) (nI c))) (nI y) n)) i) r106)), (4, .int (nI (fmN (fun c => nI (scN (gvT A.1.2.1) (upd A.1.1 (15 + 4 * d) (rotR (A.1.1 (15 + 4 * d)) (nI c))) (nI y) n)) i))), (8, .int r106), (0, .ref (b_ad w 0)), (1, .int (nI d)), (2, .int (nI y)), (3, .int (nI n)), (6, .int (A.1.1 (15 + 4 * d)))]) dX10_sooner_136 (q := 139) rfl rfl (nI_1 i) (Nat.le_of_ble_eq_true rfl) rfl ?_
        refine v_goto h (t := 59) dX10_sooner_139 (by decide) ?_
        refine v_ls [0, 1, 2, 4, 5, 6, 7, 8] (ls2 := [(7, .int (nI (i + 1))), (5, .int (imax (bmN (fun c => nI (scN (gvT A.1.2.1) (upd A.1.1 (15 + 4 * d) (rotR (A.1.1 (15 + 4 * d)) (nI c))) (nI y) n)) i) r106)), (4, .int (nI (fmN (fun c => nI (scN (gvT A.1.2.1) (upd A.1.1 (15 + 4 * d) (rotR (A.1.1 (15 + 4 * d)) (nI c))) (nI y) n)) i))), (0, .ref (b_ad w 0)), (1, .int (nI d)), (2, .int (nI y)), (3, .int (nI n)), (6, .int (A.1.1 (15 + 4 * d)))]) rfl ?_
        have hr : r106 = (fun c => nI (scN (gvT A.1.2.1) (upd A.1.1 (15 + 4 * d) (rotR (A.1.1 (15 + 4 * d)) (nI c))) (nI y) n)) i := h106.1
        have hcc := c115
        rw [hr] at hcc
        have hz := ih (m - 1) (by omega) (i + 1) (by omega) σ106 (try_s ht h106.2.1 h106.2.2)
        rw [← bm_max (f := (fun c => nI (scN (gvT A.1.2.1) (upd A.1.1 (15 + 4 * d) (rotR (A.1.1 (15 + 4 * d)) (nI c))) (nI y) n))) (i := i) hGn] at hz
        rw [(bm_no (f := (fun c => nI (scN (gvT A.1.2.1) (upd A.1.1 (15 + 4 * d) (rotR (A.1.1 (15 + 4 * d)) (nI c))) (nI y) n))) (i := i) hGn (Int32.not_lt.mpr hcc)).1] at hz
        rw [hr]
        exact hz
      · refine v_iload h (i := 7) dX10_sooner_118 (q := 120) rfl 1 rfl ?_
        refine v_goto h (t := 125) dX10_sooner_120 (by decide) ?_
        refine v_istore h (i := 4) (ls1 := [(4, .int (nI i)), (8, .int r106), (7, .int (nI i)), (5, .int (bmN (fun c => nI (scN (gvT A.1.2.1) (upd A.1.1 (15 + 4 * d) (rotR (A.1.1 (15 + 4 * d)) (nI c))) (nI y) n)) i)), (0, .ref (b_ad w 0)), (1, .int (nI d)), (2, .int (nI y)), (3, .int (nI n)), (6, .int (A.1.1 (15 + 4 * d)))]) dX10_sooner_125 (q := 127) rfl (Nat.le_of_ble_eq_true rfl) rfl ?_
        refine v_iload h (i := 5) dX10_sooner_127 (q := 129) rfl 3 rfl ?_
        refine v_iload h (i := 8) dX10_sooner_129 (q := 131) rfl 1 rfl ?_
        refine v_max h m1001 m386 m13 m387 ⟨Nat.le_of_ble_eq_true rfl, Nat.le_of_ble_eq_true rfl⟩ dX10_sooner_131 (q := 134) rfl ?_
        refine v_istore h (i := 5) (ls1 := [(5, .int (imax (bmN (fun c => nI (scN (gvT A.1.2.1) (upd A.1.1 (15 + 4 * d) (rotR (A.1.1 (15 + 4 * d)) (nI c))) (nI y) n)) i) r106)), (4, .int (nI i)), (8, .int r106), (7, .int (nI i)), (0, .ref (b_ad w 0)), (1, .int (nI d)), (2, .int (nI y)), (3, .int (nI n)), (6, .int (A.1.1 (15 + 4 * d)))]) dX10_sooner_134 (q := 136) rfl (Nat.le_of_ble_eq_true rfl) rfl ?_
        refine v_iinc h (p := 3) (u := nI (i + 1)) (ls1 := [(7, .int (nI (i + 1))), (5, .int (imax (bmN (fun c => nI (scN (gvT A.1.2.1) (upd A.1.1 (15 + 4 * d) (rotR (A.1.1 (15 + 4 * d)) (nI c))) (nI y) n)) i) r106)), (4, .int (nI i)), (8, .int r106), (0, .ref (b_ad w 0)), (1, .int (nI d)), (2, .int (nI y)), (3, .int (nI n)), (6, .int (A.1.1 (15 + 4 * d)))]) dX10_sooner_136 (q := 139) rfl rfl (nI_1 i) (Nat.le_of_ble_eq_true rfl) rfl ?_
        refine v_goto h (t := 59) dX10_sooner_139 (by decide) ?_
        refine v_ls [0, 1, 2, 4, 5, 6, 7, 8] (ls2 := [(7, .int (nI (i + 1))), (5, .int (imax (bmN (fun c => nI (scN (gvT A.1.2.1) (upd A.1.1 (15 + 4 * d) (rotR (A.1.1 (15 + 4 * d)) (nI c))) (nI y) n)) i) r106)), (4, .int (nI i)), (0, .ref (b_ad w 0)), (1, .int (nI d)), (2, .int (nI y)), (3, .int (nI n)), (6, .int (A.1.1 (15 + 4 * d)))]) rfl ?_
        have hr : r106 = (fun c => nI (scN (gvT A.1.2.1) (upd A.1.1 (15 + 4 * d) (rotR (A.1.1 (15 + 4 * d)) (nI c))) (nI y) n)) i := h106.1
        have hcc := c115
        rw [hr] at hcc
        have hz := ih (m - 1) (by omega) (i + 1) (by omega) σ106 (try_s ht h106.2.1 h106.2.2)
        rw [← bm_max (f := (fun c => nI (scN (gvT A.1.2.1) (upd A.1.1 (15 + 4 * d) (rotR (A.1.1 (15 + 4 * d)) (nI c))) (nI y) n))) (i := i) hGn] at hz
        rw [(bm_up (f := (fun c => nI (scN (gvT A.1.2.1) (upd A.1.1 (15 + 4 * d) (rotR (A.1.1 (15 + 4 * d)) (nI c))) (nI y) n))) (i := i) hGn (Int32.not_le.mp hcc)).1] at hz
        rw [hr]
        exact hz
    · refine v_iload h (i := 6) dX10_sooner_83 (q := 85) rfl 7 rfl ?_
      refine v_goto h (t := 102) dX10_sooner_85 (by decide) ?_
      refine v_iast h (k := (15 + 4 * d)) hm.2.1.1 hm.2.1.2 (vp_in_nI (by omega) (by decide)) (nI_clamp (by omega)) dX10_sooner_102 (q := 103) rfl ?_
      have hv0 : rotR (A.1.1 (15 + 4 * d)) (nI i) = A.1.1 (15 + 4 * d) := by rw [show nI i = nI 0 from c80]; exact rot_0 _
      have hmw : MW (b_up τ 1 ((15 + 4 * d)) (A.1.1 (15 + 4 * d))) (upd A.1.1 (15 + 4 * d) (rotR (A.1.1 (15 + 4 * d)) (nI i))) A.1.2.1 := ((try_mw hR ht).up (k := 15 + 4 * d) (v := A.1.1 (15 + 4 * d)) (by omega) (by rw [upd_same rfl]; exact hR.1.2.1.1)).eqN (by rw [hv0])
      have hbt := bt128 hMI
      refine v_aload_n h (i := 0) dX10_sooner_103 (q := 104) rfl rfl 3 rfl ?_
      refine v_iload_n h (i := 2) dX10_sooner_104 (q := 105) rfl rfl 5 rfl ?_
      refine v_iload_n h (i := 3) dX10_sooner_105 (q := 106) rfl rfl 6 rfl ?_
      refine v_callV h (As := [.int (nI y), .int (nI n)]) (rest := []) (c_X10_scoreBy (σ := b_up τ 1 ((15 + 4 * d)) (A.1.1 (15 + 4 * d))) (y := y) (n := n) (N := upd A.1.1 (15 + 4 * d) (rotR (A.1.1 (15 + 4 * d)) (nI i))) (T := A.1.2.1) hm hmw hy hn hbt) cal_X10_scoreBy calV_X10_scoreBy m1217 ⟨rfl, rfl, Nat.le_of_ble_eq_true rfl, Nat.le_of_ble_eq_true rfl⟩ rfl hm.1.1 hm.1.2 ⟨_, _, rfl⟩ rfl (Nat.le_of_ble_eq_true rfl) dX10_sooner_106 (q := 109) rfl (kR (fun r106_1 σ106_1 h106_1 => ?_))
      refine v_istore h (i := 8) (ls1 := [(8, .int r106_1), (7, .int (nI i)), (5, .int (bmN (fun c => nI (scN (gvT A.1.2.1) (upd A.1.1 (15 + 4 * d) (rotR (A.1.1 (15 + 4 * d)) (nI c))) (nI y) n)) i)), (4, .int (nI (fmN (fun c => nI (scN (gvT A.1.2.1) (upd A.1.1 (15 + 4 * d) (rotR (A.1.1 (15 + 4 * d)) (nI c))) (nI y) n)) i))), (0, .ref (b_ad w 0)), (1, .int (nI d)), (2, .int (nI y)), (3, .int (nI n)), (6, .int (A.1.1 (15 + 4 * d)))]) dX10_sooner_109 (q := 111) rfl (Nat.le_of_ble_eq_true rfl) rfl ?_
      refine v_iload h (i := 8) dX10_sooner_111 (q := 113) rfl 0 rfl ?_
      refine v_iload h (i := 5) dX10_sooner_113 (q := 115) rfl 2 rfl ?_
      refine v_icmp_le h (t := 123) dX10_sooner_115 (by decide) (q := 118) rfl (fun c115_1 => ?_) (fun c115_1 => ?_)
      · refine v_iload h (i := 4) dX10_sooner_123 (q := 125) rfl 3 rfl ?_
        refine v_istore h (i := 4) (ls1 := [(4, .int (nI (fmN (fun c => nI (scN (gvT A.1.2.1) (upd A.1.1 (15 + 4 * d) (rotR (A.1.1 (15 + 4 * d)) (nI c))) (nI y) n)) i))), (8, .int r106_1), (7, .int (nI i)), (5, .int (bmN (fun c => nI (scN (gvT A.1.2.1) (upd A.1.1 (15 + 4 * d) (rotR (A.1.1 (15 + 4 * d)) (nI c))) (nI y) n)) i)), (0, .ref (b_ad w 0)), (1, .int (nI d)), (2, .int (nI y)), (3, .int (nI n)), (6, .int (A.1.1 (15 + 4 * d)))]) dX10_sooner_125 (q := 127) rfl (Nat.le_of_ble_eq_true rfl) rfl ?_
        refine v_iload h (i := 5) dX10_sooner_127 (q := 129) rfl 3 rfl ?_
        refine v_iload h (i := 8) dX10_sooner_129 (q := 131) rfl 1 rfl ?_
        refine v_max h m1001 m386 m13 m387 ⟨Nat.le_of_ble_eq_true rfl, Nat.le_of_ble_eq_true rfl⟩ dX10_sooner_131 (q := 134) rfl ?_
        refine v_istore h (i := 5) (ls1 := [(5, .int (imax (bmN (fun c => nI (scN (gvT A.1.2.1) (upd A.1.1 (15 + 4 * d) (rotR (A.1.1 (15 + 4 * d)) (nI c))) (nI y) n)) i) r106_1)), (4, .int (nI (fmN (fun c => nI (scN (gvT A.1.2.1) (upd A.1.1 (15 + 4 * d) (rotR (A.1.1 (15 + 4 * d)) (nI c))) (nI y) n)) i))), (8, .int r106_1), (7, .int (nI i)), (0, .ref (b_ad w 0)), (1, .int (nI d)), (2, .int (nI y)), (3, .int (nI n)), (6, .int (A.1.1 (15 + 4 * d)))]) dX10_sooner_134 (q := 136) rfl (Nat.le_of_ble_eq_true rfl) rfl ?_
        refine v_iinc h (p := 3) (u := nI (i + 1)) (ls1 := [(7, .int (nI (i + 1))), (5, .int (imax (bmN (fun c => nI (scN (gvT A.1.2.1) (upd A.1.1 (15 + 4 * d) (rotR (A.1.1 (15 + 4 * d)) (nI c))) (nI y) n)) i) r106_1)), (4, .int (nI (fmN (fun c => nI (scN (gvT A.1.2.1) (upd A.1.1 (15 + 4 * d) (rotR (A.1.1 (15 + 4 * d)) (nI c))) (nI y) n)) i))), (8, .int r106_1), (0, .ref (b_ad w 0)), (1, .int (nI d)), (2, .int (nI y)), (3, .int (nI n)), (6, .int (A.1.1 (15 + 4 * d)))]) dX10_sooner_136 (q := 139) rfl rfl (nI_1 i) (Nat.le_of_ble_eq_true rfl) rfl ?_
        refine v_goto h (t := 59) dX10_sooner_139 (by decide) ?_
        refine v_ls [0, 1, 2, 4, 5, 6, 7, 8] (ls2 := [(7, .int (nI (i + 1))), (5, .int (imax (bmN (fun c => nI (scN (gvT A.1.2.1) (upd A.1.1 (15 + 4 * d) (rotR (A.1.1 (15 + 4 * d)) (nI c))) (nI y) n)) i) r106_1)), (4, .int (nI (fmN (fun c => nI (scN (gvT A.1.2.1) (upd A.1.1 (15 + 4 * d) (rotR (A.1.1 (15 + 4 * d)) (nI c))) (nI y) n)) i))), (0, .ref (b_ad w 0)), (1, .int (nI d)), (2, .int (nI y)), (3, .int (nI n)), (6, .int (A.1.1 (15 + 4 * d)))]) rfl ?_
        have hr : r106_1 = (fun c => nI (scN (gvT A.1.2.1) (upd A.1.1 (15 + 4 * d) (rotR (A.1.1 (15 + 4 * d)) (nI c))) (nI y) n)) i := h106_1.1
        have hcc := c115_1
        rw [hr] at hcc
        have hz := ih (m - 1) (by omega) (i + 1) (by omega) σ106_1 (try_s ht h106_1.2.1 h106_1.2.2)
        rw [← bm_max (f := (fun c => nI (scN (gvT A.1.2.1) (upd A.1.1 (15 + 4 * d) (rotR (A.1.1 (15 + 4 * d)) (nI c))) (nI y) n))) (i := i) hGn] at hz
        rw [(bm_no (f := (fun c => nI (scN (gvT A.1.2.1) (upd A.1.1 (15 + 4 * d) (rotR (A.1.1 (15 + 4 * d)) (nI c))) (nI y) n))) (i := i) hGn (Int32.not_lt.mpr hcc)).1] at hz
        rw [hr]
        exact hz
      · refine v_iload h (i := 7) dX10_sooner_118 (q := 120) rfl 1 rfl ?_
        refine v_goto h (t := 125) dX10_sooner_120 (by decide) ?_
        refine v_istore h (i := 4) (ls1 := [(4, .int (nI i)), (8, .int r106_1), (7, .int (nI i)), (5, .int (bmN (fun c => nI (scN (gvT A.1.2.1) (upd A.1.1 (15 + 4 * d) (rotR (A.1.1 (15 + 4 * d)) (nI c))) (nI y) n)) i)), (0, .ref (b_ad w 0)), (1, .int (nI d)), (2, .int (nI y)), (3, .int (nI n)), (6, .int (A.1.1 (15 + 4 * d)))]) dX10_sooner_125 (q := 127) rfl (Nat.le_of_ble_eq_true rfl) rfl ?_
        refine v_iload h (i := 5) dX10_sooner_127 (q := 129) rfl 3 rfl ?_
        refine v_iload h (i := 8) dX10_sooner_129 (q := 131) rfl 1 rfl ?_
        refine v_max h m1001 m386 m13 m387 ⟨Nat.le_of_ble_eq_true rfl, Nat.le_of_ble_eq_true rfl⟩ dX10_sooner_131 (q := 134) rfl ?_
        refine v_istore h (i := 5) (ls1 := [(5, .int (imax (bmN (fun c => nI (scN (gvT A.1.2.1) (upd A.1.1 (15 + 4 * d) (rotR (A.1.1 (15 + 4 * d)) (nI c))) (nI y) n)) i) r106_1)), (4, .int (nI i)), (8, .int r106_1), (7, .int (nI i)), (0, .ref (b_ad w 0)), (1, .int (nI d)), (2, .int (nI y)), (3, .int (nI n)), (6, .int (A.1.1 (15 + 4 * d)))]) dX10_sooner_134 (q := 136) rfl (Nat.le_of_ble_eq_true rfl) rfl ?_
        refine v_iinc h (p := 3) (u := nI (i + 1)) (ls1 := [(7, .int (nI (i + 1))), (5, .int (imax (bmN (fun c => nI (scN (gvT A.1.2.1) (upd A.1.1 (15 + 4 * d) (rotR (A.1.1 (15 + 4 * d)) (nI c))) (nI y) n)) i) r106_1)), (4, .int (nI i)), (8, .int r106_1), (0, .ref (b_ad w 0)), (1, .int (nI d)), (2, .int (nI y)), (3, .int (nI n)), (6, .int (A.1.1 (15 + 4 * d)))]) dX10_sooner_136 (q := 139) rfl rfl (nI_1 i) (Nat.le_of_ble_eq_true rfl) rfl ?_
        refine v_goto h (t := 59) dX10_sooner_139 (by decide) ?_
        refine v_ls [0, 1, 2, 4, 5, 6, 7, 8] (ls2 := [(7, .int (nI (i + 1))), (5, .int (imax (bmN (fun c => nI (scN (gvT A.1.2.1) (upd A.1.1 (15 + 4 * d) (rotR (A.1.1 (15 + 4 * d)) (nI c))) (nI y) n)) i) r106_1)), (4, .int (nI i)), (0, .ref (b_ad w 0)), (1, .int (nI d)), (2, .int (nI y)), (3, .int (nI n)), (6, .int (A.1.1 (15 + 4 * d)))]) rfl ?_
        have hr : r106_1 = (fun c => nI (scN (gvT A.1.2.1) (upd A.1.1 (15 + 4 * d) (rotR (A.1.1 (15 + 4 * d)) (nI c))) (nI y) n)) i := h106_1.1
        have hcc := c115_1
        rw [hr] at hcc
        have hz := ih (m - 1) (by omega) (i + 1) (by omega) σ106_1 (try_s ht h106_1.2.1 h106_1.2.2)
        rw [← bm_max (f := (fun c => nI (scN (gvT A.1.2.1) (upd A.1.1 (15 + 4 * d) (rotR (A.1.1 (15 + 4 * d)) (nI c))) (nI y) n))) (i := i) hGn] at hz
        rw [(bm_up (f := (fun c => nI (scN (gvT A.1.2.1) (upd A.1.1 (15 + 4 * d) (rotR (A.1.1 (15 + 4 * d)) (nI c))) (nI y) n))) (i := i) hGn (Int32.not_le.mp hcc)).1] at hz
        rw [hr]
        exact hz
set_option maxHeartbeats 4000000 in
set_option maxRecDepth 100000 in
theorem c_X10_sooner {w : bw} {σ : bSt} {A : bA} {b cell n0 : Int32} (hm : sModel w) (hR : RQ σ A) : MV yX10_sooner cX10_sooner 9 (some .int) (rmm 7 168) w [.ref (b_ad w 0), .int b, .int cell, .int n0] σ (pM (oSooner b cell n0 A)) := by
  refine b_met (ls := [(0, .ref (b_ad w 0)), (1, .int b), (2, .int cell), (3, .int n0)]) (by decide) (Nat.le_of_ble_eq_true rfl) rfl (fun x h => ?_)
  refine v_aload_n h (i := 0) dX10_sooner_0 (q := 1) rfl rfl 0 rfl ?_
  refine v_iload_n h (i := 1) dX10_sooner_1 (q := 2) rfl rfl 1 rfl ?_
  refine v_bipush h (v := 7) dX10_sooner_2 (q := 4) rfl (by decide) ?_
  refine v_callV h (As := [.int b, .int 7]) (rest := []) (c_X10_is (σ := σ) (k := b) (c := 7) hm (by decide)) cal_X10_is calV_X10_is m953 ⟨rfl, rfl, Nat.le_of_ble_eq_true rfl, Nat.le_of_ble_eq_true rfl⟩ rfl hm.1.1 hm.1.2 ⟨_, _, rfl⟩ rfl (Nat.le_of_ble_eq_true rfl) dX10_sooner_4 (q := 7) rfl (kB (fun c4 => ?_) (fun c4 => ?_))
  · refine v_if_eq h (t := 24) dX10_sooner_7 (by decide) (q := 10) rfl (fun c => absurd c (by decide)) (fun _ => ?_)
    refine v_iload_n h (i := 2) dX10_sooner_10 (q := 11) rfl rfl 2 rfl ?_
    refine v_callS h (As := [.int cell]) (rest := []) (c_X10_isCell (v := cell)) cal_X10_isCell m946 m945 ⟨rfl, rfl, Nat.le_of_ble_eq_true rfl, Nat.le_of_ble_eq_true rfl⟩ rfl rfl (Nat.le_of_ble_eq_true rfl) dX10_sooner_11 (q := 14) rfl (kB (fun c11 => ?_) (fun c11 => ?_))
    · refine v_if_eq h (t := 24) dX10_sooner_14 (by decide) (q := 17) rfl (fun c => absurd c (by decide)) (fun _ => ?_)
      refine v_iload_n h (i := 3) dX10_sooner_17 (q := 18) rfl rfl 3 rfl ?_
      refine v_callS h (As := [.int n0]) (rest := []) (c_X10_isAhead (v := n0)) cal_X10_isAhead m1200 m1199 ⟨rfl, rfl, Nat.le_of_ble_eq_true rfl, Nat.le_of_ble_eq_true rfl⟩ rfl rfl (Nat.le_of_ble_eq_true rfl) dX10_sooner_18 (q := 21) rfl (kB (fun c18 => ?_) (fun c18 => ?_))
      · refine v_if_ne h (t := 31) dX10_sooner_21 (by decide) (q := 24) rfl (fun _ => ?_) (fun c => absurd c (by decide))
        obtain ⟨d, hd, rfl⟩ := inN_nI (hR.isb.mp c4)
        have hb9 : d < 9 := by have := hR.af.2; omega
        obtain ⟨y, hy, rfl⟩ := cell_w c11
        obtain ⟨n, hn, rfl⟩ := wi_0 (n := 128) c18 rfl
        skip
        refine v_aload_n h (i := 0) dX10_sooner_31 (q := 32) rfl rfl 0 rfl ?_
        refine v_get h (k := 0) (v := .ref (b_ad w 1)) cls10 hm.1.1 hm.1.2 (Nat.le_of_ble_eq_true rfl) m849 rfl dX10_sooner_32 (q := 35) rfl ?_
        refine v_aload_n h (i := 0) dX10_sooner_35 (q := 36) rfl rfl 0 rfl ?_
        refine v_get h (k := 2) (v := .ref (b_ad w 3)) cls10 hm.1.1 hm.1.2 (Nat.le_of_ble_eq_true rfl) m851 rfl dX10_sooner_36 (q := 39) rfl ?_
        refine v_callS h (As := [.ref (b_ad w 1), .ref (b_ad w 3)]) (rest := []) (c_X10_copy (σ := σ) (a := 1) (b := 3) hm.2.1 hm.2.2.2.1 (by decide)) cal_X10_copy m1203 m1202 ⟨rfl, rfl, Nat.le_of_ble_eq_true rfl, Nat.le_of_ble_eq_true rfl⟩ rfl rfl (Nat.le_of_ble_eq_true rfl) dX10_sooner_39 (q := 42) rfl (kU ?_)
        refine v_iconst h (v := 0) dX10_sooner_42 (q := 43) rfl (by decide) ?_
        refine v_istore h (i := 4) (ls1 := [(4, .int 0), (0, .ref (b_ad w 0)), (1, .int (nI d)), (2, .int (nI y)), (3, .int (nI n))]) dX10_sooner_43 (q := 45) rfl (Nat.le_of_ble_eq_true rfl) rfl ?_
        refine v_iconst h (v := -1) dX10_sooner_45 (q := 46) rfl (by decide) ?_
        refine v_istore h (i := 5) (ls1 := [(5, .int (-1)), (4, .int 0), (0, .ref (b_ad w 0)), (1, .int (nI d)), (2, .int (nI y)), (3, .int (nI n))]) dX10_sooner_46 (q := 48) rfl (Nat.le_of_ble_eq_true rfl) rfl ?_
        refine v_aload_n h (i := 0) dX10_sooner_48 (q := 49) rfl rfl 2 rfl ?_
        refine v_iload_n h (i := 1) dX10_sooner_49 (q := 50) rfl rfl 3 rfl ?_
        refine v_iconst h (v := 3) dX10_sooner_50 (q := 51) rfl (by decide) ?_
        refine v_callV h (As := [.int (nI d), .int 3]) (rest := []) (c_X10_boatIs (σ := b_set σ 3 (σ 1)) (b := d) (f := 3) hm hb9 (by decide)) cal_X10_boatIs calV_X10_boatIs m961 ⟨rfl, rfl, Nat.le_of_ble_eq_true rfl, Nat.le_of_ble_eq_true rfl⟩ rfl hm.1.1 hm.1.2 ⟨_, _, rfl⟩ rfl (Nat.le_of_ble_eq_true rfl) dX10_sooner_51 (q := 54) rfl (kI ?_)
        rw [show ((b_set σ 3 (σ 1)) 1 (15 + 4 * d) : Int32) = A.1.1 (15 + 4 * d) from (by rw [b_set_n (by decide)]; exact hR.n (by omega))]
        refine v_istore h (i := 6) (ls1 := [(6, .int (A.1.1 (15 + 4 * d))), (5, .int (-1)), (4, .int 0), (0, .ref (b_ad w 0)), (1, .int (nI d)), (2, .int (nI y)), (3, .int (nI n))]) dX10_sooner_54 (q := 56) rfl (Nat.le_of_ble_eq_true rfl) rfl ?_
        refine v_iconst h (v := 0) dX10_sooner_56 (q := 57) rfl (by decide) ?_
        refine v_istore h (i := 7) (ls1 := [(7, .int 0), (6, .int (A.1.1 (15 + 4 * d))), (5, .int (-1)), (4, .int 0), (0, .ref (b_ad w 0)), (1, .int (nI d)), (2, .int (nI y)), (3, .int (nI n))]) dX10_sooner_57 (q := 59) rfl (Nat.le_of_ble_eq_true rfl) rfl ?_
        refine v_ls [0, 2, 3, 4, 5, 6, 7, 1] (ls2 := [(7, .int 0), (5, .int (-1)), (4, .int 0), (0, .ref (b_ad w 0)), (1, .int (nI d)), (2, .int (nI y)), (3, .int (nI n)), (6, .int (A.1.1 (15 + 4 * d)))]) rfl ?_
        exact lX10_sooner_59 hm hR h d y n hd hy hn ⟨hR.isb.mp c4, c11, c18⟩ rfl rfl rfl 32 0 rfl _ (try_0 hR)
      · refine v_if_ne h (t := 31) dX10_sooner_21 (by decide) (q := 24) rfl (fun c => absurd (by decide) c) (fun _ => ?_)
        refine v_aload_n h (i := 0) dX10_sooner_24 (q := 25) rfl rfl 0 rfl ?_
        refine v_ldc h (v := -1000000001) m931 dX10_sooner_25 (q := 27) rfl ?_
        refine v_callV h (As := [.int (-1000000001)]) (rest := []) (c_X10_finding (σ := σ) (e := 1) (v := -1000000001) hm (by decide) (by decide +kernel)) cal_X10_finding calV_X10_finding m932 ⟨rfl, rfl, Nat.le_of_ble_eq_true rfl, Nat.le_of_ble_eq_true rfl⟩ rfl hm.1.1 hm.1.2 ⟨_, _, rfl⟩ rfl (Nat.le_of_ble_eq_true rfl) dX10_sooner_27 (q := 30) rfl (kI ?_)
        exact v_iret h dX10_sooner_30 (pM_of (by unfold oSooner; rw [if_neg (fun z => by first | exact c4 (hR.isb.mpr z.1) | exact c11 z.2.1 | exact c18 z.2.2), ref1]) (hR.err (by decide)))
    · refine v_if_eq h (t := 24) dX10_sooner_14 (by decide) (q := 17) rfl (fun _ => ?_) (fun c => absurd (by decide) c)
      refine v_aload_n h (i := 0) dX10_sooner_24 (q := 25) rfl rfl 0 rfl ?_
      refine v_ldc h (v := -1000000001) m931 dX10_sooner_25 (q := 27) rfl ?_
      refine v_callV h (As := [.int (-1000000001)]) (rest := []) (c_X10_finding (σ := σ) (e := 1) (v := -1000000001) hm (by decide) (by decide +kernel)) cal_X10_finding calV_X10_finding m932 ⟨rfl, rfl, Nat.le_of_ble_eq_true rfl, Nat.le_of_ble_eq_true rfl⟩ rfl hm.1.1 hm.1.2 ⟨_, _, rfl⟩ rfl (Nat.le_of_ble_eq_true rfl) dX10_sooner_27 (q := 30) rfl (kI ?_)
      exact v_iret h dX10_sooner_30 (pM_of (by unfold oSooner; rw [if_neg (fun z => by first | exact c4 (hR.isb.mpr z.1) | exact c11 z.2.1 | exact c18 z.2.2), ref1]) (hR.err (by decide)))
  · refine v_if_eq h (t := 24) dX10_sooner_7 (by decide) (q := 10) rfl (fun _ => ?_) (fun c => absurd (by decide) c)
    refine v_aload_n h (i := 0) dX10_sooner_24 (q := 25) rfl rfl 0 rfl ?_
    refine v_ldc h (v := -1000000001) m931 dX10_sooner_25 (q := 27) rfl ?_
    refine v_callV h (As := [.int (-1000000001)]) (rest := []) (c_X10_finding (σ := σ) (e := 1) (v := -1000000001) hm (by decide) (by decide +kernel)) cal_X10_finding calV_X10_finding m932 ⟨rfl, rfl, Nat.le_of_ble_eq_true rfl, Nat.le_of_ble_eq_true rfl⟩ rfl hm.1.1 hm.1.2 ⟨_, _, rfl⟩ rfl (Nat.le_of_ble_eq_true rfl) dX10_sooner_27 (q := 30) rfl (kI ?_)
    exact v_iret h dX10_sooner_30 (pM_of (by unfold oSooner; rw [if_neg (fun z => by first | exact c4 (hR.isb.mpr z.1) | exact c11 z.2.1 | exact c18 z.2.2), ref1]) (hR.err (by decide)))
