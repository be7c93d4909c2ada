theorem ck_stop {g : bG} {N : bN} {wl : Nat → Int32} {l k r : Nat} (h : ¬ wl k = goN g false N (k + 1) (49 + 3 * l)) : ckN g N wl l (r + 1) k = 1 + nI k := by rw [ckN, if_neg h]
theorem ck_go {g : bG} {N : bN} {wl : Nat → Int32} {l k r : Nat} (h : wl k = goN g false N (k + 1) (49 + 3 * l)) : ckN g N wl l (r + 1) k = ckN g N wl l r (k + 1) := by rw [ckN, if_pos h]

set_option maxHeartbeats 4000000 in
set_option maxRecDepth 100000 in
theorem lX9_check_46 {w : bw} {σ : bSt} {A : bA} {l : Int32} (hs : sOpera w) (hR : RC σ A) {x : bX} (h : Cx x w cX9_check RX9 4 (some .int) (rmm 6 155)) : RC (b_up σ 19 3 0) (setWt A (0, A.1.2.2.2.2)) → ∀ y : Nat, y < 6 → inN l (liN A.1.1) → l = nI y → ∀ m i : Nat, i + m = A.1.2.2.2.1 → ∀ τ : bSt, gon false 60 (blk (b_up σ 19 3 0) 60 10 9) A.1.1 (gvT A.1.2.1) i τ → ckN (gvT A.1.2.1) A.1.1 A.1.2.2.2.2 y m i = ckN (gvT A.1.2.1) A.1.1 A.1.2.2.2.2 y A.1.2.2.2.1 0 → V x w 4 (pA (oCheck l A)) 46 [(3, .int (nI i)), (0, .ref (b_ad w 0)), (1, .int (nI y)), (2, .int (nI A.1.2.2.2.1))] [] τ := by
  intro hR1 y hy6 hin hly
  have hwt := hR.wt
  have hbt := hR.1.2.1.bt
  refine b_ind (fun m ih => ?_)
  intro i him τ hg hck
  have hiv := IvN_go (lo := false) (gvT_B A.1.2.1) hR.1.2.1.1 hbt.1 i (by omega)
  have hgv : gvS τ 1 = gvT A.1.2.1 := (gv_look hR1 hg.2.2 :)
  refine v_iload_n h (i := 3) dX9_check_46 (q := 47) rfl rfl 0 rfl ?_
  refine v_iload_n h (i := 2) dX9_check_47 (q := 48) rfl rfl 3 rfl ?_
  refine v_icmp_ge h (t := 100) dX9_check_48 (by decide) (q := 51) rfl (fun c48 => ?_) (fun c48 => ?_)
  · refine v_iconst h (v := 0) dX9_check_100 (q := 101) rfl (by decide) ?_
    exact v_iret h dX9_check_101 (pA_of (by subst hly; unfold oCheck; rw [if_pos hin, cl_nI (by omega), ← hck, show m = 0 by have := nge (k := A.1.2.2.2.1) (nI_toInt (by omega)) (by omega) c48; omega]; rfl) (hR1.look hg.2.2 scr_rfl hg.2.1))
  · have hik : i < A.1.2.2.2.1 := nlt (nI_toInt (by omega)) (by omega) c48
    refine v_iload_n h (i := 3) dX9_check_51 (q := 52) rfl rfl 0 rfl ?_
    refine v_bipush h (v := 20) dX9_check_52 (q := 54) rfl (by decide) ?_
    refine v_icmp_ge h (t := 100) dX9_check_54 (by decide) (q := 57) rfl (fun c54 => absurd c54 (nnle (k := 20) rfl (by omega) (by decide))) (fun c54 => ?_)
    refine v_aload_n h (i := 0) dX9_check_57 (q := 58) rfl rfl 1 rfl ?_
    refine v_get h (k := 11) (v := .ref (b_ad w 60)) cls9 hs.1.1 hs.1.2 (Nat.le_of_ble_eq_true rfl) m276 rfl dX9_check_58 (q := 61) rfl ?_
    refine v_aload_n h (i := 0) dX9_check_61 (q := 62) rfl rfl 1 rfl ?_
    refine v_get h (k := 0) (v := .ref (b_ad w 1)) cls9 hs.1.1 hs.1.2 (Nat.le_of_ble_eq_true rfl) m265 rfl dX9_check_62 (q := 65) rfl ?_
    refine v_iconst h (v := 0) dX9_check_65 (q := 66) rfl (by decide) ?_
    refine v_callV h (As := [.ref (b_ad w 1), .int 0]) (rest := []) (c_X6_goBy (me := 60) (L := 1) (lo := 0) (σ := τ) hs.2.2.2.2.2.2.2.2.2.2.2.2.1 hs.2.1 (ok_look hR1 hg.2.2) hg.2.1 (by rw [hg.1]; exact hiv.1) (by decide) ⟨btOf A.1.1 + i, by omega, by rw [← hiv.2, ← hg.1]; rfl⟩) cal_X6_goBy calV_X6_goBy m554 ⟨rfl, rfl, Nat.le_of_ble_eq_true rfl, Nat.le_of_ble_eq_true rfl⟩ rfl hs.2.2.2.2.2.2.2.2.2.2.2.2.1.1.1 hs.2.2.2.2.2.2.2.2.2.2.2.2.1.1.2 ⟨_, _, rfl⟩ rfl (Nat.le_of_ble_eq_true rfl) dX9_check_66 (q := 69) rfl (kV (fun σ66 h66 => ?_))
    have hg2 := gon_s hg (lv := 0) (by decide) hgv h66
    have ev1 : σ66 21 i = A.1.2.2.2.2 i := by rw [hg2.2.2 21 (by omega) (by omega) (by omega) (by omega), blk_out (by omega)]; exact hR1.wt.2.2 i (by omega)
    have ev2 : σ66 67 y = goN (gvT A.1.2.1) false A.1.1 (i + 1) (49 + 3 * y) := by rw [← hg2.1]; exact (vw_l1 hy6).symm
    refine v_aload_n h (i := 0) dX9_check_69 (q := 70) rfl rfl 1 rfl ?_
    refine v_get h (k := 2) (v := .ref (b_ad w 19)) cls9 hs.1.1 hs.1.2 (Nat.le_of_ble_eq_true rfl) m267 rfl dX9_check_70 (q := 73) rfl ?_
    refine v_getN h (k := 2) (v := .ref (b_ad w 21)) cls1 hs.2.2.2.1.1.1 hs.2.2.2.1.1.2 (Nat.le_of_ble_eq_true rfl) m156 rfl dX9_check_73 (q := 76) rfl ?_
    refine v_iload_n h (i := 3) dX9_check_76 (q := 77) rfl rfl 0 rfl ?_
    refine v_iald h (k := i) hs.2.2.2.1.2.2.1 hs.2.2.2.1.2.2.2 (vp_in_nI (by omega) (by decide)) (nI_clamp (by omega)) dX9_check_77 (q := 78) rfl ?_
    refine v_aload_n h (i := 0) dX9_check_78 (q := 79) rfl rfl 1 rfl ?_
    refine v_get h (k := 11) (v := .ref (b_ad w 60)) cls9 hs.1.1 hs.1.2 (Nat.le_of_ble_eq_true rfl) m276 rfl dX9_check_79 (q := 82) rfl ?_
    refine v_getN h (k := 6) (v := .ref (b_ad w 67)) cls6 hs.2.2.2.2.2.2.2.2.2.2.2.2.1.1.1 hs.2.2.2.2.2.2.2.2.2.2.2.2.1.1.2 (Nat.le_of_ble_eq_true rfl) m126 rfl dX9_check_82 (q := 85) rfl ?_
    refine v_iload_n h (i := 1) dX9_check_85 (q := 86) rfl rfl 2 rfl ?_
    refine v_iald h (k := y) hs.2.2.2.2.2.2.2.2.2.2.2.2.1.2.2.2.1.1 hs.2.2.2.2.2.2.2.2.2.2.2.2.1.2.2.2.1.2 (vp_in_nI hy6 (by decide)) (nI_clamp (by omega)) dX9_check_86 (q := 87) rfl ?_
    refine v_icmp_eq h (t := 94) dX9_check_87 (by decide) (q := 90) rfl (fun c87 => ?_) (fun c87 => ?_)
    · refine v_iinc h (p := 0) (u := nI (i + 1)) (ls1 := [(3, .int (nI (i + 1))), (0, .ref (b_ad w 0)), (1, .int (nI y)), (2, .int (nI A.1.2.2.2.1))]) dX9_check_94 (q := 97) rfl rfl (nI_1 i) (Nat.le_of_ble_eq_true rfl) rfl ?_
      refine v_goto h (t := 46) dX9_check_97 (by decide) ?_
      exact ih (m - 1) (by omega) (i + 1) (by omega) σ66 hg2 (by rw [← hck, show m = (m - 1) + 1 by omega, ck_go (by rw [← ev1, ← ev2]; exact c87)]; rfl)
    · refine v_iconst h (v := 1) dX9_check_90 (q := 91) rfl (by decide) ?_
      refine v_iload_n h (i := 3) dX9_check_91 (q := 92) rfl rfl 0 rfl ?_
      refine v_iadd h dX9_check_92 (q := 93) rfl ?_
      exact v_iret h dX9_check_93 (pA_of (by subst hly; unfold oCheck; rw [if_pos hin, cl_nI (by omega), ← hck, show m = (m - 1) + 1 by omega, ck_stop (by rw [← ev1, ← ev2]; exact c87)]) (hR1.look hg2.2.2 scr_rfl hg2.2.1))
set_option maxHeartbeats 4000000 in
set_option maxRecDepth 100000 in
theorem c_X9_check {w : bw} {σ : bSt} {A : bA} {l : Int32} (hs : sOpera w) (hR : RC σ A) : MV yX9_check cX9_check 4 (some .int) (rmm 6 155) w [.ref (b_ad w 0), .int l] σ (pA (oCheck l A)) := by
  refine b_met (ls := [(0, .ref (b_ad w 0)), (1, .int l)]) (by decide) (Nat.le_of_ble_eq_true rfl) rfl (fun x h => ?_)
  refine v_aload_n h (i := 0) dX9_check_0 (q := 1) rfl rfl 0 rfl ?_
  refine v_get h (k := 2) (v := .ref (b_ad w 19)) cls9 hs.1.1 hs.1.2 (Nat.le_of_ble_eq_true rfl) m267 rfl dX9_check_1 (q := 4) rfl ?_
  refine v_getN h (k := 3) (v := .int (σ 19 3)) cls1 hs.2.2.2.1.1.1 hs.2.2.2.1.1.2 (Nat.le_of_ble_eq_true rfl) m158 rfl dX9_check_4 (q := 7) rfl ?_
  rw [show (σ 19 3 : Int32) = nI A.1.2.2.2.1 from hR.wt.1]
  refine v_istore_n h (i := 2) (ls1 := [(2, .int (nI A.1.2.2.2.1)), (0, .ref (b_ad w 0)), (1, .int l)]) dX9_check_7 (q := 8) rfl rfl (Nat.le_of_ble_eq_true rfl) rfl ?_
  refine v_aload_n h (i := 0) dX9_check_8 (q := 9) rfl rfl 1 rfl ?_
  refine v_get h (k := 2) (v := .ref (b_ad w 19)) cls9 hs.1.1 hs.1.2 (Nat.le_of_ble_eq_true rfl) m267 rfl dX9_check_9 (q := 12) rfl ?_
  refine v_iconst h (v := 0) dX9_check_12 (q := 13) rfl (by decide) ?_
  refine v_putN h (k := 3) cls1 hs.2.2.2.1.1.1 hs.2.2.2.1.1.2 (Nat.le_of_ble_eq_true rfl) rfl m158 rfl ⟨rfl, rfl⟩ dX9_check_13 (q := 16) rfl ?_
  have hR1 := hR.wt0
  have hwt := hR.wt
  refine v_aload_n h (i := 0) dX9_check_16 (q := 17) rfl rfl 1 rfl ?_
  refine v_get h (k := 1) (v := .ref (b_ad w 10)) cls9 hs.1.1 hs.1.2 (Nat.le_of_ble_eq_true rfl) m266 rfl dX9_check_17 (q := 20) rfl ?_
  refine v_iload_n h (i := 1) dX9_check_20 (q := 21) rfl rfl 2 rfl ?_
  refine v_callV h (As := [.int l]) (rest := []) (c_X6_seats (me := 10) (σ := b_up σ 19 3 0) (l := l) hs.2.2.1 ) cal_X6_seats calV_X6_seats m430 ⟨rfl, rfl, Nat.le_of_ble_eq_true rfl, Nat.le_of_ble_eq_true rfl⟩ rfl hs.2.2.1.1.1 hs.2.2.1.1.2 ⟨_, _, rfl⟩ rfl (Nat.le_of_ble_eq_true rfl) dX9_check_21 (q := 24) rfl (kB (fun c21 => ?_) (fun c21 => ?_))
  · refine v_if_ne h (t := 33) dX9_check_24 (by decide) (q := 27) rfl (fun _ => ?_) (fun c => absurd c (by decide))
    obtain ⟨y, hy, rfl⟩ := inN_nI ((seat_iff hR1).mp c21)
    have hy6 : y < 6 := Nat.lt_of_lt_of_le hy hR.li.2
    refine v_aload_n h (i := 0) dX9_check_33 (q := 34) rfl rfl 1 rfl ?_
    refine v_get h (k := 11) (v := .ref (b_ad w 60)) cls9 hs.1.1 hs.1.2 (Nat.le_of_ble_eq_true rfl) m276 rfl dX9_check_34 (q := 37) rfl ?_
    refine v_aload_n h (i := 0) dX9_check_37 (q := 38) rfl rfl 1 rfl ?_
    refine v_get h (k := 1) (v := .ref (b_ad w 10)) cls9 hs.1.1 hs.1.2 (Nat.le_of_ble_eq_true rfl) m266 rfl dX9_check_38 (q := 41) rfl ?_
    refine v_callV h (As := [.ref (b_ad w 10)]) (rest := []) (c_X6_copy (me := 60) (o := 10) (σ := b_up σ 19 3 0) hs.2.2.2.2.2.2.2.2.2.2.2.2.1 hs.2.2.1 (by omega)) cal_X6_copy calV_X6_copy m624 ⟨rfl, rfl, Nat.le_of_ble_eq_true rfl, Nat.le_of_ble_eq_true rfl⟩ rfl hs.2.2.2.2.2.2.2.2.2.2.2.2.1.1.1 hs.2.2.2.2.2.2.2.2.2.2.2.2.1.1.2 ⟨_, _, rfl⟩ rfl (Nat.le_of_ble_eq_true rfl) dX9_check_41 (q := 44) rfl (kU ?_)
    refine v_iconst h (v := 0) dX9_check_44 (q := 45) rfl (by decide) ?_
    refine v_istore_n h (i := 3) (ls1 := [(3, .int 0), (2, .int (nI A.1.2.2.2.1)), (0, .ref (b_ad w 0)), (1, .int (nI y))]) dX9_check_45 (q := 46) rfl rfl (Nat.le_of_ble_eq_true rfl) rfl ?_
    refine v_ls [0, 2, 3, 1] (ls2 := [(3, .int 0), (0, .ref (b_ad w 0)), (1, .int (nI y)), (2, .int (nI A.1.2.2.2.1))]) rfl ?_
    exact lX9_check_46 hs hR h hR1 y hy6 ((seat_iff hR1).mp c21) rfl A.1.2.2.2.1 0 (by omega) _ ⟨by rw [vw_ahead]; exact hR1.vwE, ca_blk hR1.ca, offS_rfl⟩ rfl
  · refine v_if_ne h (t := 33) dX9_check_24 (by decide) (q := 27) rfl (fun c => absurd (by decide) c) (fun _ => ?_)
    refine v_aload_n h (i := 0) dX9_check_27 (q := 28) rfl rfl 1 rfl ?_
    refine v_iconst h (v := 1) dX9_check_28 (q := 29) rfl (by decide) ?_
    refine v_callV h (As := [.int 1]) (rest := []) (c_ref (σ := b_up σ 19 3 0) hs (e := 1) (by decide) rfl) cal_X9_refuse calV_X9_refuse m315 ⟨rfl, rfl, Nat.le_of_ble_eq_true rfl, Nat.le_of_ble_eq_true rfl⟩ rfl hs.1.1 hs.1.2 ⟨_, _, rfl⟩ rfl (Nat.le_of_ble_eq_true rfl) dX9_check_29 (q := 32) rfl (kI ?_)
    exact v_iret h dX9_check_32 (pA_of (by unfold oCheck; rw [if_neg (fun z => by first | exact c21 ((seat_iff hR1).mpr z))]; rfl) (hR1.err (by decide)))
