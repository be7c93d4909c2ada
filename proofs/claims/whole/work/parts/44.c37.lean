theorem bt_no0 {g : bG} {M : bN} : allN (lisN g (upd M 11 (fgN (sngN M 9) (M 11) 0).1) (fgN (sngN M 9) (M 11) 0).2 6) = btN g M false := by
  rw [bt_no, show (fgN (sngN M 9) (M 11) 0) = (M 11, sngN M 9) from rfl]
  dsimp only
  rw [upd_same rfl]

set_option maxHeartbeats 4000000 in
set_option maxRecDepth 100000 in
theorem lX10_beatsGo_16 {w : bw} {σ : bSt} {n : Nat} {lv : Int32} {N : bN} {T : bT} (hm : sModel w) (hW : MW σ N T) (hbt2 : (N 0).toNatClampNeg + n < 20000) {x : bX} (h : Cx x w cX10_beatsGo RX10 6 none (rmm 7 169)) : ∀ k : Nat, k < n → (∀ τ2 : bSt, fM σ τ2 → MW τ2 (goN (gvT T) (decide (¬ lv = 0)) N (k + 1)) T → V x w 6 (pV (fun σ' => fM σ σ' ∧ MW σ' (goN (gvT T) (decide (¬ lv = 0)) N n) T)) 2 [(3, .int (nI (k + 1))), (0, .ref (b_ad w 0)), (1, .int (nI n)), (2, .int lv)] [] τ2) → ∀ m2 b : Nat, b + m2 = 9 → ∀ τ : bSt, fM σ τ → MW τ (upd (goN (gvT T) (decide (¬ lv = 0)) N k) 11 (fgN (sngN (goN (gvT T) (decide (¬ lv = 0)) N k) 9) ((goN (gvT T) (decide (¬ lv = 0)) N k) 11) b).1) T → (lv = 0 → b = 0) → V x w 6 (pV (fun σ' => fM σ σ' ∧ MW σ' (goN (gvT T) (decide (¬ lv = 0)) N n) T)) 16 [(5, .int (nI b)), (4, .int ((fgN (sngN (goN (gvT T) (decide (¬ lv = 0)) N k) 9) ((goN (gvT T) (decide (¬ lv = 0)) N k) 11) b).2)), (3, .int (nI k)), (0, .ref (b_ad w 0)), (1, .int (nI n)), (2, .int lv)] [] τ := by
  intro k hkn hout
  have hgo := IvN_go (lo := decide (¬ lv = 0)) (gvT_B T) hW.2.1 ((hW.n (k := 0) (by omega)).symm.trans hW.bt.1) k (by omega)
  have hMI := hgo.1
  have haf := hMI.af
  refine b_ind (fun m2 ih2 => ?_)
  intro b hbm τ hf hWt hlb
  have haf2 : afN (upd (goN (gvT T) (decide (¬ lv = 0)) N k) 11 (fgN (sngN (goN (gvT T) (decide (¬ lv = 0)) N k) 9) ((goN (gvT T) (decide (¬ lv = 0)) N k) 11) b).1) = afN (goN (gvT T) (decide (¬ lv = 0)) N k) := by unfold afN; rw [upd_n (by omega)]
  refine v_iload h (i := 5) dX10_beatsGo_16 (q := 18) rfl 0 rfl ?_
  refine v_aload_n h (i := 0) dX10_beatsGo_18 (q := 19) rfl rfl 3 rfl ?_
  refine v_get h (k := 0) (v := .ref (b_ad w 1)) cls10 hm.1.1 hm.1.2 (Nat.le_of_ble_eq_true rfl) m849 rfl dX10_beatsGo_19 (q := 22) rfl ?_
  refine v_bipush h (v := 7) dX10_beatsGo_22 (q := 24) rfl (by decide) ?_
  refine v_iald h (k := 7) hm.2.1.1 hm.2.1.2 (vp_in_nI (n := 7) (by decide) (by decide)) (by decide) dX10_beatsGo_24 (q := 25) rfl ?_
  rw [show (τ 1 7 : Int32) = nI (afN (goN (gvT T) (decide (¬ lv = 0)) N k)) from (by rw [hWt.af.1, haf2])]
  refine v_icmp_ge h (t := 71) dX10_beatsGo_25 (by decide) (q := 28) rfl (fun c25 => ?_) (fun c25 => ?_)
  · have hbn : ¬ b < afN (goN (gvT T) (decide (¬ lv = 0)) N k) := by have := nge (k := afN (goN (gvT T) (decide (¬ lv = 0)) N k)) (nI_toInt (by omega)) (by omega) c25; omega
    have hfs := fg_stop (heard := (sngN (goN (gvT T) (decide (¬ lv = 0)) N k) 9)) (z := (goN (gvT T) (decide (¬ lv = 0)) N k) 11) sng_hd hbn (9 - b) (by omega)
    rw [show b + (9 - b) = 9 by omega] at hfs
    have hbt : allN (lisN (gvT T) (upd (goN (gvT T) (decide (¬ lv = 0)) N k) 11 (fgN (sngN (goN (gvT T) (decide (¬ lv = 0)) N k) 9) ((goN (gvT T) (decide (¬ lv = 0)) N k) 11) b).1) (fgN (sngN (goN (gvT T) (decide (¬ lv = 0)) N k) 9) ((goN (gvT T) (decide (¬ lv = 0)) N k) 11) b).2 6) = goN (gvT T) (decide (¬ lv = 0)) N (k + 1) := by
      show _ = btN (gvT T) (goN (gvT T) (decide (¬ lv = 0)) N k) (decide (¬ lv = 0))
      by_cases hl0 : lv = 0
      · have hb0 := hlb hl0
        subst hb0
        rw [decide_eq_false (fun z => z hl0)]
        exact bt_no0
      · rw [decide_eq_true hl0, bt_lo, ← decide_eq_true hl0, hfs]
    refine v_aload_n h (i := 0) dX10_beatsGo_71 (q := 72) rfl rfl 3 rfl ?_
    refine v_iload h (i := 4) dX10_beatsGo_72 (q := 74) rfl 1 rfl ?_
    refine v_callV h (As := [.int ((fgN (sngN (goN (gvT T) (decide (¬ lv = 0)) N k) 9) ((goN (gvT T) (decide (¬ lv = 0)) N k) 11) b).2)]) (rest := []) (c_X10_listen (σ := τ) (heard := (fgN (sngN (goN (gvT T) (decide (¬ lv = 0)) N k) 9) ((goN (gvT T) (decide (¬ lv = 0)) N k) 11) b).2) (N := upd (goN (gvT T) (decide (¬ lv = 0)) N k) 11 (fgN (sngN (goN (gvT T) (decide (¬ lv = 0)) N k) 9) ((goN (gvT T) (decide (¬ lv = 0)) N k) 11) b).1) (T := T) hm hWt (hdN_cg (fg_hd sng_hd b) haf2)) cal_X10_listen calV_X10_listen m1175 ⟨rfl, rfl, Nat.le_of_ble_eq_true rfl, Nat.le_of_ble_eq_true rfl⟩ rfl hm.1.1 hm.1.2 ⟨_, _, rfl⟩ rfl (Nat.le_of_ble_eq_true rfl) dX10_beatsGo_74 (q := 77) rfl (kV (fun σ74 h74 => ?_))
    refine v_aload_n h (i := 0) dX10_beatsGo_77 (q := 78) rfl rfl 3 rfl ?_
    refine v_callV h (As := []) (rest := []) (c_X10_moveAll (σ := σ74) (N := lisN (gvT T) (upd (goN (gvT T) (decide (¬ lv = 0)) N k) 11 (fgN (sngN (goN (gvT T) (decide (¬ lv = 0)) N k) 9) ((goN (gvT T) (decide (¬ lv = 0)) N k) 11) b).1) (fgN (sngN (goN (gvT T) (decide (¬ lv = 0)) N k) 9) ((goN (gvT T) (decide (¬ lv = 0)) N k) 11) b).2 6) (T := T) hm h74.2 (by rw [lisN_off (by decide) 6 (fun l _ => ⟨by omega, by omega⟩), upd_n (by omega), hgo.2, nI_clamp (by omega)]; omega)) cal_X10_moveAll calV_X10_moveAll m1180 ⟨rfl, rfl, Nat.le_of_ble_eq_true rfl, Nat.le_of_ble_eq_true rfl⟩ rfl hm.1.1 hm.1.2 ⟨_, _, rfl⟩ rfl (Nat.le_of_ble_eq_true rfl) dX10_beatsGo_78 (q := 81) rfl (kV (fun σ78 h78 => ?_))
    have h78a := h74.1.trans h78.1
    have h78b := h78.2.eqN hbt
    refine v_iinc h (p := 2) (u := nI (k + 1)) (ls1 := [(3, .int (nI (k + 1))), (5, .int (nI b)), (4, .int ((fgN (sngN (goN (gvT T) (decide (¬ lv = 0)) N k) 9) ((goN (gvT T) (decide (¬ lv = 0)) N k) 11) b).2)), (0, .ref (b_ad w 0)), (1, .int (nI n)), (2, .int lv)]) dX10_beatsGo_81 (q := 84) rfl rfl (nI_1 k) (Nat.le_of_ble_eq_true rfl) rfl ?_
    refine v_goto h (t := 2) dX10_beatsGo_84 (by decide) ?_
    refine v_ls [0, 3, 4, 5] (ls2 := [(3, .int (nI (k + 1))), (0, .ref (b_ad w 0)), (1, .int (nI n)), (2, .int lv)]) rfl ?_
    exact hout σ78 (hf.trans (h78a)) (h78b)
  · have hba : b < afN (goN (gvT T) (decide (¬ lv = 0)) N k) := nlt (nI_toInt (by omega)) (by omega) c25
    have hb9 : b < 9 := by omega
    refine v_iload_n h (i := 2) dX10_beatsGo_28 (q := 29) rfl rfl 5 rfl ?_
    refine v_if_eq h (t := 71) dX10_beatsGo_29 (by decide) (q := 32) rfl (fun c29 => ?_) (fun c29 => ?_)
    · have hbt : allN (lisN (gvT T) (upd (goN (gvT T) (decide (¬ lv = 0)) N k) 11 (fgN (sngN (goN (gvT T) (decide (¬ lv = 0)) N k) 9) ((goN (gvT T) (decide (¬ lv = 0)) N k) 11) b).1) (fgN (sngN (goN (gvT T) (decide (¬ lv = 0)) N k) 9) ((goN (gvT T) (decide (¬ lv = 0)) N k) 11) b).2 6) = goN (gvT T) (decide (¬ lv = 0)) N (k + 1) := by
        show _ = btN (gvT T) (goN (gvT T) (decide (¬ lv = 0)) N k) (decide (¬ lv = 0))
        have hb0 := hlb c29
        subst hb0
        rw [decide_eq_false (fun z => z c29)]
        exact bt_no0
      refine v_aload_n h (i := 0) dX10_beatsGo_71 (q := 72) rfl rfl 3 rfl ?_
      refine v_iload h (i := 4) dX10_beatsGo_72 (q := 74) rfl 1 rfl ?_
      refine v_callV h (As := [.int ((fgN (sngN (goN (gvT T) (decide (¬ lv = 0)) N k) 9) ((goN (gvT T) (decide (¬ lv = 0)) N k) 11) b).2)]) (rest := []) (c_X10_listen (σ := τ) (heard := (fgN (sngN (goN (gvT T) (decide (¬ lv = 0)) N k) 9) ((goN (gvT T) (decide (¬ lv = 0)) N k) 11) b).2) (N := upd (goN (gvT T) (decide (¬ lv = 0)) N k) 11 (fgN (sngN (goN (gvT T) (decide (¬ lv = 0)) N k) 9) ((goN (gvT T) (decide (¬ lv = 0)) N k) 11) b).1) (T := T) hm hWt (hdN_cg (fg_hd sng_hd b) haf2)) cal_X10_listen calV_X10_listen m1175 ⟨rfl, rfl, Nat.le_of_ble_eq_true rfl, Nat.le_of_ble_eq_true rfl⟩ rfl hm.1.1 hm.1.2 ⟨_, _, rfl⟩ rfl (Nat.le_of_ble_eq_true rfl) dX10_beatsGo_74 (q := 77) rfl (kV (fun σ74_1 h74_1 => ?_))
      refine v_aload_n h (i := 0) dX10_beatsGo_77 (q := 78) rfl rfl 3 rfl ?_
      refine v_callV h (As := []) (rest := []) (c_X10_moveAll (σ := σ74_1) (N := lisN (gvT T) (upd (goN (gvT T) (decide (¬ lv = 0)) N k) 11 (fgN (sngN (goN (gvT T) (decide (¬ lv = 0)) N k) 9) ((goN (gvT T) (decide (¬ lv = 0)) N k) 11) b).1) (fgN (sngN (goN (gvT T) (decide (¬ lv = 0)) N k) 9) ((goN (gvT T) (decide (¬ lv = 0)) N k) 11) b).2 6) (T := T) hm h74_1.2 (by rw [lisN_off (by decide) 6 (fun l _ => ⟨by omega, by omega⟩), upd_n (by omega), hgo.2, nI_clamp (by omega)]; omega)) cal_X10_moveAll calV_X10_moveAll m1180 ⟨rfl, rfl, Nat.le_of_ble_eq_true rfl, Nat.le_of_ble_eq_true rfl⟩ rfl hm.1.1 hm.1.2 ⟨_, _, rfl⟩ rfl (Nat.le_of_ble_eq_true rfl) dX10_beatsGo_78 (q := 81) rfl (kV (fun σ78_1 h78_1 => ?_))
      have h78_1a := h74_1.1.trans h78_1.1
      have h78_1b := h78_1.2.eqN hbt
      refine v_iinc h (p := 2) (u := nI (k + 1)) (ls1 := [(3, .int (nI (k + 1))), (5, .int (nI b)), (4, .int ((fgN (sngN (goN (gvT T) (decide (¬ lv = 0)) N k) 9) ((goN (gvT T) (decide (¬ lv = 0)) N k) 11) b).2)), (0, .ref (b_ad w 0)), (1, .int (nI n)), (2, .int lv)]) dX10_beatsGo_81 (q := 84) rfl rfl (nI_1 k) (Nat.le_of_ble_eq_true rfl) rfl ?_
      refine v_goto h (t := 2) dX10_beatsGo_84 (by decide) ?_
      refine v_ls [0, 3, 4, 5] (ls2 := [(3, .int (nI (k + 1))), (0, .ref (b_ad w 0)), (1, .int (nI n)), (2, .int lv)]) rfl ?_
      exact hout σ78_1 (hf.trans (h78_1a)) (h78_1b)
    · refine v_iload h (i := 4) dX10_beatsGo_32 (q := 34) rfl 1 rfl ?_
      have h0t : τ 1 0 = nI (((goN (gvT T) (decide (¬ lv = 0)) N k) 0).toNatClampNeg) := by
        rw [hWt.n (by omega), upd_n (by omega), hgo.2, nI_clamp (by omega)]
      have hsb : (ushr (τ 1 (15 + 4 * b)) (nI ((((goN (gvT T) (decide (¬ lv = 0)) N k) 0).toNatClampNeg) % 32)) &&& 1 = 1) ↔ (ushr ((goN (gvT T) (decide (¬ lv = 0)) N k) (15 + 4 * b)) (nI (tN (goN (gvT T) (decide (¬ lv = 0)) N k))) &&& 1 = 1) := by
        rw [hWt.n (by omega), upd_n (by omega)]
        exact Iff.rfl
      refine v_aload_n h (i := 0) dX10_beatsGo_34 (q := 35) rfl rfl 3 rfl ?_
      refine v_iload h (i := 5) dX10_beatsGo_35 (q := 37) rfl 0 rfl ?_
      refine v_callV h (As := [.int (nI b)]) (rest := [.int ((fgN (sngN (goN (gvT T) (decide (¬ lv = 0)) N k) 9) ((goN (gvT T) (decide (¬ lv = 0)) N k) 11) b).2)]) (c_X10_sings (σ := τ) (b := b) (bt := ((goN (gvT T) (decide (¬ lv = 0)) N k) 0).toNatClampNeg) hm hb9 h0t (by rw [hgo.2, nI_clamp (by omega)]; omega)) cal_X10_sings calV_X10_sings m957 ⟨rfl, rfl, Nat.le_of_ble_eq_true rfl, Nat.le_of_ble_eq_true rfl⟩ rfl hm.1.1 hm.1.2 ⟨_, _, rfl⟩ rfl (Nat.le_of_ble_eq_true rfl) dX10_beatsGo_37 (q := 40) rfl (kB (fun c37 => ?_) (fun c37 => ?_))
      · refine v_if_eq h (t := 61) dX10_beatsGo_40 (by decide) (q := 43) rfl (fun c => absurd c (by decide)) (fun _ => ?_)
        have hbz : ¬ ushr (sngN (goN (gvT T) (decide (¬ lv = 0)) N k) 9) (nI b) &&& 1 = 0 := fun z => (sng_bit hb9 hba).mp z (by unfold sgN; rw [decide_eq_true_eq]; exact hsb.mp c37)
        have ez : τ 1 11 = (fgN (sngN (goN (gvT T) (decide (¬ lv = 0)) N k) 9) ((goN (gvT T) (decide (¬ lv = 0)) N k) 11) b).1 := by rw [hWt.n (by omega), upd_s]
        refine v_aload_n h (i := 0) dX10_beatsGo_43 (q := 44) rfl rfl 3 rfl ?_
        refine v_bipush h (v := 6) dX10_beatsGo_44 (q := 46) rfl (by decide) ?_
        refine v_callV h (As := [.int 6]) (rest := [.int ((fgN (sngN (goN (gvT T) (decide (¬ lv = 0)) N k) 9) ((goN (gvT T) (decide (¬ lv = 0)) N k) 11) b).2)]) (c_X10_drawn (σ := τ) hm) cal_X10_drawn calV_X10_drawn m1170 ⟨rfl, rfl, Nat.le_of_ble_eq_true rfl, Nat.le_of_ble_eq_true rfl⟩ rfl hm.1.1 hm.1.2 ⟨_, _, rfl⟩ rfl (Nat.le_of_ble_eq_true rfl) dX10_beatsGo_46 (q := 49) rfl (kI ?_)
        rw [show (irm (ushr (τ 1 11 * 1103515245 + 12345) 8) 6 : Int32) = irm (ushr (τ 1 11 * 1103515245 + 12345) 8) 6 from rfl]
        refine v_if_ne h (t := 61) dX10_beatsGo_49 (by decide) (q := 52) rfl (fun c49 => ?_) (fun c49 => ?_)
        · skip
          refine v_iconst h (v := -1) dX10_beatsGo_61 (q := 62) rfl (by decide) ?_
          refine v_iand h dX10_beatsGo_62 (q := 63) rfl ?_
          rw [show (((fgN (sngN (goN (gvT T) (decide (¬ lv = 0)) N k) 9) ((goN (gvT T) (decide (¬ lv = 0)) N k) 11) b).2) &&& (-1) : Int32) = (fgN (sngN (goN (gvT T) (decide (¬ lv = 0)) N k) 9) ((goN (gvT T) (decide (¬ lv = 0)) N k) 11) b).2 from (i_and_m1 _)]
          refine v_istore h (i := 4) (ls1 := [(4, .int ((fgN (sngN (goN (gvT T) (decide (¬ lv = 0)) N k) 9) ((goN (gvT T) (decide (¬ lv = 0)) N k) 11) b).2)), (5, .int (nI b)), (3, .int (nI k)), (0, .ref (b_ad w 0)), (1, .int (nI n)), (2, .int lv)]) dX10_beatsGo_63 (q := 65) rfl (Nat.le_of_ble_eq_true rfl) rfl ?_
          refine v_iinc h (p := 1) (u := nI (b + 1)) (ls1 := [(5, .int (nI (b + 1))), (4, .int ((fgN (sngN (goN (gvT T) (decide (¬ lv = 0)) N k) 9) ((goN (gvT T) (decide (¬ lv = 0)) N k) 11) b).2)), (3, .int (nI k)), (0, .ref (b_ad w 0)), (1, .int (nI n)), (2, .int lv)]) dX10_beatsGo_65 (q := 68) rfl rfl (nI_1 b) (Nat.le_of_ble_eq_true rfl) rfl ?_
          refine v_goto h (t := 16) dX10_beatsGo_68 (by decide) ?_
          have hz := ih2 (m2 - 1) (by omega) (b + 1) (by omega) (b_up τ 1 11 (τ 1 11 * 1103515245 + 12345)) (hf.trans (fM_up (by omega))) (by
            rw [fg_3 hbz (ez ▸ c49)]
            exact (hWt.up (k := 11) (by omega) (by rw [upd_upd]; exact IvN_upz hMI _)).eqN (by rw [upd_upd, ez])) (fun z => absurd z c29)
          rw [fg_3 hbz (ez ▸ c49)] at hz
          exact hz
        · refine v_iconst h (v := 1) dX10_beatsGo_52 (q := 53) rfl (by decide) ?_
          refine v_iload h (i := 5) dX10_beatsGo_53 (q := 55) rfl 0 rfl ?_
          refine v_ishl h dX10_beatsGo_55 (q := 56) rfl ?_
          refine v_iconst h (v := -1) dX10_beatsGo_56 (q := 57) rfl (by decide) ?_
          refine v_ixor h dX10_beatsGo_57 (q := 58) rfl ?_
          refine v_goto h (t := 62) dX10_beatsGo_58 (by decide) ?_
          refine v_iand h dX10_beatsGo_62 (q := 63) rfl ?_
          rw [show (((fgN (sngN (goN (gvT T) (decide (¬ lv = 0)) N k) 9) ((goN (gvT T) (decide (¬ lv = 0)) N k) 11) b).2) &&& ((1 <<< ((nI b) &&& 31)) ^^^ (-1)) : Int32) = ((fgN (sngN (goN (gvT T) (decide (¬ lv = 0)) N k) 9) ((goN (gvT T) (decide (¬ lv = 0)) N k) 11) b).2) &&& ((1 <<< ((nI b) &&& 31)) ^^^ (-1)) from rfl]
          refine v_istore h (i := 4) (ls1 := [(4, .int (((fgN (sngN (goN (gvT T) (decide (¬ lv = 0)) N k) 9) ((goN (gvT T) (decide (¬ lv = 0)) N k) 11) b).2) &&& ((1 <<< ((nI b) &&& 31)) ^^^ (-1)))), (5, .int (nI b)), (3, .int (nI k)), (0, .ref (b_ad w 0)), (1, .int (nI n)), (2, .int lv)]) dX10_beatsGo_63 (q := 65) rfl (Nat.le_of_ble_eq_true rfl) rfl ?_
          refine v_iinc h (p := 1) (u := nI (b + 1)) (ls1 := [(5, .int (nI (b + 1))), (4, .int (((fgN (sngN (goN (gvT T) (decide (¬ lv = 0)) N k) 9) ((goN (gvT T) (decide (¬ lv = 0)) N k) 11) b).2) &&& ((1 <<< ((nI b) &&& 31)) ^^^ (-1)))), (3, .int (nI k)), (0, .ref (b_ad w 0)), (1, .int (nI n)), (2, .int lv)]) dX10_beatsGo_65 (q := 68) rfl rfl (nI_1 b) (Nat.le_of_ble_eq_true rfl) rfl ?_
          refine v_goto h (t := 16) dX10_beatsGo_68 (by decide) ?_
          have hz := ih2 (m2 - 1) (by omega) (b + 1) (by omega) (b_up τ 1 11 (τ 1 11 * 1103515245 + 12345)) (hf.trans (fM_up (by omega))) (by
            rw [fg_2 hbz (ez ▸ c49)]
            exact (hWt.up (k := 11) (by omega) (by rw [upd_upd]; exact IvN_upz hMI _)).eqN (by rw [upd_upd, ez])) (fun z => absurd z c29)
          rw [fg_2 hbz (ez ▸ c49)] at hz
          exact hz
      · refine v_if_eq h (t := 61) dX10_beatsGo_40 (by decide) (q := 43) rfl (fun _ => ?_) (fun c => absurd (by decide) c)
        have hbz : ushr (sngN (goN (gvT T) (decide (¬ lv = 0)) N k) 9) (nI b) &&& 1 = 0 := (sng_bit hb9 hba).mpr (fun z => c37 (hsb.mpr (by unfold sgN at z; rw [decide_eq_true_eq] at z; exact z)))
        refine v_iconst h (v := -1) dX10_beatsGo_61 (q := 62) rfl (by decide) ?_
        refine v_iand h dX10_beatsGo_62 (q := 63) rfl ?_
        rw [show (((fgN (sngN (goN (gvT T) (decide (¬ lv = 0)) N k) 9) ((goN (gvT T) (decide (¬ lv = 0)) N k) 11) b).2) &&& (-1) : Int32) = (fgN (sngN (goN (gvT T) (decide (¬ lv = 0)) N k) 9) ((goN (gvT T) (decide (¬ lv = 0)) N k) 11) b).2 from (i_and_m1 _)]
        refine v_istore h (i := 4) (ls1 := [(4, .int ((fgN (sngN (goN (gvT T) (decide (¬ lv = 0)) N k) 9) ((goN (gvT T) (decide (¬ lv = 0)) N k) 11) b).2)), (5, .int (nI b)), (3, .int (nI k)), (0, .ref (b_ad w 0)), (1, .int (nI n)), (2, .int lv)]) dX10_beatsGo_63 (q := 65) rfl (Nat.le_of_ble_eq_true rfl) rfl ?_
        refine v_iinc h (p := 1) (u := nI (b + 1)) (ls1 := [(5, .int (nI (b + 1))), (4, .int ((fgN (sngN (goN (gvT T) (decide (¬ lv = 0)) N k) 9) ((goN (gvT T) (decide (¬ lv = 0)) N k) 11) b).2)), (3, .int (nI k)), (0, .ref (b_ad w 0)), (1, .int (nI n)), (2, .int lv)]) dX10_beatsGo_65 (q := 68) rfl rfl (nI_1 b) (Nat.le_of_ble_eq_true rfl) rfl ?_
        refine v_goto h (t := 16) dX10_beatsGo_68 (by decide) ?_
        have hz := ih2 (m2 - 1) (by omega) (b + 1) (by omega) τ hf (by rw [fg_1 hbz]; exact hWt) (fun z => absurd z c29)
        rw [fg_1 hbz] at hz
        exact hz
set_option maxHeartbeats 4000000 in
set_option maxRecDepth 100000 in
theorem lX10_beatsGo_2 {w : bw} {σ : bSt} {n : Nat} {lv : Int32} {N : bN} {T : bT} (hm : sModel w) (hW : MW σ N T) (hbt2 : (N 0).toNatClampNeg + n < 20000) {x : bX} (h : Cx x w cX10_beatsGo RX10 6 none (rmm 7 169)) : ∀ m k : Nat, k + m = n → ∀ τ : bSt, fM σ τ → MW τ (goN (gvT T) (decide (¬ lv = 0)) N k) T → V x w 6 (pV (fun σ' => fM σ σ' ∧ MW σ' (goN (gvT T) (decide (¬ lv = 0)) N n) T)) 2 [(3, .int (nI k)), (0, .ref (b_ad w 0)), (1, .int (nI n)), (2, .int lv)] [] τ := by
  refine b_ind (fun m ih => ?_)
  intro k hkm τ hf hWt
  refine v_iload_n h (i := 3) dX10_beatsGo_2 (q := 3) rfl rfl 0 rfl ?_
  refine v_iload_n h (i := 1) dX10_beatsGo_3 (q := 4) rfl rfl 2 rfl ?_
  refine v_icmp_ge h (t := 87) dX10_beatsGo_4 (by decide) (q := 7) rfl (fun c4 => ?_) (fun c4 => ?_)
  · exact v_vret h dX10_beatsGo_87 ⟨rfl, hf, by rw [show n = k by have := nge (k := n) (nI_toInt (by omega)) (by omega) c4; omega]; exact hWt⟩
  · have hkn : k < n := nlt (nI_toInt (by omega)) (by omega) c4
    refine v_aload_n h (i := 0) dX10_beatsGo_7 (q := 8) rfl rfl 1 rfl ?_
    refine v_callV h (As := []) (rest := []) (c_X10_singers (σ := τ) (N := goN (gvT T) (decide (¬ lv = 0)) N k) (T := T) hm hWt) cal_X10_singers calV_X10_singers m1037 ⟨rfl, rfl, Nat.le_of_ble_eq_true rfl, Nat.le_of_ble_eq_true rfl⟩ rfl hm.1.1 hm.1.2 ⟨_, _, rfl⟩ rfl (Nat.le_of_ble_eq_true rfl) dX10_beatsGo_8 (q := 11) rfl (kI ?_)
    refine v_istore h (i := 4) (ls1 := [(4, .int (sngN (goN (gvT T) (decide (¬ lv = 0)) N k) 9)), (3, .int (nI k)), (0, .ref (b_ad w 0)), (1, .int (nI n)), (2, .int lv)]) dX10_beatsGo_11 (q := 13) rfl (Nat.le_of_ble_eq_true rfl) rfl ?_
    refine v_iconst h (v := 0) dX10_beatsGo_13 (q := 14) rfl (by decide) ?_
    refine v_istore h (i := 5) (ls1 := [(5, .int 0), (4, .int (sngN (goN (gvT T) (decide (¬ lv = 0)) N k) 9)), (3, .int (nI k)), (0, .ref (b_ad w 0)), (1, .int (nI n)), (2, .int lv)]) dX10_beatsGo_14 (q := 16) rfl (Nat.le_of_ble_eq_true rfl) rfl ?_
    exact lX10_beatsGo_16 hm hW hbt2 h k hkn (fun τ2 q1 q2 => ih (m - 1) (by omega) (k + 1) (by omega) τ2 q1 q2) 9 0 rfl τ hf (hWt.eqN (upd_same (k := 11) rfl).symm) (fun _ => rfl)
set_option maxHeartbeats 4000000 in
set_option maxRecDepth 100000 in
theorem c_X10_beatsGo {w : bw} {σ : bSt} {n : Nat} {lv : Int32} {N : bN} {T : bT} (hm : sModel w) (hW : MW σ N T) (hbt2 : (N 0).toNatClampNeg + n < 20000) : MV yX10_beatsGo cX10_beatsGo 6 none (rmm 7 169) w [.ref (b_ad w 0), .int (nI n), .int lv] σ (pV (fun σ' => fM σ σ' ∧ MW σ' (goN (gvT T) (decide (¬ lv = 0)) N n) T)) := by
  refine b_met (ls := [(0, .ref (b_ad w 0)), (1, .int (nI n)), (2, .int lv)]) (by decide) (Nat.le_of_ble_eq_true rfl) rfl (fun x h => ?_)
  refine v_iconst h (v := 0) dX10_beatsGo_0 (q := 1) rfl (by decide) ?_
  refine v_istore_n h (i := 3) (ls1 := [(3, .int 0), (0, .ref (b_ad w 0)), (1, .int (nI n)), (2, .int lv)]) dX10_beatsGo_1 (q := 2) rfl rfl (Nat.le_of_ble_eq_true rfl) rfl ?_
  exact lX10_beatsGo_2 hm hW hbt2 h n 0 (by omega) σ fM_rfl hW
