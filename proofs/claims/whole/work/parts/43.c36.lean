theorem MW.up3 {σ : bSt} {N : bN} {T : bT} {a b c : Nat} {x y z : Int32} (h : MW σ N T) (ha : a < 66 ∧ a ≠ 9 ∧ a ≠ 10) (hb : b < 66 ∧ b ≠ 9 ∧ b ≠ 10) (hc : c < 66 ∧ c ≠ 9 ∧ c ≠ 10) (hI : IvN (upd (upd (upd N a x) b y) c z)) : MW (b_up (b_up (b_up σ 1 a x) 1 b y) 1 c z) (upd (upd (upd N a x) b y) c z) T := by
  obtain ⟨h1, h2, h3, h4⟩ := h
  refine ⟨fun j j1 j2 j3 => ?_, hI, fun u hu => ?_, h4.sc (by rw [b_up_n (by decide), b_up_n (by decide), b_up_n (by decide)])⟩
  · rw [b_up_s, b_up_s, b_up_s]
    unfold upd
    by_cases e : j = c
    · rw [if_pos e, if_pos e]
    · rw [if_neg e, if_neg e]
      by_cases e : j = b
      · rw [if_pos e, if_pos e]
      · rw [if_neg e, if_neg e]
        by_cases e : j = a
        · rw [if_pos e, if_pos e]
        · rw [if_neg e, if_neg e]
          exact h1 j j1 j2 j3
  · obtain ⟨p, q, r⟩ := h3 u hu
    exact ⟨by rw [b_up_s, upd_n (by omega), b_up_s, upd_n (by omega), b_up_s, upd_n (by omega)]; exact p, q, fun i hi => by rw [b_up_s, upd_n (by omega), b_up_s, upd_n (by omega), b_up_s, upd_n (by omega)]; exact r i hi⟩
theorem fM_up3 {σ : bSt} {a b c : Nat} {x y z : Int32} (ha : a < 66 ∧ a ≠ 9 ∧ a ≠ 10) (hb : b < 66 ∧ b ≠ 9 ∧ b ≠ 10) (hc : c < 66 ∧ c ≠ 9 ∧ c ≠ 10) : fM σ (b_up (b_up (b_up σ 1 a x) 1 b y) 1 c z) := (fM_up ha).trans ((fM_up hb).trans (fM_up hc))
theorem afN_lis {g : bG} {N : bN} {heard : Int32} {n : Nat} : afN (lisN g N heard n) = afN N := by
  unfold afN
  rw [lisN_off (by decide) n (fun l _ => ⟨by omega, by omega⟩)]
theorem bt_lo {g : bG} {M : bN} : btN g M true = allN (lisN g (upd M 11 (fgN (sngN M 9) (M 11) 9).1) (fgN (sngN M 9) (M 11) 9).2 6) := rfl
theorem bt_no {g : bG} {M : bN} : btN g M false = allN (lisN g M (sngN M 9) 6) := rfl
theorem lis_all {g : bG} {N : bN} {heard : Int32} {i : Nat} (h : ¬ i < liN N) (hi : i ≤ 6) : lisN g N heard i = lisN g N heard 6 := by
  have := lisN_stop (g := g) (heard := heard) h (6 - i)
  rw [show i + (6 - i) = 6 by omega] at this
  exact this.symm
theorem fg_1 {heard z : Int32} {n : Nat} (c : ushr heard (nI n) &&& 1 = 0) : fgN heard z (n + 1) = fgN heard z n := by rw [fgN, if_pos c]
theorem fg_2 {heard z : Int32} {n : Nat} (c : ¬ ushr heard (nI n) &&& 1 = 0) (d : irm (ushr ((fgN heard z n).1 * 1103515245 + 12345) 8) 6 = 0) : fgN heard z (n + 1) = ((fgN heard z n).1 * 1103515245 + 12345, (fgN heard z n).2 &&& ((1 : Int32) <<< (nI n &&& 31) ^^^ -1)) := by rw [fgN, if_neg c, if_pos d]
theorem fg_3 {heard z : Int32} {n : Nat} (c : ¬ ushr heard (nI n) &&& 1 = 0) (d : ¬ irm (ushr ((fgN heard z n).1 * 1103515245 + 12345) 8) 6 = 0) : fgN heard z (n + 1) = ((fgN heard z n).1 * 1103515245 + 12345, (fgN heard z n).2) := by rw [fgN, if_neg c, if_neg d]

set_option maxHeartbeats 4000000 in
set_option maxRecDepth 100000 in
theorem lX10_moveAll_2 {w : bw} {σ : bSt} {N : bN} {T : bT} (hm : sModel w) (hW : MW σ N T) (hbt2 : (N 0).toNatClampNeg + 1 < 20000) {x : bX} (h : Cx x w cX10_moveAll RX10 2 none (rmm 3 72)) : ∀ m i : Nat, i + m = afN N → ∀ τ : bSt, fM σ τ → MW τ (mvN N i) T → V x w 2 (pV (fun σ' => fM σ σ' ∧ MW σ' (allN N) T)) 2 [(1, .int (nI i)), (0, .ref (b_ad w 0))] [] τ := by
  have h7 := hW.af
  have ht : tN N < 32 := hW.2.1.t.2
  refine b_ind (fun m ih => ?_)
  intro i him τ hf hWt
  refine v_iload_n h (i := 1) dX10_moveAll_2 (q := 3) rfl rfl 0 rfl ?_
  refine v_aload_n h (i := 0) dX10_moveAll_3 (q := 4) rfl rfl 1 rfl ?_
  refine v_get h (k := 0) (v := .ref (b_ad w 1)) cls10 hm.1.1 hm.1.2 (Nat.le_of_ble_eq_true rfl) m849 rfl dX10_moveAll_4 (q := 7) rfl ?_
  refine v_bipush h (v := 7) dX10_moveAll_7 (q := 9) rfl (by decide) ?_
  refine v_iald h (k := 7) hm.2.1.1 hm.2.1.2 (vp_in_nI (n := 7) (by decide) (by decide)) (by decide) dX10_moveAll_9 (q := 10) rfl ?_
  rw [show (τ 1 7 : Int32) = nI (afN N) from (by rw [hWt.af.1, afN_mv (by omega)])]
  refine v_icmp_ge h (t := 37) dX10_moveAll_10 (by decide) (q := 13) rfl (fun c10 => ?_) (fun c10 => ?_)
  · have hi : ¬ i < afN N := by have := nge (k := afN N) (nI_toInt (by omega)) (by omega) c10; omega
    have hE : upd (mvN N i) 0 (N 0 + 1) = allN N := by
      unfold allN
      have hz := mvN_stop hi (9 - i)
      rw [show i + (9 - i) = 9 by omega] at hz
      rw [hz]
    refine v_aload_n h (i := 0) dX10_moveAll_37 (q := 38) rfl rfl 1 rfl ?_
    refine v_get h (k := 0) (v := .ref (b_ad w 1)) cls10 hm.1.1 hm.1.2 (Nat.le_of_ble_eq_true rfl) m849 rfl dX10_moveAll_38 (q := 41) rfl ?_
    refine v_iconst h (v := 0) dX10_moveAll_41 (q := 42) rfl (by decide) ?_
    refine v_dup2 h dX10_moveAll_42 (q := 43) rfl rfl rfl ?_
    refine v_iald h (k := 0) hm.2.1.1 hm.2.1.2 (vp_in_nI (n := 0) (by decide) (by decide)) (by decide) dX10_moveAll_43 (q := 44) rfl ?_
    rw [show (τ 1 0 : Int32) = N 0 from ((hWt.n (by omega)).trans (mvN_off i (by omega) (by omega)))]
    refine v_iconst h (v := 1) dX10_moveAll_44 (q := 45) rfl (by decide) ?_
    refine v_iadd h dX10_moveAll_45 (q := 46) rfl ?_
    refine v_iast h (k := 0) hm.2.1.1 hm.2.1.2 (vp_in_nI (n := 0) (by decide) (by decide)) (by decide) dX10_moveAll_46 (q := 47) rfl ?_
    exact v_vret h dX10_moveAll_47 ⟨rfl, hf.trans (fM_up (by omega)), (hWt.up (k := 0) (by omega) (by rw [hE]; exact IvN_all hW.2.1 hbt2 ((hW.n (k := 0) (by omega)).symm.trans hW.bt.1))).eqN hE⟩
  · have hi : i < afN N := nlt (nI_toInt (by omega)) (by omega) c10
    have hb9 : i < 9 := by omega
    refine v_aload_n h (i := 0) dX10_moveAll_13 (q := 14) rfl rfl 1 rfl ?_
    refine v_get h (k := 0) (v := .ref (b_ad w 1)) cls10 hm.1.1 hm.1.2 (Nat.le_of_ble_eq_true rfl) m849 rfl dX10_moveAll_14 (q := 17) rfl ?_
    refine v_bipush h (v := 12) dX10_moveAll_17 (q := 19) rfl (by decide) ?_
    refine v_iconst h (v := 4) dX10_moveAll_19 (q := 20) rfl (by decide) ?_
    refine v_iload_n h (i := 1) dX10_moveAll_20 (q := 21) rfl rfl 0 rfl ?_
    refine v_imul h dX10_moveAll_21 (q := 22) rfl ?_
    rw [show (4 * (nI i) : Int32) = nI (4 * i) from (nI_mulN 4 i)]
    refine v_iadd h dX10_moveAll_22 (q := 23) rfl ?_
    rw [show (12 + (nI (4 * i)) : Int32) = nI (12 + 4 * i) from (nI_add 12 _)]
    refine v_iconst h (v := 2) dX10_moveAll_23 (q := 24) rfl (by decide) ?_
    refine v_iadd h dX10_moveAll_24 (q := 25) rfl ?_
    rw [show ((nI (12 + 4 * i)) + 2 : Int32) = nI (14 + 4 * i) from (by rw [show (2 : Int32) = nI 2 from rfl, nI_add, show 12 + 4 * i + 2 = 14 + 4 * i by omega])]
    refine v_aload_n h (i := 0) dX10_moveAll_25 (q := 26) rfl rfl 1 rfl ?_
    refine v_iload_n h (i := 1) dX10_moveAll_26 (q := 27) rfl rfl 0 rfl ?_
    refine v_callV h (As := [.int (nI i)]) (rest := [.int (nI (14 + 4 * i)), .ref (b_ad w 1)]) (c_X10_movesTo (σ := τ) (b := i) (N := mvN N i) (T := T) hm hWt (by rw [afN_mv (by omega)]; exact hi)) cal_X10_movesTo calV_X10_movesTo m1184 ⟨rfl, rfl, Nat.le_of_ble_eq_true rfl, Nat.le_of_ble_eq_true rfl⟩ rfl hm.1.1 hm.1.2 ⟨_, _, rfl⟩ rfl (Nat.le_of_ble_eq_true rfl) dX10_moveAll_27 (q := 30) rfl (kI ?_)
    rw [show (mv1N (mvN N i) i : Int32) = mv1N N i from (mv1_mv i hb9 ht)]
    refine v_iast h (k := (14 + 4 * i)) hm.2.1.1 hm.2.1.2 (vp_in_nI (by omega) (by decide)) (nI_clamp (by omega)) dX10_moveAll_30 (q := 31) rfl ?_
    refine v_iinc h (p := 0) (u := nI (i + 1)) (ls1 := [(1, .int (nI (i + 1))), (0, .ref (b_ad w 0))]) dX10_moveAll_31 (q := 34) rfl rfl (nI_1 i) (Nat.le_of_ble_eq_true rfl) rfl ?_
    refine v_goto h (t := 2) dX10_moveAll_34 (by decide) ?_
    exact ih (m - 1) (by omega) (i + 1) (by omega) _ (hf.trans (fM_up (by omega))) ((hWt.up (by omega) (IvN_mv1 hW.2.1 hb9 ht)).eqN (by rw [mvN, if_pos hi]))
set_option maxHeartbeats 4000000 in
set_option maxRecDepth 100000 in
theorem c_X10_moveAll {w : bw} {σ : bSt} {N : bN} {T : bT} (hm : sModel w) (hW : MW σ N T) (hbt2 : (N 0).toNatClampNeg + 1 < 20000) : MV yX10_moveAll cX10_moveAll 2 none (rmm 3 72) w [.ref (b_ad w 0)] σ (pV (fun σ' => fM σ σ' ∧ MW σ' (allN N) T)) := by
  refine b_met (ls := [(0, .ref (b_ad w 0))]) (by decide) (Nat.le_of_ble_eq_true rfl) rfl (fun x h => ?_)
  refine v_iconst h (v := 0) dX10_moveAll_0 (q := 1) rfl (by decide) ?_
  refine v_istore_n h (i := 1) (ls1 := [(1, .int 0), (0, .ref (b_ad w 0))]) dX10_moveAll_1 (q := 2) rfl rfl (Nat.le_of_ble_eq_true rfl) rfl ?_
  exact lX10_moveAll_2 hm hW hbt2 h (afN N) 0 (by omega) σ fM_rfl hW

set_option maxHeartbeats 4000000 in
set_option maxRecDepth 100000 in
theorem lX10_listen_2 {w : bw} {σ : bSt} {heard : Int32} {N : bN} {T : bT} (hm : sModel w) (hW : MW σ N T) (hh : hdN N heard) {x : bX} (h : Cx x w cX10_listen RX10 6 none (rmm 6 144)) : ∀ m i : Nat, i + m = liN N → ∀ τ : bSt, fM σ τ → MW τ (lisN (gvT T) N heard i) T → V x w 6 (pV (fun σ' => fM σ σ' ∧ MW σ' (lisN (gvT T) N heard 6) T)) 2 [(2, .int (nI i)), (0, .ref (b_ad w 0)), (1, .int heard)] [] τ := by
  have h8 := hW.li
  refine b_ind (fun m ih => ?_)
  intro i him τ hf hWt
  refine v_iload_n h (i := 2) dX10_listen_2 (q := 3) rfl rfl 0 rfl ?_
  refine v_aload_n h (i := 0) dX10_listen_3 (q := 4) rfl rfl 1 rfl ?_
  refine v_get h (k := 0) (v := .ref (b_ad w 1)) cls10 hm.1.1 hm.1.2 (Nat.le_of_ble_eq_true rfl) m849 rfl dX10_listen_4 (q := 7) rfl ?_
  refine v_bipush h (v := 8) dX10_listen_7 (q := 9) rfl (by decide) ?_
  refine v_iald h (k := 8) hm.2.1.1 hm.2.1.2 (vp_in_nI (n := 8) (by decide) (by decide)) (by decide) dX10_listen_9 (q := 10) rfl ?_
  rw [show (τ 1 8 : Int32) = nI (liN N) from (by rw [hWt.li.1, liN_lis])]
  refine v_icmp_ge h (t := 137) dX10_listen_10 (by decide) (q := 13) rfl (fun c10 => ?_) (fun c10 => ?_)
  · exact v_vret h dX10_listen_137 ⟨rfl, hf, hWt.eqN (lis_all (by have := nge (k := liN N) (nI_toInt (by omega)) (by omega) c10; omega) (by omega))⟩
  · have hi : i < liN N := nlt (nI_toInt (by omega)) (by omega) c10
    have hl6 : i < 6 := by omega
    obtain ⟨y, hy, ey⟩ := (hWt.2.1.2.2.2.2.2.2.2 i hl6).1
    have e0 : (lisN (gvT T) N heard i) 0 = N 0 := lisN_off (by decide) i (fun l _ => ⟨by omega, by omega⟩)
    refine v_bipush h (v := 48) dX10_listen_13 (q := 15) rfl (by decide) ?_
    refine v_iconst h (v := 3) dX10_listen_15 (q := 16) rfl (by decide) ?_
    refine v_iload_n h (i := 2) dX10_listen_16 (q := 17) rfl rfl 0 rfl ?_
    refine v_imul h dX10_listen_17 (q := 18) rfl ?_
    rw [show (3 * (nI i) : Int32) = nI (3 * i) from (nI_mulN 3 i)]
    refine v_iadd h dX10_listen_18 (q := 19) rfl ?_
    rw [show (48 + (nI (3 * i)) : Int32) = nI (48 + 3 * i) from (nI_add 48 _)]
    refine v_istore_n h (i := 3) (ls1 := [(3, .int (nI (48 + 3 * i))), (2, .int (nI i)), (0, .ref (b_ad w 0)), (1, .int heard)]) dX10_listen_19 (q := 20) rfl rfl (Nat.le_of_ble_eq_true rfl) rfl ?_
    refine v_aload_n h (i := 0) dX10_listen_20 (q := 21) rfl rfl 2 rfl ?_
    refine v_aload_n h (i := 0) dX10_listen_21 (q := 22) rfl rfl 2 rfl ?_
    refine v_get h (k := 0) (v := .ref (b_ad w 1)) cls10 hm.1.1 hm.1.2 (Nat.le_of_ble_eq_true rfl) m849 rfl dX10_listen_22 (q := 25) rfl ?_
    refine v_iload_n h (i := 3) dX10_listen_25 (q := 26) rfl rfl 0 rfl ?_
    refine v_iconst h (v := 0) dX10_listen_26 (q := 27) rfl (by decide) ?_
    refine v_iadd h dX10_listen_27 (q := 28) rfl ?_
    rw [show ((nI (48 + 3 * i)) + 0 : Int32) = nI (48 + 3 * i) from (Int32.add_zero _)]
    refine v_iald h (k := (48 + 3 * i)) hm.2.1.1 hm.2.1.2 (vp_in_nI (by omega) (by decide)) (nI_clamp (by omega)) dX10_listen_28 (q := 29) rfl ?_
    rw [show (τ 1 ((48 + 3 * i)) : Int32) = nI y from ((hWt.n (by omega)).trans ey)]
    refine v_iload_n h (i := 1) dX10_listen_29 (q := 30) rfl rfl 3 rfl ?_
    refine v_callV h (As := [.int (nI y), .int heard]) (rest := []) (c_X10_isTogether (σ := τ) (y := y) (heard := heard) (N := lisN (gvT T) N heard i) (T := T) hm hWt hy (hdN_cg hh afN_lis)) cal_X10_isTogether calV_X10_isTogether m1041 ⟨rfl, rfl, Nat.le_of_ble_eq_true rfl, Nat.le_of_ble_eq_true rfl⟩ rfl hm.1.1 hm.1.2 ⟨_, _, rfl⟩ rfl (Nat.le_of_ble_eq_true rfl) dX10_listen_30 (q := 33) rfl (kZ (fun σ30 h30 c30 => ?_) (fun σ30 h30 c30 => ?_))
    · refine v_if_eq h (t := 40) dX10_listen_33 (by decide) (q := 36) rfl (fun c => absurd c (by decide)) (fun _ => ?_)
      refine v_iconst h (v := 1) dX10_listen_36 (q := 37) rfl (by decide) ?_
      refine v_goto h (t := 41) dX10_listen_37 (by decide) ?_
      refine v_istore h (i := 4) (ls1 := [(4, .int 1), (3, .int (nI (48 + 3 * i))), (2, .int (nI i)), (0, .ref (b_ad w 0)), (1, .int heard)]) dX10_listen_41 (q := 43) rfl (Nat.le_of_ble_eq_true rfl) rfl ?_
      refine v_aload_n h (i := 0) dX10_listen_43 (q := 44) rfl rfl 3 rfl ?_
      refine v_get h (k := 0) (v := .ref (b_ad w 1)) cls10 hm.1.1 hm.1.2 (Nat.le_of_ble_eq_true rfl) m849 rfl dX10_listen_44 (q := 47) rfl ?_
      refine v_iload_n h (i := 3) dX10_listen_47 (q := 48) rfl rfl 1 rfl ?_
      refine v_iconst h (v := 2) dX10_listen_48 (q := 49) rfl (by decide) ?_
      refine v_iadd h dX10_listen_49 (q := 50) rfl ?_
      rw [show ((nI (48 + 3 * i)) + 2 : Int32) = nI (50 + 3 * i) from (by rw [show (2 : Int32) = nI 2 from rfl, nI_add, show 48 + 3 * i + 2 = 50 + 3 * i by omega])]
      refine v_iald h (k := (50 + 3 * i)) hm.2.1.1 hm.2.1.2 (vp_in_nI (by omega) (by decide)) (nI_clamp (by omega)) dX10_listen_50 (q := 51) rfl ?_
      rw [show (σ30 1 ((50 + 3 * i)) : Int32) = (lisN (gvT T) N heard i) (50 + 3 * i) from (by rw [h30.1 1 (by decide) (by decide) (by decide)]; exact hWt.n (by omega))]
      refine v_aload_n h (i := 0) dX10_listen_51 (q := 52) rfl rfl 3 rfl ?_
      refine v_iconst h (v := 1) dX10_listen_52 (q := 53) rfl (by decide) ?_
      refine v_iload_n h (i := 1) dX10_listen_53 (q := 54) rfl rfl 4 rfl ?_
      refine v_callS h (As := [.int heard]) (rest := [.int 1, .ref (b_ad w 0), .int ((lisN (gvT T) N heard i) (50 + 3 * i))]) (c_bits (σ := σ30) (v := heard)) cal_X10_bits m1046 m1045 ⟨rfl, rfl, Nat.le_of_ble_eq_true rfl, Nat.le_of_ble_eq_true rfl⟩ rfl rfl (Nat.le_of_ble_eq_true rfl) dX10_listen_54 (q := 57) rfl (kI ?_)
      refine v_iload h (i := 4) dX10_listen_57 (q := 59) rfl 0 rfl ?_
      refine v_aload_n h (i := 0) dX10_listen_59 (q := 60) rfl rfl 3 rfl ?_
      refine v_callV h (As := []) (rest := [.int 1, .int (bcJ heard), .int 1, .ref (b_ad w 0), .int ((lisN (gvT T) N heard i) (50 + 3 * i))]) (c_X10_beat (σ := σ30) (bt := (N 0).toNatClampNeg) hm (by rw [h30.1 1 (by decide) (by decide) (by decide), hWt.n (by omega), e0]; exact (hW.n (k := 0) (by omega)).symm.trans hW.bt.1) hW.bt.2) cal_X10_beat calV_X10_beat m965 ⟨rfl, rfl, Nat.le_of_ble_eq_true rfl, Nat.le_of_ble_eq_true rfl⟩ rfl hm.1.1 hm.1.2 ⟨_, _, rfl⟩ rfl (Nat.le_of_ble_eq_true rfl) dX10_listen_60 (q := 63) rfl (kI ?_)
      refine v_callV h (As := [.int 1, .int (bcJ heard), .int 1, .int (nI ((N 0).toNatClampNeg % 32))]) (rest := [.int ((lisN (gvT T) N heard i) (50 + 3 * i))]) (c_X10_given (σ := σ30) (u := 1) (a := bcJ heard) (b := 1) (c := nI ((N 0).toNatClampNeg % 32)) (T := T) hm (by decide) (hWt.sc h30.1 h30.2).2.2.1) cal_X10_given calV_X10_given m1002 ⟨rfl, rfl, Nat.le_of_ble_eq_true rfl, Nat.le_of_ble_eq_true rfl⟩ rfl hm.1.1 hm.1.2 ⟨_, _, rfl⟩ rfl (Nat.le_of_ble_eq_true rfl) dX10_listen_63 (q := 66) rfl (kR (fun r63 σ63 h63 => ?_))
      refine v_min h m1020 m411 m13 m412 ⟨Nat.le_of_ble_eq_true rfl, Nat.le_of_ble_eq_true rfl⟩ dX10_listen_66 (q := 69) rfl ?_
      generalize epd : imin ((lisN (gvT T) N heard i) (50 + 3 * i)) r63 = pd
      refine v_istore h (i := 5) (ls1 := [(5, .int pd), (4, .int 1), (3, .int (nI (48 + 3 * i))), (2, .int (nI i)), (0, .ref (b_ad w 0)), (1, .int heard)]) dX10_listen_69 (q := 71) rfl (Nat.le_of_ble_eq_true rfl) rfl ?_
      have hs63 : sM σ30 σ63 := fun j _ q8 q9 => h63.2 j q8 q9
      have his : (if togN (gvT T) (lisN (gvT T) N heard i) ((lisN (gvT T) N heard i) (48 + 3 * i)) heard = true then (1 : Int32) else 0) = 1 := by rw [ey]; exact if_pos c30
      refine v_aload_n h (i := 0) dX10_listen_71 (q := 72) rfl rfl 4 rfl ?_
      refine v_get h (k := 0) (v := .ref (b_ad w 1)) cls10 hm.1.1 hm.1.2 (Nat.le_of_ble_eq_true rfl) m849 rfl dX10_listen_72 (q := 75) rfl ?_
      refine v_iload_n h (i := 3) dX10_listen_75 (q := 76) rfl rfl 2 rfl ?_
      refine v_iconst h (v := 1) dX10_listen_76 (q := 77) rfl (by decide) ?_
      refine v_iadd h dX10_listen_77 (q := 78) rfl ?_
      rw [show ((nI (48 + 3 * i)) + 1 : Int32) = nI (49 + 3 * i) from (by rw [nI_1, show 48 + 3 * i + 1 = 49 + 3 * i by omega])]
      refine v_sipush h (v := 9999) dX10_listen_78 (q := 81) rfl (by decide) ?_
      refine v_aload_n h (i := 0) dX10_listen_81 (q := 82) rfl rfl 4 rfl ?_
      refine v_get h (k := 0) (v := .ref (b_ad w 1)) cls10 hm.1.1 hm.1.2 (Nat.le_of_ble_eq_true rfl) m849 rfl dX10_listen_82 (q := 85) rfl ?_
      refine v_iload_n h (i := 3) dX10_listen_85 (q := 86) rfl rfl 2 rfl ?_
      refine v_iconst h (v := 1) dX10_listen_86 (q := 87) rfl (by decide) ?_
      refine v_iadd h dX10_listen_87 (q := 88) rfl ?_
      rw [show ((nI (48 + 3 * i)) + 1 : Int32) = nI (49 + 3 * i) from (by rw [nI_1, show 48 + 3 * i + 1 = 49 + 3 * i by omega])]
      refine v_iald h (k := (49 + 3 * i)) hm.2.1.1 hm.2.1.2 (vp_in_nI (by omega) (by decide)) (nI_clamp (by omega)) dX10_listen_88 (q := 89) rfl ?_
      rw [show (σ63 1 ((49 + 3 * i)) : Int32) = (lisN (gvT T) N heard i) (49 + 3 * i) from (by rw [h63.2 1 (by decide) (by decide), h30.1 1 (by decide) (by decide) (by decide)]; exact hWt.n (by omega))]
      refine v_iload h (i := 4) dX10_listen_89 (q := 91) rfl 1 rfl ?_
      refine v_iadd h dX10_listen_91 (q := 92) rfl ?_
      refine v_min h m1020 m411 m13 m412 ⟨Nat.le_of_ble_eq_true rfl, Nat.le_of_ble_eq_true rfl⟩ dX10_listen_92 (q := 95) rfl ?_
      refine v_iast h (k := (49 + 3 * i)) hm.2.1.1 hm.2.1.2 (vp_in_nI (by omega) (by decide)) (nI_clamp (by omega)) dX10_listen_95 (q := 96) rfl ?_
      refine v_aload_n h (i := 0) dX10_listen_96 (q := 97) rfl rfl 4 rfl ?_
      refine v_get h (k := 0) (v := .ref (b_ad w 1)) cls10 hm.1.1 hm.1.2 (Nat.le_of_ble_eq_true rfl) m849 rfl dX10_listen_97 (q := 100) rfl ?_
      refine v_iload_n h (i := 3) dX10_listen_100 (q := 101) rfl rfl 2 rfl ?_
      refine v_iconst h (v := 2) dX10_listen_101 (q := 102) rfl (by decide) ?_
      refine v_iadd h dX10_listen_102 (q := 103) rfl ?_
      rw [show ((nI (48 + 3 * i)) + 2 : Int32) = nI (50 + 3 * i) from (by rw [show (2 : Int32) = nI 2 from rfl, nI_add, show 48 + 3 * i + 2 = 50 + 3 * i by omega])]
      refine v_dup2 h dX10_listen_103 (q := 104) rfl rfl rfl ?_
      refine v_iald h (k := (50 + 3 * i)) hm.2.1.1 hm.2.1.2 (vp_in_nI (by omega) (by decide)) (nI_clamp (by omega)) dX10_listen_104 (q := 105) rfl ?_
      rw [show ((b_up σ63 1 ((49 + 3 * i)) (imin 9999 (((lisN (gvT T) N heard i) (49 + 3 * i)) + 1))) 1 ((50 + 3 * i)) : Int32) = (lisN (gvT T) N heard i) (50 + 3 * i) from (by rw [b_up_s, upd_n (by omega), h63.2 1 (by decide) (by decide), h30.1 1 (by decide) (by decide) (by decide)]; exact hWt.n (by omega))]
      refine v_iload h (i := 5) dX10_listen_105 (q := 107) rfl 0 rfl ?_
      refine v_isub h dX10_listen_107 (q := 108) rfl ?_
      refine v_iast h (k := (50 + 3 * i)) hm.2.1.1 hm.2.1.2 (vp_in_nI (by omega) (by decide)) (nI_clamp (by omega)) dX10_listen_108 (q := 109) rfl ?_
      refine v_aload_n h (i := 0) dX10_listen_109 (q := 110) rfl rfl 4 rfl ?_
      refine v_get h (k := 0) (v := .ref (b_ad w 1)) cls10 hm.1.1 hm.1.2 (Nat.le_of_ble_eq_true rfl) m849 rfl dX10_listen_110 (q := 113) rfl ?_
      refine v_bipush h (v := 6) dX10_listen_113 (q := 115) rfl (by decide) ?_
      refine v_ldc h (v := 999999) m1179 dX10_listen_115 (q := 117) rfl ?_
      refine v_aload_n h (i := 0) dX10_listen_117 (q := 118) rfl rfl 4 rfl ?_
      refine v_get h (k := 0) (v := .ref (b_ad w 1)) cls10 hm.1.1 hm.1.2 (Nat.le_of_ble_eq_true rfl) m849 rfl dX10_listen_118 (q := 121) rfl ?_
      refine v_bipush h (v := 6) dX10_listen_121 (q := 123) rfl (by decide) ?_
      refine v_iald h (k := 6) hm.2.1.1 hm.2.1.2 (vp_in_nI (n := 6) (by decide) (by decide)) (by decide) dX10_listen_123 (q := 124) rfl ?_
      rw [show ((b_up (b_up σ63 1 ((49 + 3 * i)) (imin 9999 (((lisN (gvT T) N heard i) (49 + 3 * i)) + 1))) 1 ((50 + 3 * i)) (((lisN (gvT T) N heard i) (50 + 3 * i)) - pd)) 1 6 : Int32) = (lisN (gvT T) N heard i) 6 from (by rw [b_up_s, upd_n (by omega), b_up_s, upd_n (by omega), h63.2 1 (by decide) (by decide), h30.1 1 (by decide) (by decide) (by decide)]; exact hWt.n (by omega))]
      refine v_iload h (i := 5) dX10_listen_124 (q := 126) rfl 0 rfl ?_
      refine v_iadd h dX10_listen_126 (q := 127) rfl ?_
      refine v_min h m1020 m411 m13 m412 ⟨Nat.le_of_ble_eq_true rfl, Nat.le_of_ble_eq_true rfl⟩ dX10_listen_127 (q := 130) rfl ?_
      refine v_iast h (k := 6) hm.2.1.1 hm.2.1.2 (vp_in_nI (n := 6) (by decide) (by decide)) (by decide) dX10_listen_130 (q := 131) rfl ?_
      have hfin := lis_fin (N := lisN (gvT T) N heard i) (g := gvT T) (heard := heard) (i := i) (coins := (lisN (gvT T) N heard i) (50 + 3 * i)) (paid := pd) (pu := (lisN (gvT T) N heard i) 6) (it := imin 9999 ((lisN (gvT T) N heard i) (49 + 3 * i) + 1)) his rfl (by rw [← epd, imin_comm, h63.1, show tN (lisN (gvT T) N heard i) = (N 0).toNatClampNeg % 32 from by unfold tN; rw [e0]]; rfl) rfl rfl
      refine v_iinc h (p := 3) (u := nI (i + 1)) (ls1 := [(2, .int (nI (i + 1))), (5, .int pd), (4, .int 1), (3, .int (nI (48 + 3 * i))), (0, .ref (b_ad w 0)), (1, .int heard)]) dX10_listen_131 (q := 134) rfl rfl (nI_1 i) (Nat.le_of_ble_eq_true rfl) rfl ?_
      refine v_goto h (t := 2) dX10_listen_134 (by decide) ?_
      refine v_ls [0, 4, 5] (ls2 := [(2, .int (nI (i + 1))), (0, .ref (b_ad w 0)), (1, .int heard)]) rfl ?_
      exact ih (m - 1) (by omega) (i + 1) (by omega) _ (hf.trans ((fM_s h30.1).trans ((fM_s hs63).trans (fM_up3 (by omega) (by omega) (by omega))))) ((((hWt.sc h30.1 h30.2).sc hs63 (h30.2.sc (h63.2 5 (by decide) (by decide)))).up3 (by omega) (by omega) (by omega) (by rw [hfin]; exact IvN_lis1 (gvT_B T) hWt.2.1 hl6)).eqN (hfin.trans (by rw [lisN, if_pos hi])))
    · refine v_if_eq h (t := 40) dX10_listen_33 (by decide) (q := 36) rfl (fun _ => ?_) (fun c => absurd (by decide) c)
      refine v_iconst h (v := 0) dX10_listen_40 (q := 41) rfl (by decide) ?_
      refine v_istore h (i := 4) (ls1 := [(4, .int 0), (3, .int (nI (48 + 3 * i))), (2, .int (nI i)), (0, .ref (b_ad w 0)), (1, .int heard)]) dX10_listen_41 (q := 43) rfl (Nat.le_of_ble_eq_true rfl) rfl ?_
      refine v_aload_n h (i := 0) dX10_listen_43 (q := 44) rfl rfl 3 rfl ?_
      refine v_get h (k := 0) (v := .ref (b_ad w 1)) cls10 hm.1.1 hm.1.2 (Nat.le_of_ble_eq_true rfl) m849 rfl dX10_listen_44 (q := 47) rfl ?_
      refine v_iload_n h (i := 3) dX10_listen_47 (q := 48) rfl rfl 1 rfl ?_
      refine v_iconst h (v := 2) dX10_listen_48 (q := 49) rfl (by decide) ?_
      refine v_iadd h dX10_listen_49 (q := 50) rfl ?_
      rw [show ((nI (48 + 3 * i)) + 2 : Int32) = nI (50 + 3 * i) from (by rw [show (2 : Int32) = nI 2 from rfl, nI_add, show 48 + 3 * i + 2 = 50 + 3 * i by omega])]
      refine v_iald h (k := (50 + 3 * i)) hm.2.1.1 hm.2.1.2 (vp_in_nI (by omega) (by decide)) (nI_clamp (by omega)) dX10_listen_50 (q := 51) rfl ?_
      rw [show (σ30 1 ((50 + 3 * i)) : Int32) = (lisN (gvT T) N heard i) (50 + 3 * i) from (by rw [h30.1 1 (by decide) (by decide) (by decide)]; exact hWt.n (by omega))]
      refine v_aload_n h (i := 0) dX10_listen_51 (q := 52) rfl rfl 3 rfl ?_
      refine v_iconst h (v := 1) dX10_listen_52 (q := 53) rfl (by decide) ?_
      refine v_iload_n h (i := 1) dX10_listen_53 (q := 54) rfl rfl 4 rfl ?_
      refine v_callS h (As := [.int heard]) (rest := [.int 1, .ref (b_ad w 0), .int ((lisN (gvT T) N heard i) (50 + 3 * i))]) (c_bits (σ := σ30) (v := heard)) cal_X10_bits m1046 m1045 ⟨rfl, rfl, Nat.le_of_ble_eq_true rfl, Nat.le_of_ble_eq_true rfl⟩ rfl rfl (Nat.le_of_ble_eq_true rfl) dX10_listen_54 (q := 57) rfl (kI ?_)
      refine v_iload h (i := 4) dX10_listen_57 (q := 59) rfl 0 rfl ?_
      refine v_aload_n h (i := 0) dX10_listen_59 (q := 60) rfl rfl 3 rfl ?_
      refine v_callV h (As := []) (rest := [.int 0, .int (bcJ heard), .int 1, .ref (b_ad w 0), .int ((lisN (gvT T) N heard i) (50 + 3 * i))]) (c_X10_beat (σ := σ30) (bt := (N 0).toNatClampNeg) hm (by rw [h30.1 1 (by decide) (by decide) (by decide), hWt.n (by omega), e0]; exact (hW.n (k := 0) (by omega)).symm.trans hW.bt.1) hW.bt.2) cal_X10_beat calV_X10_beat m965 ⟨rfl, rfl, Nat.le_of_ble_eq_true rfl, Nat.le_of_ble_eq_true rfl⟩ rfl hm.1.1 hm.1.2 ⟨_, _, rfl⟩ rfl (Nat.le_of_ble_eq_true rfl) dX10_listen_60 (q := 63) rfl (kI ?_)
      refine v_callV h (As := [.int 1, .int (bcJ heard), .int 0, .int (nI ((N 0).toNatClampNeg % 32))]) (rest := [.int ((lisN (gvT T) N heard i) (50 + 3 * i))]) (c_X10_given (σ := σ30) (u := 1) (a := bcJ heard) (b := 0) (c := nI ((N 0).toNatClampNeg % 32)) (T := T) hm (by decide) (hWt.sc h30.1 h30.2).2.2.1) cal_X10_given calV_X10_given m1002 ⟨rfl, rfl, Nat.le_of_ble_eq_true rfl, Nat.le_of_ble_eq_true rfl⟩ rfl hm.1.1 hm.1.2 ⟨_, _, rfl⟩ rfl (Nat.le_of_ble_eq_true rfl) dX10_listen_63 (q := 66) rfl (kR (fun r63_1 σ63_1 h63_1 => ?_))
      refine v_min h m1020 m411 m13 m412 ⟨Nat.le_of_ble_eq_true rfl, Nat.le_of_ble_eq_true rfl⟩ dX10_listen_66 (q := 69) rfl ?_
      generalize epd_1 : imin ((lisN (gvT T) N heard i) (50 + 3 * i)) r63_1 = pd_1
      refine v_istore h (i := 5) (ls1 := [(5, .int pd_1), (4, .int 0), (3, .int (nI (48 + 3 * i))), (2, .int (nI i)), (0, .ref (b_ad w 0)), (1, .int heard)]) dX10_listen_69 (q := 71) rfl (Nat.le_of_ble_eq_true rfl) rfl ?_
      have hs63 : sM σ30 σ63_1 := fun j _ q8 q9 => h63_1.2 j q8 q9
      have his : (if togN (gvT T) (lisN (gvT T) N heard i) ((lisN (gvT T) N heard i) (48 + 3 * i)) heard = true then (1 : Int32) else 0) = 0 := by rw [ey]; exact if_neg c30
      refine v_aload_n h (i := 0) dX10_listen_71 (q := 72) rfl rfl 4 rfl ?_
      refine v_get h (k := 0) (v := .ref (b_ad w 1)) cls10 hm.1.1 hm.1.2 (Nat.le_of_ble_eq_true rfl) m849 rfl dX10_listen_72 (q := 75) rfl ?_
      refine v_iload_n h (i := 3) dX10_listen_75 (q := 76) rfl rfl 2 rfl ?_
      refine v_iconst h (v := 1) dX10_listen_76 (q := 77) rfl (by decide) ?_
      refine v_iadd h dX10_listen_77 (q := 78) rfl ?_
      rw [show ((nI (48 + 3 * i)) + 1 : Int32) = nI (49 + 3 * i) from (by rw [nI_1, show 48 + 3 * i + 1 = 49 + 3 * i by omega])]
      refine v_sipush h (v := 9999) dX10_listen_78 (q := 81) rfl (by decide) ?_
      refine v_aload_n h (i := 0) dX10_listen_81 (q := 82) rfl rfl 4 rfl ?_
      refine v_get h (k := 0) (v := .ref (b_ad w 1)) cls10 hm.1.1 hm.1.2 (Nat.le_of_ble_eq_true rfl) m849 rfl dX10_listen_82 (q := 85) rfl ?_
      refine v_iload_n h (i := 3) dX10_listen_85 (q := 86) rfl rfl 2 rfl ?_
      refine v_iconst h (v := 1) dX10_listen_86 (q := 87) rfl (by decide) ?_
      refine v_iadd h dX10_listen_87 (q := 88) rfl ?_
      rw [show ((nI (48 + 3 * i)) + 1 : Int32) = nI (49 + 3 * i) from (by rw [nI_1, show 48 + 3 * i + 1 = 49 + 3 * i by omega])]
      refine v_iald h (k := (49 + 3 * i)) hm.2.1.1 hm.2.1.2 (vp_in_nI (by omega) (by decide)) (nI_clamp (by omega)) dX10_listen_88 (q := 89) rfl ?_
      rw [show (σ63_1 1 ((49 + 3 * i)) : Int32) = (lisN (gvT T) N heard i) (49 + 3 * i) from (by rw [h63_1.2 1 (by decide) (by decide), h30.1 1 (by decide) (by decide) (by decide)]; exact hWt.n (by omega))]
      refine v_iload h (i := 4) dX10_listen_89 (q := 91) rfl 1 rfl ?_
      refine v_iadd h dX10_listen_91 (q := 92) rfl ?_
      refine v_min h m1020 m411 m13 m412 ⟨Nat.le_of_ble_eq_true rfl, Nat.le_of_ble_eq_true rfl⟩ dX10_listen_92 (q := 95) rfl ?_
      refine v_iast h (k := (49 + 3 * i)) hm.2.1.1 hm.2.1.2 (vp_in_nI (by omega) (by decide)) (nI_clamp (by omega)) dX10_listen_95 (q := 96) rfl ?_
      refine v_aload_n h (i := 0) dX10_listen_96 (q := 97) rfl rfl 4 rfl ?_
      refine v_get h (k := 0) (v := .ref (b_ad w 1)) cls10 hm.1.1 hm.1.2 (Nat.le_of_ble_eq_true rfl) m849 rfl dX10_listen_97 (q := 100) rfl ?_
      refine v_iload_n h (i := 3) dX10_listen_100 (q := 101) rfl rfl 2 rfl ?_
      refine v_iconst h (v := 2) dX10_listen_101 (q := 102) rfl (by decide) ?_
      refine v_iadd h dX10_listen_102 (q := 103) rfl ?_
      rw [show ((nI (48 + 3 * i)) + 2 : Int32) = nI (50 + 3 * i) from (by rw [show (2 : Int32) = nI 2 from rfl, nI_add, show 48 + 3 * i + 2 = 50 + 3 * i by omega])]
      refine v_dup2 h dX10_listen_103 (q := 104) rfl rfl rfl ?_
      refine v_iald h (k := (50 + 3 * i)) hm.2.1.1 hm.2.1.2 (vp_in_nI (by omega) (by decide)) (nI_clamp (by omega)) dX10_listen_104 (q := 105) rfl ?_
      rw [show ((b_up σ63_1 1 ((49 + 3 * i)) (imin 9999 (((lisN (gvT T) N heard i) (49 + 3 * i)) + 0))) 1 ((50 + 3 * i)) : Int32) = (lisN (gvT T) N heard i) (50 + 3 * i) from (by rw [b_up_s, upd_n (by omega), h63_1.2 1 (by decide) (by decide), h30.1 1 (by decide) (by decide) (by decide)]; exact hWt.n (by omega))]
      refine v_iload h (i := 5) dX10_listen_105 (q := 107) rfl 0 rfl ?_
      refine v_isub h dX10_listen_107 (q := 108) rfl ?_
      refine v_iast h (k := (50 + 3 * i)) hm.2.1.1 hm.2.1.2 (vp_in_nI (by omega) (by decide)) (nI_clamp (by omega)) dX10_listen_108 (q := 109) rfl ?_
      refine v_aload_n h (i := 0) dX10_listen_109 (q := 110) rfl rfl 4 rfl ?_
      refine v_get h (k := 0) (v := .ref (b_ad w 1)) cls10 hm.1.1 hm.1.2 (Nat.le_of_ble_eq_true rfl) m849 rfl dX10_listen_110 (q := 113) rfl ?_
      refine v_bipush h (v := 6) dX10_listen_113 (q := 115) rfl (by decide) ?_
      refine v_ldc h (v := 999999) m1179 dX10_listen_115 (q := 117) rfl ?_
      refine v_aload_n h (i := 0) dX10_listen_117 (q := 118) rfl rfl 4 rfl ?_
      refine v_get h (k := 0) (v := .ref (b_ad w 1)) cls10 hm.1.1 hm.1.2 (Nat.le_of_ble_eq_true rfl) m849 rfl dX10_listen_118 (q := 121) rfl ?_
      refine v_bipush h (v := 6) dX10_listen_121 (q := 123) rfl (by decide) ?_
      refine v_iald h (k := 6) hm.2.1.1 hm.2.1.2 (vp_in_nI (n := 6) (by decide) (by decide)) (by decide) dX10_listen_123 (q := 124) rfl ?_
      rw [show ((b_up (b_up σ63_1 1 ((49 + 3 * i)) (imin 9999 (((lisN (gvT T) N heard i) (49 + 3 * i)) + 0))) 1 ((50 + 3 * i)) (((lisN (gvT T) N heard i) (50 + 3 * i)) - pd_1)) 1 6 : Int32) = (lisN (gvT T) N heard i) 6 from (by rw [b_up_s, upd_n (by omega), b_up_s, upd_n (by omega), h63_1.2 1 (by decide) (by decide), h30.1 1 (by decide) (by decide) (by decide)]; exact hWt.n (by omega))]
      refine v_iload h (i := 5) dX10_listen_124 (q := 126) rfl 0 rfl ?_
      refine v_iadd h dX10_listen_126 (q := 127) rfl ?_
      refine v_min h m1020 m411 m13 m412 ⟨Nat.le_of_ble_eq_true rfl, Nat.le_of_ble_eq_true rfl⟩ dX10_listen_127 (q := 130) rfl ?_
      refine v_iast h (k := 6) hm.2.1.1 hm.2.1.2 (vp_in_nI (n := 6) (by decide) (by decide)) (by decide) dX10_listen_130 (q := 131) rfl ?_
      have hfin := lis_fin (N := lisN (gvT T) N heard i) (g := gvT T) (heard := heard) (i := i) (coins := (lisN (gvT T) N heard i) (50 + 3 * i)) (paid := pd_1) (pu := (lisN (gvT T) N heard i) 6) (it := imin 9999 ((lisN (gvT T) N heard i) (49 + 3 * i) + 0)) his rfl (by rw [← epd_1, imin_comm, h63_1.1, show tN (lisN (gvT T) N heard i) = (N 0).toNatClampNeg % 32 from by unfold tN; rw [e0]]; rfl) rfl rfl
      refine v_iinc h (p := 3) (u := nI (i + 1)) (ls1 := [(2, .int (nI (i + 1))), (5, .int pd_1), (4, .int 0), (3, .int (nI (48 + 3 * i))), (0, .ref (b_ad w 0)), (1, .int heard)]) dX10_listen_131 (q := 134) rfl rfl (nI_1 i) (Nat.le_of_ble_eq_true rfl) rfl ?_
      refine v_goto h (t := 2) dX10_listen_134 (by decide) ?_
      refine v_ls [0, 4, 5] (ls2 := [(2, .int (nI (i + 1))), (0, .ref (b_ad w 0)), (1, .int heard)]) rfl ?_
      exact ih (m - 1) (by omega) (i + 1) (by omega) _ (hf.trans ((fM_s h30.1).trans ((fM_s hs63).trans (fM_up3 (by omega) (by omega) (by omega))))) ((((hWt.sc h30.1 h30.2).sc hs63 (h30.2.sc (h63_1.2 5 (by decide) (by decide)))).up3 (by omega) (by omega) (by omega) (by rw [hfin]; exact IvN_lis1 (gvT_B T) hWt.2.1 hl6)).eqN (hfin.trans (by rw [lisN, if_pos hi])))
set_option maxHeartbeats 4000000 in
set_option maxRecDepth 100000 in
theorem c_X10_listen {w : bw} {σ : bSt} {heard : Int32} {N : bN} {T : bT} (hm : sModel w) (hW : MW σ N T) (hh : hdN N heard) : MV yX10_listen cX10_listen 6 none (rmm 6 144) w [.ref (b_ad w 0), .int heard] σ (pV (fun σ' => fM σ σ' ∧ MW σ' (lisN (gvT T) N heard 6) T)) := by
  refine b_met (ls := [(0, .ref (b_ad w 0)), (1, .int heard)]) (by decide) (Nat.le_of_ble_eq_true rfl) rfl (fun x h => ?_)
  refine v_iconst h (v := 0) dX10_listen_0 (q := 1) rfl (by decide) ?_
  refine v_istore_n h (i := 2) (ls1 := [(2, .int 0), (0, .ref (b_ad w 0)), (1, .int heard)]) dX10_listen_1 (q := 2) rfl rfl (Nat.le_of_ble_eq_true rfl) rfl ?_
  have h8 := hW.li
  exact lX10_listen_2 hm hW hh h (liN N) 0 (by omega) σ fM_rfl hW
