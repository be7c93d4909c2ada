/-! the model's beats -/
theorem ladd1 {x : Int32} : 1 + x - 1 = x := by rw [Int32.add_comm, Int32.add_sub_cancel]
theorem CM.sc {σ τ : bSt} {T : bT} (h : CM σ T) (e : τ 5 = σ 5) : CM τ T := by
  intro v d t h1 h2 h3 h4
  rw [e]
  exact h v d t h1 h2 h3 h4
theorem CM.put {σ τ : bSt} {T : bT} {vn d tn : Nat} {r : Int32} (h : CM σ T) (hv1 : 1 ≤ vn) (hd : d < 8) (ht : tn < 32) (e : τ 5 = upd (σ 5) ((8 * vn + d) * 32 + tn) (1 + r)) (hr : r = gvT T 0 (nI d) (nI vn) (nI tn)) : CM τ T := by
  intro v2 d2 t2 g1 g2 g3 g4
  rw [e]
  unfold upd
  by_cases q : (8 * v2 + d2) * 32 + t2 = (8 * vn + d) * 32 + tn
  · rw [if_pos q]
    have e1 : v2 = vn := by omega
    have e2 : d2 = d := by omega
    have e3 : t2 = tn := by omega
    subst e1 e2 e3
    exact Or.inr (by rw [hr])
  · rw [if_neg q]
    exact h v2 d2 t2 g1 g2 g3 g4
theorem MW.spd {σ : bSt} {N : bN} {T : bT} (h : MW σ N T) : ∃ vn, 1 ≤ vn ∧ vn ≤ 9 ∧ N 1 = nI vn ∧ σ 1 1 = nI vn := by
  obtain ⟨v, h1, h9, e⟩ := h.2.1.2.1
  exact ⟨v, h1, h9, e, by rw [h.n (by omega)]; exact e⟩
theorem MW.cell {σ : bSt} {N : bN} {T : bT} (h : MW σ N T) {b : Nat} (hb : b < 9) : ∃ c, c < 64 ∧ N (14 + 4 * b) = nI c := h.2.1.cell hb
theorem nx_M : ∀ c : Nat, c < 64 → ∀ k : Nat, k < 5 → nxM (nI c) (nI k) = nxC (nI c) (nI k) := by decide +kernel
theorem md4 : ∀ m : Nat, m < 10 → irm (nI m) 4 + 1 = nI (m % 4 + 1) ∧ (nI m - nI m / 4 * 4 + 1) = nI (m % 4 + 1) := by decide +kernel
theorem t_par : ∀ t : Nat, t < 32 → (irm (nI t) 2 = 1 ↔ nI t &&& 1 = 1) ∧ (irm (nI t) 8 = 7 ↔ nI t &&& 7 = 7) := by decide +kernel
theorem not_bit {b : Nat} (hb : b < 9) : ((1 : Int32) <<< (nI b &&& 31)) ^^^ -1 = bitF b ^^^ -1 := rfl
theorem i_and_m1 (x : Int32) : x &&& -1 = x := by
  apply i32_ext
  intro i hi
  rw [Int32.toBitVec_and, BitVec.getLsbD_and, (show ∀ i : Nat, i < 32 → (-1 : Int32).toBitVec.getLsbD i = true by decide) i hi, Bool.and_true]
theorem i_or_0 (x : Int32) : x ||| 0 = x := by
  apply i32_ext
  intro i hi
  rw [Int32.toBitVec_or, BitVec.getLsbD_or, show (0 : Int32).toBitVec.getLsbD i = false from BitVec.getLsbD_zero, Bool.or_false]

set_option maxHeartbeats 4000000 in
set_option maxRecDepth 100000 in
theorem c_X10_lags {w : bw} {σ : bSt} {x0 y : Nat} {N : bN} {T : bT} (hm : sModel w) (hW : MW σ N T) (hx0 : x0 < 64) (hy : y < 64) : MV yX10_lags cX10_lags 5 (some .int) (rmm 3 71) w [.ref (b_ad w 0), .int (nI x0), .int (nI y)] σ (pR (fun r σ' => r = gvT T 0 (nI (farN x0 y)) (N 1) (nI (tN N)) ∧ sM σ σ' ∧ CM σ' T)) := by
  refine b_met (ls := [(0, .ref (b_ad w 0)), (1, .int (nI x0)), (2, .int (nI y))]) (by decide) (Nat.le_of_ble_eq_true rfl) rfl (fun x h => ?_)
  obtain ⟨vn, hv1, hv9, ev, ev1⟩ := hW.spd
  have hd8 := far_lt hx0 hy
  have h0 := hW.bt.1
  have hbt := hW.bt.2
  have htm : (N 0).toNatClampNeg % 32 < 32 := Nat.mod_lt _ (by decide)
  have hcm := hW.2.2.2 vn (farN x0 y) ((N 0).toNatClampNeg % 32) hv1 hv9 hd8 htm
  refine v_iload_n h (i := 1) dX10_lags_0 (q := 1) rfl rfl 1 rfl ?_
  refine v_iload_n h (i := 2) dX10_lags_1 (q := 2) rfl rfl 2 rfl ?_
  refine v_callS h (As := [.int (nI x0), .int (nI y)]) (rest := []) (c_X10_far (σ := σ) (a := x0) (b := y) hx0 hy) cal_X10_far m998 m997 ⟨rfl, rfl, Nat.le_of_ble_eq_true rfl, Nat.le_of_ble_eq_true rfl⟩ rfl rfl (Nat.le_of_ble_eq_true rfl) dX10_lags_2 (q := 5) rfl (kI ?_)
  refine v_istore_n h (i := 3) (ls1 := [(3, .int (nI (farN x0 y))), (0, .ref (b_ad w 0)), (1, .int (nI x0)), (2, .int (nI y))]) dX10_lags_5 (q := 6) rfl rfl (Nat.le_of_ble_eq_true rfl) rfl ?_
  refine v_bipush h (v := 8) dX10_lags_6 (q := 8) rfl (by decide) ?_
  refine v_aload_n h (i := 0) dX10_lags_8 (q := 9) rfl rfl 1 rfl ?_
  refine v_get h (k := 0) (v := .ref (b_ad w 1)) cls10 hm.1.1 hm.1.2 (Nat.le_of_ble_eq_true rfl) m849 rfl dX10_lags_9 (q := 12) rfl ?_
  refine v_iconst h (v := 1) dX10_lags_12 (q := 13) rfl (by decide) ?_
  refine v_iald h (k := 1) hm.2.1.1 hm.2.1.2 (vp_in_nI (n := 1) (by decide) (by decide)) (by decide) dX10_lags_13 (q := 14) rfl ?_
  rw [show (σ 1 1 : Int32) = nI vn from ev1]
  refine v_imul h dX10_lags_14 (q := 15) rfl ?_
  rw [show (8 * (nI vn) : Int32) = nI (8 * vn) from (nI_mulN 8 vn)]
  refine v_iload_n h (i := 3) dX10_lags_15 (q := 16) rfl rfl 0 rfl ?_
  refine v_iadd h dX10_lags_16 (q := 17) rfl ?_
  rw [show ((nI (8 * vn)) + (nI (farN x0 y)) : Int32) = nI (8 * vn + farN x0 y) from (nI_add _ _)]
  refine v_bipush h (v := 32) dX10_lags_17 (q := 19) rfl (by decide) ?_
  refine v_imul h dX10_lags_19 (q := 20) rfl ?_
  rw [show ((nI (8 * vn + farN x0 y)) * 32 : Int32) = nI ((8 * vn + farN x0 y) * 32) from (nI_mulN _ 32)]
  refine v_aload_n h (i := 0) dX10_lags_20 (q := 21) rfl rfl 1 rfl ?_
  refine v_callV h (As := []) (rest := [.int (nI ((8 * vn + farN x0 y) * 32))]) (c_X10_beat (σ := σ) hm h0 hbt) cal_X10_beat calV_X10_beat m965 ⟨rfl, rfl, Nat.le_of_ble_eq_true rfl, Nat.le_of_ble_eq_true rfl⟩ rfl hm.1.1 hm.1.2 ⟨_, _, rfl⟩ rfl (Nat.le_of_ble_eq_true rfl) dX10_lags_21 (q := 24) rfl (kI ?_)
  refine v_iadd h dX10_lags_24 (q := 25) rfl ?_
  rw [show ((nI ((8 * vn + farN x0 y) * 32)) + (nI ((N 0).toNatClampNeg % 32)) : Int32) = nI ((8 * vn + farN x0 y) * 32 + (N 0).toNatClampNeg % 32) from (nI_add _ _)]
  refine v_istore h (i := 4) (ls1 := [(4, .int (nI ((8 * vn + farN x0 y) * 32 + (N 0).toNatClampNeg % 32))), (3, .int (nI (farN x0 y))), (0, .ref (b_ad w 0)), (1, .int (nI x0)), (2, .int (nI y))]) dX10_lags_25 (q := 27) rfl (Nat.le_of_ble_eq_true rfl) rfl ?_
  refine v_aload_n h (i := 0) dX10_lags_27 (q := 28) rfl rfl 2 rfl ?_
  refine v_get h (k := 5) (v := .ref (b_ad w 5)) cls10 hm.1.1 hm.1.2 (Nat.le_of_ble_eq_true rfl) m854 rfl dX10_lags_28 (q := 31) rfl ?_
  refine v_iload h (i := 4) dX10_lags_31 (q := 33) rfl 0 rfl ?_
  refine v_iald h (k := ((8 * vn + farN x0 y) * 32 + (N 0).toNatClampNeg % 32)) hm.2.2.2.2.2.1.1 hm.2.2.2.2.2.1.2 (vp_in_nI (by omega) (by decide)) (nI_clamp (by omega)) dX10_lags_33 (q := 34) rfl ?_
  refine v_if_ne h (t := 62) dX10_lags_34 (by decide) (q := 37) rfl (fun c34 => ?_) (fun c34 => ?_)
  · refine v_aload_n h (i := 0) dX10_lags_62 (q := 63) rfl rfl 2 rfl ?_
    refine v_get h (k := 5) (v := .ref (b_ad w 5)) cls10 hm.1.1 hm.1.2 (Nat.le_of_ble_eq_true rfl) m854 rfl dX10_lags_63 (q := 66) rfl ?_
    refine v_iload h (i := 4) dX10_lags_66 (q := 68) rfl 0 rfl ?_
    refine v_iald h (k := ((8 * vn + farN x0 y) * 32 + (N 0).toNatClampNeg % 32)) hm.2.2.2.2.2.1.1 hm.2.2.2.2.2.1.2 (vp_in_nI (by omega) (by decide)) (nI_clamp (by omega)) dX10_lags_68 (q := 69) rfl ?_
    rw [show (σ 5 (((8 * vn + farN x0 y) * 32 + (N 0).toNatClampNeg % 32)) : Int32) = σ 5 ((8 * vn + farN x0 y) * 32 + (N 0).toNatClampNeg % 32) from rfl]
    refine v_iconst h (v := 1) dX10_lags_69 (q := 70) rfl (by decide) ?_
    refine v_isub h dX10_lags_70 (q := 71) rfl ?_
    exact v_iret h dX10_lags_71 ⟨_, rfl, by rw [hcm.elim (fun z => absurd z (by assumption)) id, ladd1, ev]; rfl, sM_rfl, hW.2.2.2⟩
  · refine v_aload_n h (i := 0) dX10_lags_37 (q := 38) rfl rfl 2 rfl ?_
    refine v_get h (k := 5) (v := .ref (b_ad w 5)) cls10 hm.1.1 hm.1.2 (Nat.le_of_ble_eq_true rfl) m854 rfl dX10_lags_38 (q := 41) rfl ?_
    refine v_iload h (i := 4) dX10_lags_41 (q := 43) rfl 0 rfl ?_
    refine v_iconst h (v := 1) dX10_lags_43 (q := 44) rfl (by decide) ?_
    refine v_aload_n h (i := 0) dX10_lags_44 (q := 45) rfl rfl 2 rfl ?_
    refine v_iconst h (v := 0) dX10_lags_45 (q := 46) rfl (by decide) ?_
    refine v_iload_n h (i := 3) dX10_lags_46 (q := 47) rfl rfl 1 rfl ?_
    refine v_aload_n h (i := 0) dX10_lags_47 (q := 48) rfl rfl 2 rfl ?_
    refine v_get h (k := 0) (v := .ref (b_ad w 1)) cls10 hm.1.1 hm.1.2 (Nat.le_of_ble_eq_true rfl) m849 rfl dX10_lags_48 (q := 51) rfl ?_
    refine v_iconst h (v := 1) dX10_lags_51 (q := 52) rfl (by decide) ?_
    refine v_iald h (k := 1) hm.2.1.1 hm.2.1.2 (vp_in_nI (n := 1) (by decide) (by decide)) (by decide) dX10_lags_52 (q := 53) rfl ?_
    rw [show (σ 1 1 : Int32) = nI vn from ev1]
    refine v_aload_n h (i := 0) dX10_lags_53 (q := 54) rfl rfl 2 rfl ?_
    refine v_callV h (As := []) (rest := [.int (nI vn), .int (nI (farN x0 y)), .int 0, .ref (b_ad w 0), .int 1, .int (nI ((8 * vn + farN x0 y) * 32 + (N 0).toNatClampNeg % 32)), .ref (b_ad w 5)]) (c_X10_beat (σ := σ) hm h0 hbt) cal_X10_beat calV_X10_beat m965 ⟨rfl, rfl, Nat.le_of_ble_eq_true rfl, Nat.le_of_ble_eq_true rfl⟩ rfl hm.1.1 hm.1.2 ⟨_, _, rfl⟩ rfl (Nat.le_of_ble_eq_true rfl) dX10_lags_54 (q := 57) rfl (kI ?_)
    refine v_callV h (As := [.int 0, .int (nI (farN x0 y)), .int (nI vn), .int (nI ((N 0).toNatClampNeg % 32))]) (rest := [.int 1, .int (nI ((8 * vn + farN x0 y) * 32 + (N 0).toNatClampNeg % 32)), .ref (b_ad w 5)]) (c_X10_given (σ := σ) (u := 0) (a := nI (farN x0 y)) (b := nI vn) (c := nI ((N 0).toNatClampNeg % 32)) (T := T) hm (by omega) hW.2.2.1) cal_X10_given calV_X10_given m1002 ⟨rfl, rfl, Nat.le_of_ble_eq_true rfl, Nat.le_of_ble_eq_true rfl⟩ rfl hm.1.1 hm.1.2 ⟨_, _, rfl⟩ rfl (Nat.le_of_ble_eq_true rfl) dX10_lags_57 (q := 60) rfl (kR (fun r57 σ57 h57 => ?_))
    refine v_iadd h dX10_lags_60 (q := 61) rfl ?_
    refine v_iast h (k := ((8 * vn + farN x0 y) * 32 + (N 0).toNatClampNeg % 32)) hm.2.2.2.2.2.1.1 hm.2.2.2.2.2.1.2 (vp_in_nI (by omega) (by decide)) (nI_clamp (by omega)) dX10_lags_61 (q := 62) rfl ?_
    refine v_aload_n h (i := 0) dX10_lags_62 (q := 63) rfl rfl 2 rfl ?_
    refine v_get h (k := 5) (v := .ref (b_ad w 5)) cls10 hm.1.1 hm.1.2 (Nat.le_of_ble_eq_true rfl) m854 rfl dX10_lags_63 (q := 66) rfl ?_
    refine v_iload h (i := 4) dX10_lags_66 (q := 68) rfl 0 rfl ?_
    refine v_iald h (k := ((8 * vn + farN x0 y) * 32 + (N 0).toNatClampNeg % 32)) hm.2.2.2.2.2.1.1 hm.2.2.2.2.2.1.2 (vp_in_nI (by omega) (by decide)) (nI_clamp (by omega)) dX10_lags_68 (q := 69) rfl ?_
    rw [show ((b_up σ57 5 (((8 * vn + farN x0 y) * 32 + (N 0).toNatClampNeg % 32)) (1 + r57)) 5 (((8 * vn + farN x0 y) * 32 + (N 0).toNatClampNeg % 32)) : Int32) = 1 + r57 from (by rw [b_up_s, upd_s])]
    refine v_iconst h (v := 1) dX10_lags_69 (q := 70) rfl (by decide) ?_
    refine v_isub h dX10_lags_70 (q := 71) rfl ?_
    exact v_iret h dX10_lags_71 ⟨_, rfl, by rw [ladd1, h57.1, ev]; rfl, fun j h5 h8 h9 => by rw [b_up_n h5]; exact h57.2 j h8 h9, hW.2.2.2.put (tn := (N 0).toNatClampNeg % 32) hv1 hd8 htm (by rw [b_up_s, h57.2 5 (by decide) (by decide)]) h57.1⟩

set_option maxHeartbeats 4000000 in
set_option maxRecDepth 100000 in
theorem c_X10_comes {w : bw} {σ : bSt} {b y : Nat} {N : bN} {T : bT} (hm : sModel w) (hW : MW σ N T) (hb : b < afN N) (hy : y < 64) : MV yX10_comes cX10_comes 4 (some .int) (rmm 4 95) w [.ref (b_ad w 0), .int (nI b), .int (nI y)] σ (pR (fun r σ' => r = lgN (gvT T) N (nI y) b ∧ sM σ σ' ∧ CM σ' T)) := by
  refine b_met (ls := [(0, .ref (b_ad w 0)), (1, .int (nI b)), (2, .int (nI y))]) (by decide) (Nat.le_of_ble_eq_true rfl) rfl (fun x h => ?_)
  have hb9 : b < 9 := Nat.lt_of_lt_of_le hb hW.af.2
  obtain ⟨x0, hx, ex⟩ := hW.cell hb9
  refine v_aload_n h (i := 0) dX10_comes_0 (q := 1) rfl rfl 0 rfl ?_
  refine v_iload_n h (i := 1) dX10_comes_1 (q := 2) rfl rfl 1 rfl ?_
  refine v_iconst h (v := 0) dX10_comes_2 (q := 3) rfl (by decide) ?_
  refine v_callV h (As := [.int (nI b), .int 0]) (rest := []) (c_X10_boatIs (σ := σ) (b := b) (f := 0) hm hb9 (by decide)) cal_X10_boatIs calV_X10_boatIs m961 ⟨rfl, rfl, Nat.le_of_ble_eq_true rfl, Nat.le_of_ble_eq_true rfl⟩ rfl hm.1.1 hm.1.2 ⟨_, _, rfl⟩ rfl (Nat.le_of_ble_eq_true rfl) dX10_comes_3 (q := 6) rfl (kI ?_)
  rw [show (σ 1 (12 + 4 * b) : Int32) = N (12 + 4 * b) from (hW.b (f := 0) hb9 (by decide))]
  refine v_istore_n h (i := 3) (ls1 := [(3, .int (N (12 + 4 * b))), (0, .ref (b_ad w 0)), (1, .int (nI b)), (2, .int (nI y))]) dX10_comes_6 (q := 7) rfl rfl (Nat.le_of_ble_eq_true rfl) rfl ?_
  refine v_aload_n h (i := 0) dX10_comes_7 (q := 8) rfl rfl 1 rfl ?_
  refine v_aload_n h (i := 0) dX10_comes_8 (q := 9) rfl rfl 1 rfl ?_
  refine v_iload_n h (i := 1) dX10_comes_9 (q := 10) rfl rfl 2 rfl ?_
  refine v_iconst h (v := 2) dX10_comes_10 (q := 11) rfl (by decide) ?_
  refine v_callV h (As := [.int (nI b), .int 2]) (rest := [.ref (b_ad w 0)]) (c_X10_boatIs (σ := σ) (b := b) (f := 2) hm hb9 (by decide)) cal_X10_boatIs calV_X10_boatIs m961 ⟨rfl, rfl, Nat.le_of_ble_eq_true rfl, Nat.le_of_ble_eq_true rfl⟩ rfl hm.1.1 hm.1.2 ⟨_, _, rfl⟩ rfl (Nat.le_of_ble_eq_true rfl) dX10_comes_11 (q := 14) rfl (kI ?_)
  rw [show (σ 1 (14 + 4 * b) : Int32) = nI x0 from ((hW.b (f := 2) hb9 (by decide)).trans ex)]
  refine v_iload_n h (i := 2) dX10_comes_14 (q := 15) rfl rfl 3 rfl ?_
  refine v_callV h (As := [.int (nI x0), .int (nI y)]) (rest := []) (c_X10_lags (σ := σ) (x0 := x0) (y := y) (N := N) (T := T) hm hW hx hy) cal_X10_lags calV_X10_lags m993 ⟨rfl, rfl, Nat.le_of_ble_eq_true rfl, Nat.le_of_ble_eq_true rfl⟩ rfl hm.1.1 hm.1.2 ⟨_, _, rfl⟩ rfl (Nat.le_of_ble_eq_true rfl) dX10_comes_15 (q := 18) rfl (kR (fun r15 σ15 h15 => ?_))
  refine v_iload_n h (i := 3) dX10_comes_18 (q := 19) rfl rfl 0 rfl ?_
  refine v_iconst h (v := 5) dX10_comes_19 (q := 20) rfl (by decide) ?_
  refine v_icmp_ne h (t := 34) dX10_comes_20 (by decide) (q := 23) rfl (fun c20 => ?_) (fun c20 => ?_)
  · refine v_iload_n h (i := 3) dX10_comes_34 (q := 35) rfl rfl 0 rfl ?_
    refine v_iconst h (v := 4) dX10_comes_35 (q := 36) rfl (by decide) ?_
    refine v_icmp_ne h (t := 48) dX10_comes_36 (by decide) (q := 39) rfl (fun c36 => ?_) (fun c36 => ?_)
    · refine v_iconst h (v := 0) dX10_comes_48 (q := 49) rfl (by decide) ?_
      refine v_iadd h dX10_comes_49 (q := 50) rfl ?_
      exact v_iret h dX10_comes_50 ⟨_, rfl, by unfold lgN latN latK; rw [if_pos hb, ex, far_nI hx hy, h15.1]; congr 1; first | rw [if_pos (by assumption)] | rw [if_neg (by assumption), if_pos (by assumption)] | rw [if_neg (by assumption), if_neg (by assumption)], h15.2⟩
    · refine v_aload_n h (i := 0) dX10_comes_39 (q := 40) rfl rfl 1 rfl ?_
      refine v_iload_n h (i := 1) dX10_comes_40 (q := 41) rfl rfl 2 rfl ?_
      refine v_iconst h (v := 1) dX10_comes_41 (q := 42) rfl (by decide) ?_
      refine v_callV h (As := [.int (nI b), .int 1]) (rest := [.int r15]) (c_X10_boatIs (σ := σ15) (b := b) (f := 1) hm hb9 (by decide)) cal_X10_boatIs calV_X10_boatIs m961 ⟨rfl, rfl, Nat.le_of_ble_eq_true rfl, Nat.le_of_ble_eq_true rfl⟩ rfl hm.1.1 hm.1.2 ⟨_, _, rfl⟩ rfl (Nat.le_of_ble_eq_true rfl) dX10_comes_42 (q := 45) rfl (kI ?_)
      rw [show (σ15 1 (13 + 4 * b) : Int32) = N (13 + 4 * b) from (by rw [h15.2.1 1 (by decide) (by decide) (by decide)]; exact hW.b (f := 1) hb9 (by decide))]
      refine v_goto h (t := 49) dX10_comes_45 (by decide) ?_
      refine v_iadd h dX10_comes_49 (q := 50) rfl ?_
      exact v_iret h dX10_comes_50 ⟨_, rfl, by unfold lgN latN latK; rw [if_pos hb, ex, far_nI hx hy, h15.1]; congr 1; first | rw [if_pos (by assumption)] | rw [if_neg (by assumption), if_pos (by assumption)] | rw [if_neg (by assumption), if_neg (by assumption)], h15.2⟩
  · refine v_aload_n h (i := 0) dX10_comes_23 (q := 24) rfl rfl 1 rfl ?_
    refine v_iload_n h (i := 1) dX10_comes_24 (q := 25) rfl rfl 2 rfl ?_
    refine v_iconst h (v := 1) dX10_comes_25 (q := 26) rfl (by decide) ?_
    refine v_callV h (As := [.int (nI b), .int 1]) (rest := [.int r15]) (c_X10_boatIs (σ := σ15) (b := b) (f := 1) hm hb9 (by decide)) cal_X10_boatIs calV_X10_boatIs m961 ⟨rfl, rfl, Nat.le_of_ble_eq_true rfl, Nat.le_of_ble_eq_true rfl⟩ rfl hm.1.1 hm.1.2 ⟨_, _, rfl⟩ rfl (Nat.le_of_ble_eq_true rfl) dX10_comes_26 (q := 29) rfl (kI ?_)
    rw [show (σ15 1 (13 + 4 * b) : Int32) = N (13 + 4 * b) from (by rw [h15.2.1 1 (by decide) (by decide) (by decide)]; exact hW.b (f := 1) hb9 (by decide))]
    refine v_iconst h (v := 3) dX10_comes_29 (q := 30) rfl (by decide) ?_
    refine v_idiv h dX10_comes_30 (q := 31) rfl (by decide) ?_
    refine v_goto h (t := 49) dX10_comes_31 (by decide) ?_
    refine v_iadd h dX10_comes_49 (q := 50) rfl ?_
    exact v_iret h dX10_comes_50 ⟨_, rfl, by unfold lgN latN latK; rw [if_pos hb, ex, far_nI hx hy, h15.1]; congr 1; first | rw [if_pos (by assumption)] | rw [if_neg (by assumption), if_pos (by assumption)] | rw [if_neg (by assumption), if_neg (by assumption)], h15.2⟩

set_option maxHeartbeats 4000000 in
set_option maxRecDepth 100000 in
theorem lX10_singers_4 {w : bw} {σ : bSt} {N : bN} {T : bT} (hm : sModel w) (hW : MW σ N T) {x : bX} (h : Cx x w cX10_singers RX10 3 (some .int) (rmm 2 43)) : ∀ m i : Nat, i + m = afN N → V x w 3 (pI (sngN N 9) σ) 4 [(2, .int (nI i)), (1, .int (sngN N i)), (0, .ref (b_ad w 0))] [] σ := by
  have h7 := hW.af
  have h0 := hW.bt.1
  have hbt := hW.bt.2
  refine b_ind (fun m ih => ?_)
  intro i him
  refine v_iload_n h (i := 2) dX10_singers_4 (q := 5) rfl rfl 0 rfl ?_
  refine v_aload_n h (i := 0) dX10_singers_5 (q := 6) rfl rfl 2 rfl ?_
  refine v_get h (k := 0) (v := .ref (b_ad w 1)) cls10 hm.1.1 hm.1.2 (Nat.le_of_ble_eq_true rfl) m849 rfl dX10_singers_6 (q := 9) rfl ?_
  refine v_bipush h (v := 7) dX10_singers_9 (q := 11) rfl (by decide) ?_
  refine v_iald h (k := 7) hm.2.1.1 hm.2.1.2 (vp_in_nI (n := 7) (by decide) (by decide)) (by decide) dX10_singers_11 (q := 12) rfl ?_
  rw [show (σ 1 7 : Int32) = nI (afN N) from h7.1]
  refine v_icmp_ge h (t := 39) dX10_singers_12 (by decide) (q := 15) rfl (fun c12 => ?_) (fun c12 => ?_)
  · refine v_iload_n h (i := 1) dX10_singers_39 (q := 40) rfl rfl 1 rfl ?_
    exact v_iret h dX10_singers_40 ⟨by rw [show (9 : Nat) = i + (9 - i) by omega, sng_stop (by have := nge (k := afN N) (nI_toInt (by omega)) (by omega) c12; omega)], rfl⟩
  · have hi : i < afN N := nlt (nI_toInt (by omega)) (by omega) c12
    have hb9 : i < 9 := by omega
    refine v_iload_n h (i := 1) dX10_singers_15 (q := 16) rfl rfl 1 rfl ?_
    refine v_aload_n h (i := 0) dX10_singers_16 (q := 17) rfl rfl 2 rfl ?_
    refine v_iload_n h (i := 2) dX10_singers_17 (q := 18) rfl rfl 0 rfl ?_
    refine v_callV h (As := [.int (nI i)]) (rest := [.int (sngN N i)]) (c_X10_sings (σ := σ) (b := i) (bt := (N 0).toNatClampNeg) hm hb9 h0 hbt) cal_X10_sings calV_X10_sings m957 ⟨rfl, rfl, Nat.le_of_ble_eq_true rfl, Nat.le_of_ble_eq_true rfl⟩ rfl hm.1.1 hm.1.2 ⟨_, _, rfl⟩ rfl (Nat.le_of_ble_eq_true rfl) dX10_singers_18 (q := 21) rfl (kB (fun c18 => ?_) (fun c18 => ?_))
    · refine v_if_eq h (t := 30) dX10_singers_21 (by decide) (q := 24) rfl (fun c => absurd c (by decide)) (fun _ => ?_)
      have hsg : sgN N i = true := by unfold sgN; rw [decide_eq_true_eq, ← hW.b (f := 3) hb9 (by decide)]; exact c18
      refine v_iconst h (v := 1) dX10_singers_24 (q := 25) rfl (by decide) ?_
      refine v_iload_n h (i := 2) dX10_singers_25 (q := 26) rfl rfl 0 rfl ?_
      refine v_ishl h dX10_singers_26 (q := 27) rfl ?_
      refine v_goto h (t := 31) dX10_singers_27 (by decide) ?_
      refine v_ior h dX10_singers_31 (q := 32) rfl ?_
      refine v_istore_n h (i := 1) (ls1 := [(1, .int ((sngN N i) ||| (1 <<< ((nI i) &&& 31)))), (2, .int (nI i)), (0, .ref (b_ad w 0))]) dX10_singers_32 (q := 33) rfl rfl (Nat.le_of_ble_eq_true rfl) rfl ?_
      refine v_iinc h (p := 1) (u := nI (i + 1)) (ls1 := [(2, .int (nI (i + 1))), (1, .int ((sngN N i) ||| (1 <<< ((nI i) &&& 31)))), (0, .ref (b_ad w 0))]) dX10_singers_33 (q := 36) rfl rfl (nI_1 i) (Nat.le_of_ble_eq_true rfl) rfl ?_
      refine v_goto h (t := 4) dX10_singers_36 (by decide) ?_
      have es : sngN N (i + 1) = (sngN N i) ||| (1 <<< ((nI i) &&& 31)) := by
        rw [sngN]
        rw [if_pos ⟨hi, hsg⟩]
      have z := ih (m - 1) (by omega) (i + 1) (by omega)
      rw [es] at z
      exact z
    · refine v_if_eq h (t := 30) dX10_singers_21 (by decide) (q := 24) rfl (fun _ => ?_) (fun c => absurd (by decide) c)
      have hsg : ¬ sgN N i = true := by unfold sgN; rw [decide_eq_true_eq, ← hW.b (f := 3) hb9 (by decide)]; exact c18
      refine v_iconst h (v := 0) dX10_singers_30 (q := 31) rfl (by decide) ?_
      refine v_ior h dX10_singers_31 (q := 32) rfl ?_
      refine v_istore_n h (i := 1) (ls1 := [(1, .int ((sngN N i) ||| 0)), (2, .int (nI i)), (0, .ref (b_ad w 0))]) dX10_singers_32 (q := 33) rfl rfl (Nat.le_of_ble_eq_true rfl) rfl ?_
      refine v_iinc h (p := 1) (u := nI (i + 1)) (ls1 := [(2, .int (nI (i + 1))), (1, .int ((sngN N i) ||| 0)), (0, .ref (b_ad w 0))]) dX10_singers_33 (q := 36) rfl rfl (nI_1 i) (Nat.le_of_ble_eq_true rfl) rfl ?_
      refine v_goto h (t := 4) dX10_singers_36 (by decide) ?_
      have es : sngN N (i + 1) = (sngN N i) ||| 0 := by
        rw [sngN]
        rw [if_neg (fun z => hsg z.2), i_or_0]
      have z := ih (m - 1) (by omega) (i + 1) (by omega)
      rw [es] at z
      exact z
set_option maxHeartbeats 4000000 in
set_option maxRecDepth 100000 in
theorem c_X10_singers {w : bw} {σ : bSt} {N : bN} {T : bT} (hm : sModel w) (hW : MW σ N T) : MV yX10_singers cX10_singers 3 (some .int) (rmm 2 43) w [.ref (b_ad w 0)] σ (pI (sngN N 9) σ) := by
  refine b_met (ls := [(0, .ref (b_ad w 0))]) (by decide) (Nat.le_of_ble_eq_true rfl) rfl (fun x h => ?_)
  refine v_iconst h (v := 0) dX10_singers_0 (q := 1) rfl (by decide) ?_
  refine v_istore_n h (i := 1) (ls1 := [(1, .int 0), (0, .ref (b_ad w 0))]) dX10_singers_1 (q := 2) rfl rfl (Nat.le_of_ble_eq_true rfl) rfl ?_
  refine v_iconst h (v := 0) dX10_singers_2 (q := 3) rfl (by decide) ?_
  refine v_istore_n h (i := 2) (ls1 := [(2, .int 0), (1, .int 0), (0, .ref (b_ad w 0))]) dX10_singers_3 (q := 4) rfl rfl (Nat.le_of_ble_eq_true rfl) rfl ?_
  have h7 := hW.af
  exact lX10_singers_4 hm hW h (afN N) 0 (by omega)

set_option maxHeartbeats 4000000 in
set_option maxRecDepth 100000 in
theorem lX10_isTogether_20 {w : bw} {σ : bSt} {y : Nat} {heard : Int32} {N : bN} {T : bT} (hm : sModel w) (hW : MW σ N T) (hy : y < 64) (hh : hdN N heard) {x : bX} (h : Cx x w cX10_isTogether RX10 7 (some .boolean) (rmm 5 118)) : ¬ bcJ heard ≤ 1 → ∀ m b : Nat, b + m = afN N → ∀ (f : Int32) (τ : bSt), tgR (lgN (gvT T) N (nI y)) heard b = some f → sM σ τ → CM τ T → V x w 7 (pZ (togN (gvT T) N (nI y) heard = true) (fun σ' => sM σ σ' ∧ CM σ' T)) 20 [(5, .int (nI b)), (4, .int 1), (3, .int f), (0, .ref (b_ad w 0)), (1, .int (nI y)), (2, .int heard)] [] τ := by
  intro hb1
  have h7 := hW.af
  refine b_ind (fun m ih => ?_)
  intro b hbm f τ htg hsm hcm
  have hWt := hW.sc hsm hcm
  have h7t := hWt.af
  refine v_iload h (i := 5) dX10_isTogether_20 (q := 22) rfl 0 rfl ?_
  refine v_aload_n h (i := 0) dX10_isTogether_22 (q := 23) rfl rfl 3 rfl ?_
  refine v_get h (k := 0) (v := .ref (b_ad w 1)) cls10 hm.1.1 hm.1.2 (Nat.le_of_ble_eq_true rfl) m849 rfl dX10_isTogether_23 (q := 26) rfl ?_
  refine v_bipush h (v := 7) dX10_isTogether_26 (q := 28) rfl (by decide) ?_
  refine v_iald h (k := 7) hm.2.1.1 hm.2.1.2 (vp_in_nI (n := 7) (by decide) (by decide)) (by decide) dX10_isTogether_28 (q := 29) rfl ?_
  rw [show (τ 1 7 : Int32) = nI (afN N) from h7t.1]
  refine v_icmp_ge h (t := 82) dX10_isTogether_29 (by decide) (q := 32) rfl (fun c29 => ?_) (fun c29 => ?_)
  · refine v_iload h (i := 4) dX10_isTogether_82 (q := 84) rfl 1 rfl ?_
    exact v_zret h rfl dX10_isTogether_84 (pZ1 ⟨hsm, hcm⟩ (tog_end (b := b) (by omega) hh (by have := nge (k := afN N) (nI_toInt (by omega)) (by omega) c29; omega) hb1 htg))
  · have hba : b < afN N := nlt (nI_toInt (by omega)) (by omega) c29
    have hb9 : b < 9 := by omega
    refine v_iload h (i := 4) dX10_isTogether_32 (q := 34) rfl 1 rfl ?_
    refine v_if_eq h (t := 82) dX10_isTogether_34 (by decide) (q := 37) rfl (fun c => absurd c (by decide)) (fun _ => ?_)
    refine v_iload_n h (i := 2) dX10_isTogether_37 (q := 38) rfl rfl 5 rfl ?_
    refine v_iload h (i := 5) dX10_isTogether_38 (q := 40) rfl 0 rfl ?_
    refine v_ishr h dX10_isTogether_40 (q := 41) rfl ?_
    refine v_iconst h (v := 1) dX10_isTogether_41 (q := 42) rfl (by decide) ?_
    refine v_iand h dX10_isTogether_42 (q := 43) rfl ?_
    rw [show ((heard >>> ((nI b) &&& 31)) &&& 1 : Int32) = ushr heard (nI b) &&& 1 from (sshr1 (by omega))]
    refine v_iconst h (v := 1) dX10_isTogether_43 (q := 44) rfl (by decide) ?_
    refine v_icmp_ne h (t := 76) dX10_isTogether_44 (by decide) (q := 47) rfl (fun c44 => ?_) (fun c44 => ?_)
    · have c44z : ushr heard (nI b) &&& 1 = 0 := (bit01 heard b (by omega)).resolve_right c44
      refine v_iinc h (p := 0) (u := nI (b + 1)) (ls1 := [(5, .int (nI (b + 1))), (4, .int 1), (3, .int f), (0, .ref (b_ad w 0)), (1, .int (nI y)), (2, .int heard)]) dX10_isTogether_76 (q := 79) rfl rfl (nI_1 b) (Nat.le_of_ble_eq_true rfl) rfl ?_
      refine v_goto h (t := 20) dX10_isTogether_79 (by decide) ?_
      exact ih (m - 1) (by omega) (b + 1) (by omega) f τ (tg_step0 htg c44z) hsm hcm
    · have c44z : ¬ ushr heard (nI b) &&& 1 = 0 := by rw [c44]; decide
      refine v_aload_n h (i := 0) dX10_isTogether_47 (q := 48) rfl rfl 3 rfl ?_
      refine v_iload h (i := 5) dX10_isTogether_48 (q := 50) rfl 0 rfl ?_
      refine v_iload_n h (i := 1) dX10_isTogether_50 (q := 51) rfl rfl 4 rfl ?_
      refine v_callV h (As := [.int (nI b), .int (nI y)]) (rest := []) (c_X10_comes (σ := τ) (b := b) (y := y) (N := N) (T := T) hm hWt hba hy) cal_X10_comes calV_X10_comes m989 ⟨rfl, rfl, Nat.le_of_ble_eq_true rfl, Nat.le_of_ble_eq_true rfl⟩ rfl hm.1.1 hm.1.2 ⟨_, _, rfl⟩ rfl (Nat.le_of_ble_eq_true rfl) dX10_isTogether_51 (q := 54) rfl (kR (fun r51 σ51 h51 => ?_))
      refine v_istore h (i := 6) (ls1 := [(6, .int r51), (5, .int (nI b)), (4, .int 1), (3, .int f), (0, .ref (b_ad w 0)), (1, .int (nI y)), (2, .int heard)]) dX10_isTogether_54 (q := 56) rfl (Nat.le_of_ble_eq_true rfl) rfl ?_
      refine v_iload_n h (i := 3) dX10_isTogether_56 (q := 57) rfl rfl 3 rfl ?_
      refine v_if_lt h (t := 66) dX10_isTogether_57 (by decide) (q := 60) rfl (fun c57 => ?_) (fun c57 => ?_)
      · refine v_iconst h (v := 1) dX10_isTogether_66 (q := 67) rfl (by decide) ?_
        refine v_goto h (t := 71) dX10_isTogether_67 (by decide) ?_
        refine v_istore h (i := 4) (ls1 := [(4, .int 1), (6, .int r51), (5, .int (nI b)), (3, .int f), (0, .ref (b_ad w 0)), (1, .int (nI y)), (2, .int heard)]) dX10_isTogether_71 (q := 73) rfl (Nat.le_of_ble_eq_true rfl) rfl ?_
        refine v_iload h (i := 6) dX10_isTogether_73 (q := 75) rfl 1 rfl ?_
        refine v_istore_n h (i := 3) (ls1 := [(3, .int r51), (4, .int 1), (6, .int r51), (5, .int (nI b)), (0, .ref (b_ad w 0)), (1, .int (nI y)), (2, .int heard)]) dX10_isTogether_75 (q := 76) rfl rfl (Nat.le_of_ble_eq_true rfl) rfl ?_
        skip
        refine v_iinc h (p := 3) (u := nI (b + 1)) (ls1 := [(5, .int (nI (b + 1))), (3, .int r51), (4, .int 1), (6, .int r51), (0, .ref (b_ad w 0)), (1, .int (nI y)), (2, .int heard)]) dX10_isTogether_76 (q := 79) rfl rfl (nI_1 b) (Nat.le_of_ble_eq_true rfl) rfl ?_
        refine v_goto h (t := 20) dX10_isTogether_79 (by decide) ?_
        refine v_ls [0, 2, 1, 4, 5, 6] (ls2 := [(5, .int (nI (b + 1))), (4, .int 1), (3, .int r51), (0, .ref (b_ad w 0)), (1, .int (nI y)), (2, .int heard)]) rfl ?_
        exact ih (m - 1) (by omega) (b + 1) (by omega) r51 σ51 (tg_step1 htg c44z h51.1 (by first | exact Or.inl c57 | exact Or.inr c63.symm | exact Or.inr c63)) (hsm.trans h51.2.1) h51.2.2
      · refine v_iload_n h (i := 3) dX10_isTogether_60 (q := 61) rfl rfl 3 rfl ?_
        refine v_iload h (i := 6) dX10_isTogether_61 (q := 63) rfl 0 rfl ?_
        refine v_icmp_ne h (t := 70) dX10_isTogether_63 (by decide) (q := 66) rfl (fun c63 => ?_) (fun c63 => ?_)
        · refine v_iconst h (v := 0) dX10_isTogether_70 (q := 71) rfl (by decide) ?_
          refine v_istore h (i := 4) (ls1 := [(4, .int 0), (6, .int r51), (5, .int (nI b)), (3, .int f), (0, .ref (b_ad w 0)), (1, .int (nI y)), (2, .int heard)]) dX10_isTogether_71 (q := 73) rfl (Nat.le_of_ble_eq_true rfl) rfl ?_
          refine v_iload h (i := 6) dX10_isTogether_73 (q := 75) rfl 1 rfl ?_
          refine v_istore_n h (i := 3) (ls1 := [(3, .int r51), (4, .int 0), (6, .int r51), (5, .int (nI b)), (0, .ref (b_ad w 0)), (1, .int (nI y)), (2, .int heard)]) dX10_isTogether_75 (q := 76) rfl rfl (Nat.le_of_ble_eq_true rfl) rfl ?_
          skip
          refine v_iinc h (p := 3) (u := nI (b + 1)) (ls1 := [(5, .int (nI (b + 1))), (3, .int r51), (4, .int 0), (6, .int r51), (0, .ref (b_ad w 0)), (1, .int (nI y)), (2, .int heard)]) dX10_isTogether_76 (q := 79) rfl rfl (nI_1 b) (Nat.le_of_ble_eq_true rfl) rfl ?_
          refine v_goto h (t := 20) dX10_isTogether_79 (by decide) ?_
          have hnt := ntog2 (g := gvT T) (N := N) (y := nI y) (b := b + 1) (by omega) (tg_stepN htg c44z (by exact h51.1) c57 (fun z => c63 z.symm))
          refine v_iload h (i := 5) dX10_isTogether_20 (q := 22) rfl 0 rfl ?_
          refine v_aload_n h (i := 0) dX10_isTogether_22 (q := 23) rfl rfl 4 rfl ?_
          refine v_get h (k := 0) (v := .ref (b_ad w 1)) cls10 hm.1.1 hm.1.2 (Nat.le_of_ble_eq_true rfl) m849 rfl dX10_isTogether_23 (q := 26) rfl ?_
          refine v_bipush h (v := 7) dX10_isTogether_26 (q := 28) rfl (by decide) ?_
          refine v_iald h (k := 7) hm.2.1.1 hm.2.1.2 (vp_in_nI (n := 7) (by decide) (by decide)) (by decide) dX10_isTogether_28 (q := 29) rfl ?_
          rw [show (σ51 1 7 : Int32) = nI (afN N) from (by rw [h51.2.1 1 (by decide) (by decide) (by decide)]; exact h7t.1)]
          refine v_icmp_ge h (t := 82) dX10_isTogether_29 (by decide) (q := 32) rfl (fun c29_1 => ?_) (fun c29_1 => ?_)
          · refine v_iload h (i := 4) dX10_isTogether_82 (q := 84) rfl 2 rfl ?_
            exact v_zret h rfl dX10_isTogether_84 (pZ0 ⟨hsm.trans h51.2.1, h51.2.2⟩ hnt)
          · skip
            refine v_iload h (i := 4) dX10_isTogether_32 (q := 34) rfl 2 rfl ?_
            refine v_if_eq h (t := 82) dX10_isTogether_34 (by decide) (q := 37) rfl (fun _ => ?_) (fun c => absurd (by decide) c)
            refine v_iload h (i := 4) dX10_isTogether_82 (q := 84) rfl 2 rfl ?_
            exact v_zret h rfl dX10_isTogether_84 (pZ0 ⟨hsm.trans h51.2.1, h51.2.2⟩ hnt)
        · refine v_iconst h (v := 1) dX10_isTogether_66 (q := 67) rfl (by decide) ?_
          refine v_goto h (t := 71) dX10_isTogether_67 (by decide) ?_
          refine v_istore h (i := 4) (ls1 := [(4, .int 1), (6, .int r51), (5, .int (nI b)), (3, .int f), (0, .ref (b_ad w 0)), (1, .int (nI y)), (2, .int heard)]) dX10_isTogether_71 (q := 73) rfl (Nat.le_of_ble_eq_true rfl) rfl ?_
          refine v_iload h (i := 6) dX10_isTogether_73 (q := 75) rfl 1 rfl ?_
          refine v_istore_n h (i := 3) (ls1 := [(3, .int r51), (4, .int 1), (6, .int r51), (5, .int (nI b)), (0, .ref (b_ad w 0)), (1, .int (nI y)), (2, .int heard)]) dX10_isTogether_75 (q := 76) rfl rfl (Nat.le_of_ble_eq_true rfl) rfl ?_
          skip
          refine v_iinc h (p := 3) (u := nI (b + 1)) (ls1 := [(5, .int (nI (b + 1))), (3, .int r51), (4, .int 1), (6, .int r51), (0, .ref (b_ad w 0)), (1, .int (nI y)), (2, .int heard)]) dX10_isTogether_76 (q := 79) rfl rfl (nI_1 b) (Nat.le_of_ble_eq_true rfl) rfl ?_
          refine v_goto h (t := 20) dX10_isTogether_79 (by decide) ?_
          refine v_ls [0, 2, 1, 4, 5, 6] (ls2 := [(5, .int (nI (b + 1))), (4, .int 1), (3, .int r51), (0, .ref (b_ad w 0)), (1, .int (nI y)), (2, .int heard)]) rfl ?_
          exact ih (m - 1) (by omega) (b + 1) (by omega) r51 σ51 (tg_step1 htg c44z h51.1 (by first | exact Or.inl c57 | exact Or.inr c63.symm | exact Or.inr c63)) (hsm.trans h51.2.1) h51.2.2
set_option maxHeartbeats 4000000 in
set_option maxRecDepth 100000 in
theorem c_X10_isTogether {w : bw} {σ : bSt} {y : Nat} {heard : Int32} {N : bN} {T : bT} (hm : sModel w) (hW : MW σ N T) (hy : y < 64) (hh : hdN N heard) : MV yX10_isTogether cX10_isTogether 7 (some .boolean) (rmm 5 118) w [.ref (b_ad w 0), .int (nI y), .int heard] σ (pZ (togN (gvT T) N (nI y) heard = true) (fun σ' => sM σ σ' ∧ CM σ' T)) := by
  refine b_met (ls := [(0, .ref (b_ad w 0)), (1, .int (nI y)), (2, .int heard)]) (by decide) (Nat.le_of_ble_eq_true rfl) rfl (fun x h => ?_)
  refine v_iconst h (v := -1) dX10_isTogether_0 (q := 1) rfl (by decide) ?_
  refine v_istore_n h (i := 3) (ls1 := [(3, .int (-1)), (0, .ref (b_ad w 0)), (1, .int (nI y)), (2, .int heard)]) dX10_isTogether_1 (q := 2) rfl rfl (Nat.le_of_ble_eq_true rfl) rfl ?_
  refine v_iload_n h (i := 2) dX10_isTogether_2 (q := 3) rfl rfl 3 rfl ?_
  refine v_callS h (As := [.int heard]) (rest := []) (c_bits (σ := σ) (v := heard)) cal_X10_bits m1046 m1045 ⟨rfl, rfl, Nat.le_of_ble_eq_true rfl, Nat.le_of_ble_eq_true rfl⟩ rfl rfl (Nat.le_of_ble_eq_true rfl) dX10_isTogether_3 (q := 6) rfl (kI ?_)
  refine v_iconst h (v := 1) dX10_isTogether_6 (q := 7) rfl (by decide) ?_
  refine v_icmp_le h (t := 14) dX10_isTogether_7 (by decide) (q := 10) rfl (fun c7 => ?_) (fun c7 => ?_)
  · refine v_iconst h (v := 0) dX10_isTogether_14 (q := 15) rfl (by decide) ?_
    refine v_istore h (i := 4) (ls1 := [(4, .int 0), (3, .int (-1)), (0, .ref (b_ad w 0)), (1, .int (nI y)), (2, .int heard)]) dX10_isTogether_15 (q := 17) rfl (Nat.le_of_ble_eq_true rfl) rfl ?_
    refine v_iconst h (v := 0) dX10_isTogether_17 (q := 18) rfl (by decide) ?_
    refine v_istore h (i := 5) (ls1 := [(5, .int 0), (4, .int 0), (3, .int (-1)), (0, .ref (b_ad w 0)), (1, .int (nI y)), (2, .int heard)]) dX10_isTogether_18 (q := 20) rfl (Nat.le_of_ble_eq_true rfl) rfl ?_
    have hnt := ntog1 (g := gvT T) (N := N) (y := nI y) c7
    refine v_iload h (i := 5) dX10_isTogether_20 (q := 22) rfl 0 rfl ?_
    refine v_aload_n h (i := 0) dX10_isTogether_22 (q := 23) rfl rfl 3 rfl ?_
    refine v_get h (k := 0) (v := .ref (b_ad w 1)) cls10 hm.1.1 hm.1.2 (Nat.le_of_ble_eq_true rfl) m849 rfl dX10_isTogether_23 (q := 26) rfl ?_
    refine v_bipush h (v := 7) dX10_isTogether_26 (q := 28) rfl (by decide) ?_
    refine v_iald h (k := 7) hm.2.1.1 hm.2.1.2 (vp_in_nI (n := 7) (by decide) (by decide)) (by decide) dX10_isTogether_28 (q := 29) rfl ?_
    rw [show (σ 1 7 : Int32) = nI (afN N) from hW.af.1]
    refine v_icmp_ge h (t := 82) dX10_isTogether_29 (by decide) (q := 32) rfl (fun c29 => ?_) (fun c29 => ?_)
    · refine v_iload h (i := 4) dX10_isTogether_82 (q := 84) rfl 1 rfl ?_
      exact v_zret h rfl dX10_isTogether_84 (pZ0 ⟨sM_rfl, hW.2.2.2⟩ hnt)
    · skip
      refine v_iload h (i := 4) dX10_isTogether_32 (q := 34) rfl 1 rfl ?_
      refine v_if_eq h (t := 82) dX10_isTogether_34 (by decide) (q := 37) rfl (fun _ => ?_) (fun c => absurd (by decide) c)
      refine v_iload h (i := 4) dX10_isTogether_82 (q := 84) rfl 1 rfl ?_
      exact v_zret h rfl dX10_isTogether_84 (pZ0 ⟨sM_rfl, hW.2.2.2⟩ hnt)
  · refine v_iconst h (v := 1) dX10_isTogether_10 (q := 11) rfl (by decide) ?_
    refine v_goto h (t := 15) dX10_isTogether_11 (by decide) ?_
    refine v_istore h (i := 4) (ls1 := [(4, .int 1), (3, .int (-1)), (0, .ref (b_ad w 0)), (1, .int (nI y)), (2, .int heard)]) dX10_isTogether_15 (q := 17) rfl (Nat.le_of_ble_eq_true rfl) rfl ?_
    refine v_iconst h (v := 0) dX10_isTogether_17 (q := 18) rfl (by decide) ?_
    refine v_istore h (i := 5) (ls1 := [(5, .int 0), (4, .int 1), (3, .int (-1)), (0, .ref (b_ad w 0)), (1, .int (nI y)), (2, .int heard)]) dX10_isTogether_18 (q := 20) rfl (Nat.le_of_ble_eq_true rfl) rfl ?_
    have h7 := hW.af
    exact lX10_isTogether_20 hm hW hy hh h c7 (afN N) 0 (by omega) (-1) σ rfl sM_rfl hW.2.2.2

set_option maxHeartbeats 4000000 in
set_option maxRecDepth 100000 in
theorem c_X10_ofOne {w : bw} {σ : bSt} {l : Nat} {what : Int32} {N : bN} {T : bT} (hm : sModel w) (hW : MW σ N T) (hl : l < liN N) (hw : wi what 0 3) : MV yX10_ofOne cX10_ofOne 3 (some .int) (rmm 6 144) w [.ref (b_ad w 0), .int (nI l), .int what] σ (pR (fun r σ' => r = telN (gvT T) N l what ∧ sM σ σ' ∧ CM σ' T)) := by
  refine b_met (ls := [(0, .ref (b_ad w 0)), (1, .int (nI l)), (2, .int what)]) (by decide) (Nat.le_of_ble_eq_true rfl) rfl (fun x h => ?_)
  have hl6 : l < 6 := Nat.lt_of_lt_of_le hl hW.li.2
  obtain ⟨y, hy, ey⟩ := (hW.2.1.2.2.2.2.2.2.2 l hl6).1
  refine v_iload_n h (i := 2) dX10_ofOne_0 (q := 1) rfl rfl 2 rfl ?_
  refine v_iconst h (v := 3) dX10_ofOne_1 (q := 2) rfl (by decide) ?_
  refine v_icmp_ne h (t := 30) dX10_ofOne_2 (by decide) (q := 5) rfl (fun c2 => ?_) (fun c2 => ?_)
  · obtain ⟨k, hk, rfl⟩ := wi_0 (n := 3) hw rfl
    have hk3 : k < 3 := by
      rcases (show k < 3 ∨ k = 3 by omega) with z | z
      · exact z
      · subst z; exact absurd rfl c2
    refine v_aload_n h (i := 0) dX10_ofOne_30 (q := 31) rfl rfl 0 rfl ?_
    refine v_iload_n h (i := 1) dX10_ofOne_31 (q := 32) rfl rfl 1 rfl ?_
    refine v_iload_n h (i := 2) dX10_ofOne_32 (q := 33) rfl rfl 2 rfl ?_
    refine v_callV h (As := [.int (nI l), .int (nI k)]) (rest := []) (c_X10_listenerIs (σ := σ) (l := l) (f := k) hm hl6 hk3) cal_X10_listenerIs calV_X10_listenerIs m1033 ⟨rfl, rfl, Nat.le_of_ble_eq_true rfl, Nat.le_of_ble_eq_true rfl⟩ rfl hm.1.1 hm.1.2 ⟨_, _, rfl⟩ rfl (Nat.le_of_ble_eq_true rfl) dX10_ofOne_33 (q := 36) rfl (kI ?_)
    exact v_iret h dX10_ofOne_36 ⟨_, rfl, by unfold telN; rw [if_neg c2, cl_nI (n := k) (by omega)]; exact hW.n (by omega), sM_rfl, hW.2.2.2⟩
  · refine v_aload_n h (i := 0) dX10_ofOne_5 (q := 6) rfl rfl 0 rfl ?_
    refine v_aload_n h (i := 0) dX10_ofOne_6 (q := 7) rfl rfl 0 rfl ?_
    refine v_iload_n h (i := 1) dX10_ofOne_7 (q := 8) rfl rfl 1 rfl ?_
    refine v_iconst h (v := 0) dX10_ofOne_8 (q := 9) rfl (by decide) ?_
    refine v_callV h (As := [.int (nI l), .int 0]) (rest := [.ref (b_ad w 0)]) (c_X10_listenerIs (σ := σ) (l := l) (f := 0) hm hl6 (by decide)) cal_X10_listenerIs calV_X10_listenerIs m1033 ⟨rfl, rfl, Nat.le_of_ble_eq_true rfl, Nat.le_of_ble_eq_true rfl⟩ rfl hm.1.1 hm.1.2 ⟨_, _, rfl⟩ rfl (Nat.le_of_ble_eq_true rfl) dX10_ofOne_9 (q := 12) rfl (kI ?_)
    rw [show (σ 1 (48 + 3 * l) : Int32) = nI y from ((hW.n (by omega)).trans ey)]
    refine v_aload_n h (i := 0) dX10_ofOne_12 (q := 13) rfl rfl 0 rfl ?_
    refine v_callV h (As := []) (rest := [.int (nI y), .ref (b_ad w 0)]) (c_X10_singers (σ := σ) (N := N) (T := T) hm hW) cal_X10_singers calV_X10_singers m1037 ⟨rfl, rfl, Nat.le_of_ble_eq_true rfl, Nat.le_of_ble_eq_true rfl⟩ rfl hm.1.1 hm.1.2 ⟨_, _, rfl⟩ rfl (Nat.le_of_ble_eq_true rfl) dX10_ofOne_13 (q := 16) rfl (kI ?_)
    refine v_callV h (As := [.int (nI y), .int (sngN N 9)]) (rest := []) (c_X10_isTogether (σ := σ) (y := y) (heard := sngN N 9) (N := N) (T := T) hm hW hy sng_hd) cal_X10_isTogether calV_X10_isTogether m1041 ⟨rfl, rfl, Nat.le_of_ble_eq_true rfl, Nat.le_of_ble_eq_true rfl⟩ rfl hm.1.1 hm.1.2 ⟨_, _, rfl⟩ rfl (Nat.le_of_ble_eq_true rfl) dX10_ofOne_16 (q := 19) rfl (kZ (fun σ16 h16 c16 => ?_) (fun σ16 h16 c16 => ?_))
    · refine v_if_eq h (t := 26) dX10_ofOne_19 (by decide) (q := 22) rfl (fun c => absurd c (by decide)) (fun _ => ?_)
      refine v_iconst h (v := 1) dX10_ofOne_22 (q := 23) rfl (by decide) ?_
      refine v_goto h (t := 36) dX10_ofOne_23 (by decide) ?_
      exact v_iret h dX10_ofOne_36 ⟨_, rfl, by unfold telN; rw [if_pos c2, ey, if_pos c16], h16⟩
    · refine v_if_eq h (t := 26) dX10_ofOne_19 (by decide) (q := 22) rfl (fun _ => ?_) (fun c => absurd (by decide) c)
      refine v_iconst h (v := 0) dX10_ofOne_26 (q := 27) rfl (by decide) ?_
      refine v_goto h (t := 36) dX10_ofOne_27 (by decide) ?_
      exact v_iret h dX10_ofOne_36 ⟨_, rfl, by unfold telN; rw [if_pos c2, ey, if_neg c16], h16⟩
