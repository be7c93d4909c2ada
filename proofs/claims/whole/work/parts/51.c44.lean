theorem upd_sh {f g : Nat → Int32} {a i n k : Nat} {v : Int32} (h : ∀ k, k < n → f (a + k) = g k) (hk : k < n) : upd f (a + i) v (a + k) = upd g i v k := by
  unfold upd
  by_cases e : k = i
  · rw [if_pos e, if_pos (by omega)]
  · rw [if_neg e, if_neg (by omega)]
    exact h k hk
theorem MD.kp {row : Nat → Int32} {D : bD} (h : MD row D) {row' : Nat → Int32} (e : row' = row) : MD row' D := e ▸ h
theorem RQ.image {σ : bSt} {A : bA} (h : RQ σ A) : RQ (b_up (b_set σ 2 (σ 1)) 0 3 (σ 0 3 + 1)) (oImage A).2 := by
  obtain ⟨h1, h2, h3, h4, h5, h6, h7⟩ := h
  have ho : ∀ j, j ≠ 0 → j ≠ 2 → b_up (b_set σ 2 (σ 1)) 0 3 (σ 0 3 + 1) j = σ j := fun j a b => by rw [b_up_n a, b_set_n b]
  refine ⟨by rw [ho 1 (by decide) (by decide)]; exact h1, h2.sc (ho 5 (by decide) (by decide)), ?_, fun _ => by rw [b_up_n (by decide), b_set_s]; exact h1, by rw [ho 4 (by decide) (by decide)]; exact h5, ?_, h7.at (fun j a b => ho j (by omega) (by omega))⟩
  · rw [b_up_s, upd_s, h3]
    rfl
  · rw [b_up_s, upd_n (by decide), b_set_n (by decide), ho 11 (by decide) (by decide)]
    exact h6
theorem RQ.restore {σ τ : bSt} {A : bA} (h : RQ σ A) (hz : ¬ A.2.2.1 = 0) (e1 : τ 1 = σ 2) (ho : ∀ j, j ≠ 1 → j ≠ 5 → τ j = σ j) (hc : ∀ k, k < 2560 → τ 5 k = 0) : RQ τ (A.2.1, A.2) :=
  h.set1 (by rw [ho 0 (by decide) (by decide)]; exact ⟨rfl, rfl⟩) (fun j hj => ho j (by omega) (by omega)) (by rw [e1]; exact h.2.2.2.1 hz) (CM_0 hc)

set_option maxHeartbeats 4000000 in
set_option maxRecDepth 100000 in
theorem lX10_fromWhere_20 {w : bw} {σ : bSt} {A : bA} {cells lags : Int32} (hm : sModel w) (hR : RQ σ A) {x : bX} (h : Cx x w cX10_fromWhere RX10 5 (some .int) (rmm 5 118)) : ∀ u v : Nat, u ≤ 262143 → v ≤ 999999 → wj cells 0 262143 ∧ wj lags 0 999999 → cells = nI u → lags = nI v → ∀ m c : Nat, c + m = 64 → ∀ τ : bSt, RQ τ A → V x w 5 (pM (oFromWhere cells lags A)) 20 [(4, .int (nI c)), (3, .int (nI (ctP (ogB (gvT A.1.2.1) A.1.1 u v) c))), (0, .ref (b_ad w 0)), (1, .int (nI u)), (2, .int (nI v))] [] τ := by
  intro u v hu hv hcond ecu elv
  refine b_ind (fun m ih => ?_)
  intro c hcm τ hT
  refine v_iload h (i := 4) dX10_fromWhere_20 (q := 22) rfl 0 rfl ?_
  refine v_bipush h (v := 64) dX10_fromWhere_22 (q := 24) rfl (by decide) ?_
  refine v_icmp_ge h (t := 52) dX10_fromWhere_24 (by decide) (q := 27) rfl (fun c24 => ?_) (fun c24 => ?_)
  · refine v_iload_n h (i := 3) dX10_fromWhere_52 (q := 53) rfl rfl 1 rfl ?_
    exact v_iret h dX10_fromWhere_53 (pM_of (by subst ecu elv; unfold oFromWhere; rw [if_pos hcond, cl_nI (n := u) (by omega), cl_nI (n := v) (by omega), show (64 : Nat) = c by have := nge (k := 64) rfl (by omega) c24; omega]) hT)
  · have hc64 : c < 64 := nlt rfl (by omega) c24
    refine v_iload_n h (i := 3) dX10_fromWhere_27 (q := 28) rfl rfl 1 rfl ?_
    refine v_aload_n h (i := 0) dX10_fromWhere_28 (q := 29) rfl rfl 2 rfl ?_
    refine v_iload h (i := 4) dX10_fromWhere_29 (q := 31) rfl 0 rfl ?_
    refine v_iload_n h (i := 1) dX10_fromWhere_31 (q := 32) rfl rfl 3 rfl ?_
    refine v_iload_n h (i := 2) dX10_fromWhere_32 (q := 33) rfl rfl 4 rfl ?_
    refine v_callV h (As := [.int (nI c), .int (nI u), .int (nI v)]) (rest := [.int (nI (ctP (ogB (gvT A.1.2.1) A.1.1 u v) c))]) (c_X10_mayBeFrom (σ := τ) (c := c) (u := u) (v := v) (N := A.1.1) (T := A.1.2.1) hm hT.mw hc64 (by omega) (by omega)) cal_X10_mayBeFrom calV_X10_mayBeFrom m1253 ⟨rfl, rfl, Nat.le_of_ble_eq_true rfl, Nat.le_of_ble_eq_true rfl⟩ rfl hm.1.1 hm.1.2 ⟨_, _, rfl⟩ rfl (Nat.le_of_ble_eq_true rfl) dX10_fromWhere_33 (q := 36) rfl (kZ (fun σ33 h33 c33 => ?_) (fun σ33 h33 c33 => ?_))
    · refine v_if_eq h (t := 43) dX10_fromWhere_36 (by decide) (q := 39) rfl (fun c => absurd c (by decide)) (fun _ => ?_)
      refine v_iconst h (v := 1) dX10_fromWhere_39 (q := 40) rfl (by decide) ?_
      refine v_goto h (t := 44) dX10_fromWhere_40 (by decide) ?_
      refine v_iadd h dX10_fromWhere_44 (q := 45) rfl ?_
      rw [show ((nI (ctP (ogB (gvT A.1.2.1) A.1.1 u v) c)) + 1 : Int32) = nI (ctP (ogB (gvT A.1.2.1) A.1.1 u v) c + 1) from (nI_1 _)]
      refine v_istore_n h (i := 3) (ls1 := [(3, .int (nI (ctP (ogB (gvT A.1.2.1) A.1.1 u v) c + 1))), (4, .int (nI c)), (0, .ref (b_ad w 0)), (1, .int (nI u)), (2, .int (nI v))]) dX10_fromWhere_45 (q := 46) rfl rfl (Nat.le_of_ble_eq_true rfl) rfl ?_
      refine v_iinc h (p := 1) (u := nI (c + 1)) (ls1 := [(4, .int (nI (c + 1))), (3, .int (nI (ctP (ogB (gvT A.1.2.1) A.1.1 u v) c + 1))), (0, .ref (b_ad w 0)), (1, .int (nI u)), (2, .int (nI v))]) dX10_fromWhere_46 (q := 49) rfl rfl (nI_1 c) (Nat.le_of_ble_eq_true rfl) rfl ?_
      refine v_goto h (t := 20) dX10_fromWhere_49 (by decide) ?_
      have es : ctP (ogB (gvT A.1.2.1) A.1.1 u v) (c + 1) = (ctP (ogB (gvT A.1.2.1) A.1.1 u v) c + 1) := by rw [ctP, if_pos (show ogB (gvT A.1.2.1) A.1.1 u v c = true from decide_eq_true c33)]
      have hz := ih (m - 1) (by omega) (c + 1) (by omega) σ33 (hT.sM h33.1 h33.2)
      rw [es] at hz
      exact hz
    · refine v_if_eq h (t := 43) dX10_fromWhere_36 (by decide) (q := 39) rfl (fun _ => ?_) (fun c => absurd (by decide) c)
      refine v_iconst h (v := 0) dX10_fromWhere_43 (q := 44) rfl (by decide) ?_
      refine v_iadd h dX10_fromWhere_44 (q := 45) rfl ?_
      rw [show ((nI (ctP (ogB (gvT A.1.2.1) A.1.1 u v) c)) + 0 : Int32) = nI (ctP (ogB (gvT A.1.2.1) A.1.1 u v) c) from (Int32.add_zero _)]
      refine v_istore_n h (i := 3) (ls1 := [(3, .int (nI (ctP (ogB (gvT A.1.2.1) A.1.1 u v) c))), (4, .int (nI c)), (0, .ref (b_ad w 0)), (1, .int (nI u)), (2, .int (nI v))]) dX10_fromWhere_45 (q := 46) rfl rfl (Nat.le_of_ble_eq_true rfl) rfl ?_
      refine v_iinc h (p := 1) (u := nI (c + 1)) (ls1 := [(4, .int (nI (c + 1))), (3, .int (nI (ctP (ogB (gvT A.1.2.1) A.1.1 u v) c))), (0, .ref (b_ad w 0)), (1, .int (nI u)), (2, .int (nI v))]) dX10_fromWhere_46 (q := 49) rfl rfl (nI_1 c) (Nat.le_of_ble_eq_true rfl) rfl ?_
      refine v_goto h (t := 20) dX10_fromWhere_49 (by decide) ?_
      have es : ctP (ogB (gvT A.1.2.1) A.1.1 u v) (c + 1) = (ctP (ogB (gvT A.1.2.1) A.1.1 u v) c) := by rw [ctP, if_neg (show ¬ ogB (gvT A.1.2.1) A.1.1 u v c = true from fun z => c33 (of_decide_eq_true z))]
      have hz := ih (m - 1) (by omega) (c + 1) (by omega) σ33 (hT.sM h33.1 h33.2)
      rw [es] at hz
      exact hz
set_option maxHeartbeats 4000000 in
set_option maxRecDepth 100000 in
theorem c_X10_fromWhere {w : bw} {σ : bSt} {A : bA} {cells lags : Int32} (hm : sModel w) (hR : RQ σ A) : MV yX10_fromWhere cX10_fromWhere 5 (some .int) (rmm 5 118) w [.ref (b_ad w 0), .int cells, .int lags] σ (pM (oFromWhere cells lags A)) := by
  refine b_met (ls := [(0, .ref (b_ad w 0)), (1, .int cells), (2, .int lags)]) (by decide) (Nat.le_of_ble_eq_true rfl) rfl (fun x h => ?_)
  refine v_iload_n h (i := 1) dX10_fromWhere_0 (q := 1) rfl rfl 1 rfl ?_
  refine v_iload_n h (i := 2) dX10_fromWhere_1 (q := 2) rfl rfl 2 rfl ?_
  refine v_callS h (As := [.int cells, .int lags]) (rest := []) (c_X10_areTold (v := cells) (u := lags)) cal_X10_areTold m1250 m1249 ⟨rfl, rfl, Nat.le_of_ble_eq_true rfl, Nat.le_of_ble_eq_true rfl⟩ rfl rfl (Nat.le_of_ble_eq_true rfl) dX10_fromWhere_2 (q := 5) rfl (kB (fun c2 => ?_) (fun c2 => ?_))
  · refine v_if_ne h (t := 15) dX10_fromWhere_5 (by decide) (q := 8) rfl (fun _ => ?_) (fun c => absurd c (by decide))
    obtain ⟨u, hu, rfl⟩ := wi_0 (n := 262143) c2.1 rfl
    obtain ⟨v, hv, rfl⟩ := wi_0 (n := 999999) c2.2 rfl
    refine v_iconst h (v := 0) dX10_fromWhere_15 (q := 16) rfl (by decide) ?_
    refine v_istore_n h (i := 3) (ls1 := [(3, .int 0), (0, .ref (b_ad w 0)), (1, .int (nI u)), (2, .int (nI v))]) dX10_fromWhere_16 (q := 17) rfl rfl (Nat.le_of_ble_eq_true rfl) rfl ?_
    refine v_iconst h (v := 0) dX10_fromWhere_17 (q := 18) rfl (by decide) ?_
    refine v_istore h (i := 4) (ls1 := [(4, .int 0), (3, .int 0), (0, .ref (b_ad w 0)), (1, .int (nI u)), (2, .int (nI v))]) dX10_fromWhere_18 (q := 20) rfl (Nat.le_of_ble_eq_true rfl) rfl ?_
    exact lX10_fromWhere_20 hm hR h u v hu hv c2 rfl rfl 64 0 rfl _ hR
  · refine v_if_ne h (t := 15) dX10_fromWhere_5 (by decide) (q := 8) rfl (fun c => absurd (by decide) c) (fun _ => ?_)
    refine v_aload_n h (i := 0) dX10_fromWhere_8 (q := 9) rfl rfl 0 rfl ?_
    refine v_ldc h (v := -1000000001) m931 dX10_fromWhere_9 (q := 11) rfl ?_
    refine v_callV h (As := [.int (-1000000001)]) (rest := []) (c_X10_finding (σ := σ) (e := 1) (v := -1000000001) hm (by decide) (by decide +kernel)) cal_X10_finding calV_X10_finding m932 ⟨rfl, rfl, Nat.le_of_ble_eq_true rfl, Nat.le_of_ble_eq_true rfl⟩ rfl hm.1.1 hm.1.2 ⟨_, _, rfl⟩ rfl (Nat.le_of_ble_eq_true rfl) dX10_fromWhere_11 (q := 14) rfl (kI ?_)
    exact v_iret h dX10_fromWhere_14 (pM_of (by unfold oFromWhere; rw [if_neg (fun z => by first | exact c2 z), ref1]) (hR.err (by decide)))

set_option maxHeartbeats 4000000 in
set_option maxRecDepth 100000 in
theorem lX10_whereFrom_25 {w : bw} {σ : bSt} {A : bA} {cells lags i : Int32} (hm : sModel w) (hR : RQ σ A) {x : bX} (h : Cx x w cX10_whereFrom RX10 6 (some .int) (rmm 5 118)) : ∀ u v q : Nat, u ≤ 262143 → v ≤ 999999 → q < 2 ^ 31 → wj cells 0 262143 ∧ wj lags 0 999999 ∧ ¬ i < 0 → cells = nI u → lags = nI v → i = nI q → ∀ m c f : Nat, c + m = 64 → f ≤ c → wfN (ogB (gvT A.1.2.1) A.1.1 u v) q m c f = wfN (ogB (gvT A.1.2.1) A.1.1 u v) q 64 0 0 → ∀ τ : bSt, RQ τ A → V x w 6 (pM (oWhereFrom cells lags i A)) 25 [(5, .int (nI c)), (4, .int (nI f)), (0, .ref (b_ad w 0)), (1, .int (nI u)), (2, .int (nI v)), (3, .int (nI q))] [] τ := by
  intro u v q hu hv hq hcond ecu elv eiq
  refine b_ind (fun m ih => ?_)
  intro c f hcm hfc hwf τ hT
  refine v_iload h (i := 5) dX10_whereFrom_25 (q := 27) rfl 0 rfl ?_
  refine v_bipush h (v := 64) dX10_whereFrom_27 (q := 29) rfl (by decide) ?_
  refine v_icmp_ge h (t := 61) dX10_whereFrom_29 (by decide) (q := 32) rfl (fun c29 => ?_) (fun c29 => ?_)
  · refine v_aload_n h (i := 0) dX10_whereFrom_61 (q := 62) rfl rfl 2 rfl ?_
    refine v_ldcw h (v := -1000000002) m1261 dX10_whereFrom_62 (q := 65) rfl ?_
    refine v_callV h (As := [.int (-1000000002)]) (rest := []) (c_X10_finding (σ := τ) (e := 2) (v := -1000000002) hm (by decide) (by decide +kernel)) cal_X10_finding calV_X10_finding m932 ⟨rfl, rfl, Nat.le_of_ble_eq_true rfl, Nat.le_of_ble_eq_true rfl⟩ rfl hm.1.1 hm.1.2 ⟨_, _, rfl⟩ rfl (Nat.le_of_ble_eq_true rfl) dX10_whereFrom_65 (q := 68) rfl (kI ?_)
    exact v_iret h dX10_whereFrom_68 (pM_of (by subst ecu elv eiq; unfold oWhereFrom; rw [if_pos hcond, cl_nI (n := u) (by omega), cl_nI (n := v) (by omega), cl_nI (n := q) (by omega), ← hwf, show m = 0 by have := nge (k := 64) rfl (by omega) c29; omega]; exact ref2) (hT.err (by decide)))
  · have hc64 : c < 64 := nlt rfl (by omega) c29
    refine v_aload_n h (i := 0) dX10_whereFrom_32 (q := 33) rfl rfl 2 rfl ?_
    refine v_iload h (i := 5) dX10_whereFrom_33 (q := 35) rfl 0 rfl ?_
    refine v_iload_n h (i := 1) dX10_whereFrom_35 (q := 36) rfl rfl 3 rfl ?_
    refine v_iload_n h (i := 2) dX10_whereFrom_36 (q := 37) rfl rfl 4 rfl ?_
    refine v_callV h (As := [.int (nI c), .int (nI u), .int (nI v)]) (rest := []) (c_X10_mayBeFrom (σ := τ) (c := c) (u := u) (v := v) (N := A.1.1) (T := A.1.2.1) hm hT.mw hc64 (by omega) (by omega)) cal_X10_mayBeFrom calV_X10_mayBeFrom m1253 ⟨rfl, rfl, Nat.le_of_ble_eq_true rfl, Nat.le_of_ble_eq_true rfl⟩ rfl hm.1.1 hm.1.2 ⟨_, _, rfl⟩ rfl (Nat.le_of_ble_eq_true rfl) dX10_whereFrom_37 (q := 40) rfl (kZ (fun σ37 h37 c37 => ?_) (fun σ37 h37 c37 => ?_))
    · refine v_if_eq h (t := 55) dX10_whereFrom_40 (by decide) (q := 43) rfl (fun c => absurd c (by decide)) (fun _ => ?_)
      refine v_iload h (i := 4) dX10_whereFrom_43 (q := 45) rfl 1 rfl ?_
      refine v_iload_n h (i := 3) dX10_whereFrom_45 (q := 46) rfl rfl 5 rfl ?_
      refine v_icmp_ne h (t := 52) dX10_whereFrom_46 (by decide) (q := 49) rfl (fun c46 => ?_) (fun c46 => ?_)
      · refine v_iinc h (p := 1) (u := nI (f + 1)) (ls1 := [(4, .int (nI (f + 1))), (5, .int (nI c)), (0, .ref (b_ad w 0)), (1, .int (nI u)), (2, .int (nI v)), (3, .int (nI q))]) dX10_whereFrom_52 (q := 55) rfl rfl (nI_1 f) (Nat.le_of_ble_eq_true rfl) rfl ?_
        refine v_iinc h (p := 1) (u := nI (c + 1)) (ls1 := [(5, .int (nI (c + 1))), (4, .int (nI (f + 1))), (0, .ref (b_ad w 0)), (1, .int (nI u)), (2, .int (nI v)), (3, .int (nI q))]) dX10_whereFrom_55 (q := 58) rfl rfl (nI_1 c) (Nat.le_of_ble_eq_true rfl) rfl ?_
        refine v_goto h (t := 25) dX10_whereFrom_58 (by decide) ?_
        exact ih (m - 1) (by omega) (c + 1) (f + 1) (by omega) (by omega) (by rw [← hwf, show m = (m - 1) + 1 by omega, wf_go (decide_eq_true c37) (fun z => c46 (congrArg nI z))]; rfl) σ37 (hT.sM h37.1 h37.2)
      · refine v_iload h (i := 5) dX10_whereFrom_49 (q := 51) rfl 0 rfl ?_
        exact v_iret h dX10_whereFrom_51 (pM_of (by subst ecu elv eiq; unfold oWhereFrom; rw [if_pos hcond, cl_nI (n := u) (by omega), cl_nI (n := v) (by omega), cl_nI (n := q) (by omega), ← hwf, show m = (m - 1) + 1 by omega, wf_hit (decide_eq_true c37) (nI_inj (by omega) (by omega) c46)]; rfl) (hT.sM h37.1 h37.2))
    · refine v_if_eq h (t := 55) dX10_whereFrom_40 (by decide) (q := 43) rfl (fun _ => ?_) (fun c => absurd (by decide) c)
      refine v_iinc h (p := 0) (u := nI (c + 1)) (ls1 := [(5, .int (nI (c + 1))), (4, .int (nI f)), (0, .ref (b_ad w 0)), (1, .int (nI u)), (2, .int (nI v)), (3, .int (nI q))]) dX10_whereFrom_55 (q := 58) rfl rfl (nI_1 c) (Nat.le_of_ble_eq_true rfl) rfl ?_
      refine v_goto h (t := 25) dX10_whereFrom_58 (by decide) ?_
      exact ih (m - 1) (by omega) (c + 1) f (by omega) (by omega) (by rw [← hwf, show m = (m - 1) + 1 by omega, wf_no (fun z => c37 (of_decide_eq_true z))]; rfl) σ37 (hT.sM h37.1 h37.2)
set_option maxHeartbeats 4000000 in
set_option maxRecDepth 100000 in
theorem c_X10_whereFrom {w : bw} {σ : bSt} {A : bA} {cells lags i : Int32} (hm : sModel w) (hR : RQ σ A) : MV yX10_whereFrom cX10_whereFrom 6 (some .int) (rmm 5 118) w [.ref (b_ad w 0), .int cells, .int lags, .int i] σ (pM (oWhereFrom cells lags i A)) := by
  refine b_met (ls := [(0, .ref (b_ad w 0)), (1, .int cells), (2, .int lags), (3, .int i)]) (by decide) (Nat.le_of_ble_eq_true rfl) rfl (fun x h => ?_)
  refine v_iload_n h (i := 1) dX10_whereFrom_0 (q := 1) rfl rfl 1 rfl ?_
  refine v_iload_n h (i := 2) dX10_whereFrom_1 (q := 2) rfl rfl 2 rfl ?_
  refine v_callS h (As := [.int cells, .int lags]) (rest := []) (c_X10_areTold (v := cells) (u := lags)) cal_X10_areTold m1250 m1249 ⟨rfl, rfl, Nat.le_of_ble_eq_true rfl, Nat.le_of_ble_eq_true rfl⟩ rfl rfl (Nat.le_of_ble_eq_true rfl) dX10_whereFrom_2 (q := 5) rfl (kB (fun c2 => ?_) (fun c2 => ?_))
  · refine v_if_eq h (t := 12) dX10_whereFrom_5 (by decide) (q := 8) rfl (fun c => absurd c (by decide)) (fun _ => ?_)
    refine v_iload_n h (i := 3) dX10_whereFrom_8 (q := 9) rfl rfl 3 rfl ?_
    refine v_if_ge h (t := 19) dX10_whereFrom_9 (by decide) (q := 12) rfl (fun c9 => ?_) (fun c9 => ?_)
    · obtain ⟨u, hu, rfl⟩ := wi_0 (n := 262143) c2.1 rfl
      obtain ⟨v, hv, rfl⟩ := wi_0 (n := 999999) c2.2 rfl
      have hi0 : ¬ i < 0 := Int32.not_lt.mpr c9
      obtain ⟨q, hq, rfl⟩ := nI_of hi0
      refine v_iconst h (v := 0) dX10_whereFrom_19 (q := 20) rfl (by decide) ?_
      refine v_istore h (i := 4) (ls1 := [(4, .int 0), (0, .ref (b_ad w 0)), (1, .int (nI u)), (2, .int (nI v)), (3, .int (nI q))]) dX10_whereFrom_20 (q := 22) rfl (Nat.le_of_ble_eq_true rfl) rfl ?_
      refine v_iconst h (v := 0) dX10_whereFrom_22 (q := 23) rfl (by decide) ?_
      refine v_istore h (i := 5) (ls1 := [(5, .int 0), (4, .int 0), (0, .ref (b_ad w 0)), (1, .int (nI u)), (2, .int (nI v)), (3, .int (nI q))]) dX10_whereFrom_23 (q := 25) rfl (Nat.le_of_ble_eq_true rfl) rfl ?_
      exact lX10_whereFrom_25 hm hR h u v q hu hv hq ⟨c2.1, c2.2, hi0⟩ rfl rfl rfl 64 0 0 rfl (Nat.le_refl 0) rfl _ hR
    · refine v_aload_n h (i := 0) dX10_whereFrom_12 (q := 13) rfl rfl 0 rfl ?_
      refine v_ldc h (v := -1000000001) m931 dX10_whereFrom_13 (q := 15) rfl ?_
      refine v_callV h (As := [.int (-1000000001)]) (rest := []) (c_X10_finding (σ := σ) (e := 1) (v := -1000000001) hm (by decide) (by decide +kernel)) cal_X10_finding calV_X10_finding m932 ⟨rfl, rfl, Nat.le_of_ble_eq_true rfl, Nat.le_of_ble_eq_true rfl⟩ rfl hm.1.1 hm.1.2 ⟨_, _, rfl⟩ rfl (Nat.le_of_ble_eq_true rfl) dX10_whereFrom_15 (q := 18) rfl (kI ?_)
      exact v_iret h dX10_whereFrom_18 (pM_of (by unfold oWhereFrom; rw [if_neg (fun z => by first | exact c2 ⟨z.1, z.2.1⟩ | exact z.2.2 (Int32.not_le.mp c9)), ref1]) (hR.err (by decide)))
  · refine v_if_eq h (t := 12) dX10_whereFrom_5 (by decide) (q := 8) rfl (fun _ => ?_) (fun c => absurd (by decide) c)
    refine v_aload_n h (i := 0) dX10_whereFrom_12 (q := 13) rfl rfl 0 rfl ?_
    refine v_ldc h (v := -1000000001) m931 dX10_whereFrom_13 (q := 15) rfl ?_
    refine v_callV h (As := [.int (-1000000001)]) (rest := []) (c_X10_finding (σ := σ) (e := 1) (v := -1000000001) hm (by decide) (by decide +kernel)) cal_X10_finding calV_X10_finding m932 ⟨rfl, rfl, Nat.le_of_ble_eq_true rfl, Nat.le_of_ble_eq_true rfl⟩ rfl hm.1.1 hm.1.2 ⟨_, _, rfl⟩ rfl (Nat.le_of_ble_eq_true rfl) dX10_whereFrom_15 (q := 18) rfl (kI ?_)
    exact v_iret h dX10_whereFrom_18 (pM_of (by unfold oWhereFrom; rw [if_neg (fun z => by first | exact c2 ⟨z.1, z.2.1⟩ | exact z.2.2 (Int32.not_le.mp c9)), ref1]) (hR.err (by decide)))

set_option maxHeartbeats 4000000 in
set_option maxRecDepth 100000 in
theorem c_X10_tell {w : bw} {σ : bSt} {A : bA} {v : Int32} (hm : sModel w) (hR : RQ σ A) : MV yX10_tell cX10_tell 2 (some .int) (rmm 1 21) w [.ref (b_ad w 0), .int v] σ (pM (oTell v A)) := by
  refine b_met (ls := [(0, .ref (b_ad w 0)), (1, .int v)]) (by decide) (Nat.le_of_ble_eq_true rfl) rfl (fun x h => ?_)
  refine v_aload_n h (i := 0) dX10_tell_0 (q := 1) rfl rfl 0 rfl ?_
  refine v_get h (k := 0) (v := .ref (b_ad w 1)) cls10 hm.1.1 hm.1.2 (Nat.le_of_ble_eq_true rfl) m849 rfl dX10_tell_1 (q := 4) rfl ?_
  refine v_bipush h (v := 10) dX10_tell_4 (q := 6) rfl (by decide) ?_
  refine v_iald h (k := 10) hm.2.1.1 hm.2.1.2 (vp_in_nI (n := 10) (by decide) (by decide)) (by decide) dX10_tell_6 (q := 7) rfl ?_
  rw [show (σ 1 10 : Int32) = nI A.1.2.2.2.1 from hR.wt.1]
  refine v_bipush h (v := 20) dX10_tell_7 (q := 9) rfl (by decide) ?_
  refine v_icmp_ne h (t := 19) dX10_tell_9 (by decide) (q := 12) rfl (fun c9 => ?_) (fun c9 => ?_)
  · have hw := hR.wt
    have hlt : A.1.2.2.2.1 < 20 := by
      rcases (show A.1.2.2.2.1 < 20 ∨ A.1.2.2.2.1 = 20 by omega) with z | z
      · exact z
      · exact absurd (by rw [z]; rfl) c9
    refine v_aload_n h (i := 0) dX10_tell_19 (q := 20) rfl rfl 0 rfl ?_
    refine v_get h (k := 0) (v := .ref (b_ad w 1)) cls10 hm.1.1 hm.1.2 (Nat.le_of_ble_eq_true rfl) m849 rfl dX10_tell_20 (q := 23) rfl ?_
    refine v_bipush h (v := 116) dX10_tell_23 (q := 25) rfl (by decide) ?_
    refine v_aload_n h (i := 0) dX10_tell_25 (q := 26) rfl rfl 0 rfl ?_
    refine v_get h (k := 0) (v := .ref (b_ad w 1)) cls10 hm.1.1 hm.1.2 (Nat.le_of_ble_eq_true rfl) m849 rfl dX10_tell_26 (q := 29) rfl ?_
    refine v_bipush h (v := 10) dX10_tell_29 (q := 31) rfl (by decide) ?_
    refine v_iald h (k := 10) hm.2.1.1 hm.2.1.2 (vp_in_nI (n := 10) (by decide) (by decide)) (by decide) dX10_tell_31 (q := 32) rfl ?_
    rw [show (σ 1 10 : Int32) = nI A.1.2.2.2.1 from hR.wt.1]
    refine v_iadd h dX10_tell_32 (q := 33) rfl ?_
    rw [show (116 + (nI A.1.2.2.2.1) : Int32) = nI (116 + A.1.2.2.2.1) from (nI_add 116 _)]
    refine v_iload_n h (i := 1) dX10_tell_33 (q := 34) rfl rfl 1 rfl ?_
    refine v_iast h (k := (116 + A.1.2.2.2.1)) hm.2.1.1 hm.2.1.2 (vp_in_nI (by omega) (by decide)) (nI_clamp (by omega)) dX10_tell_34 (q := 35) rfl ?_
    refine v_aload_n h (i := 0) dX10_tell_35 (q := 36) rfl rfl 0 rfl ?_
    refine v_get h (k := 0) (v := .ref (b_ad w 1)) cls10 hm.1.1 hm.1.2 (Nat.le_of_ble_eq_true rfl) m849 rfl dX10_tell_36 (q := 39) rfl ?_
    refine v_bipush h (v := 10) dX10_tell_39 (q := 41) rfl (by decide) ?_
    refine v_dup2 h dX10_tell_41 (q := 42) rfl rfl rfl ?_
    refine v_iald h (k := 10) hm.2.1.1 hm.2.1.2 (vp_in_nI (n := 10) (by decide) (by decide)) (by decide) dX10_tell_42 (q := 43) rfl ?_
    rw [show ((b_up σ 1 ((116 + A.1.2.2.2.1)) v) 1 10 : Int32) = nI A.1.2.2.2.1 from (by rw [b_up_s, upd_n (by omega)]; exact hR.wt.1)]
    refine v_iconst h (v := 1) dX10_tell_43 (q := 44) rfl (by decide) ?_
    refine v_iadd h dX10_tell_44 (q := 45) rfl ?_
    rw [show ((nI A.1.2.2.2.1) + 1 : Int32) = nI (A.1.2.2.2.1 + 1) from (nI_1 _)]
    refine v_iast h (k := 10) hm.2.1.1 hm.2.1.2 (vp_in_nI (n := 10) (by decide) (by decide)) (by decide) dX10_tell_45 (q := 46) rfl ?_
    refine v_aload_n h (i := 0) dX10_tell_46 (q := 47) rfl rfl 0 rfl ?_
    refine v_get h (k := 0) (v := .ref (b_ad w 1)) cls10 hm.1.1 hm.1.2 (Nat.le_of_ble_eq_true rfl) m849 rfl dX10_tell_47 (q := 50) rfl ?_
    refine v_bipush h (v := 10) dX10_tell_50 (q := 52) rfl (by decide) ?_
    refine v_iald h (k := 10) hm.2.1.1 hm.2.1.2 (vp_in_nI (n := 10) (by decide) (by decide)) (by decide) dX10_tell_52 (q := 53) rfl ?_
    rw [show ((b_up (b_up σ 1 ((116 + A.1.2.2.2.1)) v) 1 10 (nI (A.1.2.2.2.1 + 1))) 1 10 : Int32) = nI (A.1.2.2.2.1 + 1) from (by rw [b_up_s, upd_s])]
    exact v_iret h dX10_tell_53 (pM_of (by unfold oTell; rw [if_pos hlt]; rfl) (hR.set1 (D := (A.1.1, A.1.2.1, A.1.2.2.1, (A.1.2.2.2.1 + 1, upd A.1.2.2.2.2 A.1.2.2.2.1 v))) (by rw [b_up_n (by omega), b_up_n (by omega)]; exact ⟨rfl, rfl⟩) (fun j hj => by rw [b_up_n (by omega), b_up_n (by omega)]) (hR.1.wt2 (p := (A.1.2.2.2.1 + 1, upd A.1.2.2.2.2 A.1.2.2.2.1 v)) (fun k hk => by rw [b_up_s, b_up_s, upd_n (by omega), upd_n (by omega)]) (by rw [b_up_s, upd_s]) (by show A.1.2.2.2.1 + 1 ≤ 20; omega) (fun k hk => by rw [b_up_s, b_up_s, upd_n (by omega)]; exact upd_sh (a := 116) hR.wt.2.2 hk)) (hR.2.1.sc (by rw [b_up_n (by omega), b_up_n (by omega)]))))
  · refine v_aload_n h (i := 0) dX10_tell_12 (q := 13) rfl rfl 0 rfl ?_
    refine v_ldc h (v := -1000000004) m948 dX10_tell_13 (q := 15) rfl ?_
    refine v_callV h (As := [.int (-1000000004)]) (rest := []) (c_X10_finding (σ := σ) (e := 4) (v := -1000000004) hm (by decide) (by decide +kernel)) cal_X10_finding calV_X10_finding m932 ⟨rfl, rfl, Nat.le_of_ble_eq_true rfl, Nat.le_of_ble_eq_true rfl⟩ rfl hm.1.1 hm.1.2 ⟨_, _, rfl⟩ rfl (Nat.le_of_ble_eq_true rfl) dX10_tell_15 (q := 18) rfl (kI ?_)
    exact v_iret h dX10_tell_18 (pM_of (by unfold oTell; rw [if_neg (fun z => by have e9 := nI_inj (a := A.1.2.2.2.1) (b := 20) (by omega) (by decide) c9; omega), ref4]) (hR.err (by decide)))

set_option maxHeartbeats 4000000 in
set_option maxRecDepth 100000 in
theorem lX10_forgetLags_2 {w : bw} {σ : bSt}  (hm : sModel w) {x : bX} (h : Cx x w cX10_forgetLags RX10 2 none (rmm 0 0)) : ∀ m i : Nat, i + m = 2560 → ∀ τ : bSt, (∀ j, j ≠ 5 → τ j = σ j) → (∀ k, k < i → τ 5 k = 0) → V x w 2 (pV (fun σ' => (∀ j, j ≠ 5 → σ' j = σ j) ∧ ∀ k, k < 2560 → σ' 5 k = 0)) 2 [(1, .int (nI i)), (0, .ref (b_ad w 0))] [] τ := by
  refine b_ind (fun m ih => ?_)
  intro i him τ ho hk
  refine v_iload_n h (i := 1) dX10_forgetLags_2 (q := 3) rfl rfl 0 rfl ?_
  refine v_aload_n h (i := 0) dX10_forgetLags_3 (q := 4) rfl rfl 1 rfl ?_
  refine v_get h (k := 5) (v := .ref (b_ad w 5)) cls10 hm.1.1 hm.1.2 (Nat.le_of_ble_eq_true rfl) m854 rfl dX10_forgetLags_4 (q := 7) rfl ?_
  refine v_aleni h (v := 2560) hm.2.2.2.2.2.1.1 hm.2.2.2.2.2.1.2 rfl dX10_forgetLags_7 (q := 8) rfl ?_
  refine v_icmp_ge h (t := 24) dX10_forgetLags_8 (by decide) (q := 11) rfl (fun c8 => ?_) (fun c8 => ?_)
  · exact v_vret h dX10_forgetLags_24 ⟨rfl, ho, fun k hk2 => hk k (by have := nge (k := 2560) rfl (by omega) c8; omega)⟩
  · have hi : i < 2560 := nlt rfl (by omega) c8
    refine v_aload_n h (i := 0) dX10_forgetLags_11 (q := 12) rfl rfl 1 rfl ?_
    refine v_get h (k := 5) (v := .ref (b_ad w 5)) cls10 hm.1.1 hm.1.2 (Nat.le_of_ble_eq_true rfl) m854 rfl dX10_forgetLags_12 (q := 15) rfl ?_
    refine v_iload_n h (i := 1) dX10_forgetLags_15 (q := 16) rfl rfl 0 rfl ?_
    refine v_iconst h (v := 0) dX10_forgetLags_16 (q := 17) rfl (by decide) ?_
    refine v_iast h (k := i) hm.2.2.2.2.2.1.1 hm.2.2.2.2.2.1.2 (vp_in_nI hi (by decide)) (nI_clamp (by omega)) dX10_forgetLags_17 (q := 18) rfl ?_
    refine v_iinc h (p := 0) (u := nI (i + 1)) (ls1 := [(1, .int (nI (i + 1))), (0, .ref (b_ad w 0))]) dX10_forgetLags_18 (q := 21) rfl rfl (nI_1 i) (Nat.le_of_ble_eq_true rfl) rfl ?_
    refine v_goto h (t := 2) dX10_forgetLags_21 (by decide) ?_
    exact ih (m - 1) (by omega) (i + 1) (by omega) _ (fun j hj => by rw [b_up_n hj]; exact ho j hj) (fun k hk2 => by
      rw [b_up_s]
      by_cases e : k = i
      · rw [e, upd_s]
      · rw [upd_n e]; exact hk k (by omega))
set_option maxHeartbeats 4000000 in
set_option maxRecDepth 100000 in
theorem c_X10_forgetLags {w : bw} {σ : bSt}  (hm : sModel w) : MV yX10_forgetLags cX10_forgetLags 2 none (rmm 0 0) w [.ref (b_ad w 0)] σ (pV (fun σ' => (∀ j, j ≠ 5 → σ' j = σ j) ∧ ∀ k, k < 2560 → σ' 5 k = 0)) := by
  refine b_met (ls := [(0, .ref (b_ad w 0))]) (by decide) (Nat.le_of_ble_eq_true rfl) rfl (fun x h => ?_)
  refine v_iconst h (v := 0) dX10_forgetLags_0 (q := 1) rfl (by decide) ?_
  refine v_istore_n h (i := 1) (ls1 := [(1, .int 0), (0, .ref (b_ad w 0))]) dX10_forgetLags_1 (q := 2) rfl rfl (Nat.le_of_ble_eq_true rfl) rfl ?_
  exact lX10_forgetLags_2 hm h 2560 0 rfl σ (fun _ _ => rfl) (fun k hk => absurd hk (Nat.not_lt_zero k))

set_option maxHeartbeats 4000000 in
set_option maxRecDepth 100000 in
theorem c_X10_image {w : bw} {σ : bSt} {A : bA} (hm : sModel w) (hR : RQ σ A) : MV yX10_image cX10_image 1 (some .int) (rmm 1 22) w [.ref (b_ad w 0)] σ (pM (oImage A)) := by
  refine b_met (ls := [(0, .ref (b_ad w 0))]) (by decide) (Nat.le_of_ble_eq_true rfl) rfl (fun x h => ?_)
  refine v_aload_n h (i := 0) dX10_image_0 (q := 1) rfl rfl 0 rfl ?_
  refine v_get h (k := 0) (v := .ref (b_ad w 1)) cls10 hm.1.1 hm.1.2 (Nat.le_of_ble_eq_true rfl) m849 rfl dX10_image_1 (q := 4) rfl ?_
  refine v_aload_n h (i := 0) dX10_image_4 (q := 5) rfl rfl 0 rfl ?_
  refine v_get h (k := 1) (v := .ref (b_ad w 2)) cls10 hm.1.1 hm.1.2 (Nat.le_of_ble_eq_true rfl) m850 rfl dX10_image_5 (q := 8) rfl ?_
  refine v_callS h (As := [.ref (b_ad w 1), .ref (b_ad w 2)]) (rest := []) (c_X10_copy (σ := σ) (a := 1) (b := 2) hm.2.1 hm.2.2.1 (by decide)) cal_X10_copy m1203 m1202 ⟨rfl, rfl, Nat.le_of_ble_eq_true rfl, Nat.le_of_ble_eq_true rfl⟩ rfl rfl (Nat.le_of_ble_eq_true rfl) dX10_image_8 (q := 11) rfl (kU ?_)
  refine v_aload_n h (i := 0) dX10_image_11 (q := 12) rfl rfl 0 rfl ?_
  refine v_dup h dX10_image_12 (q := 13) rfl rfl ?_
  refine v_get h (k := 3) (v := .int ((b_set σ 2 (σ 1)) 0 3)) cls10 hm.1.1 hm.1.2 (Nat.le_of_ble_eq_true rfl) m852 rfl dX10_image_13 (q := 16) rfl ?_
  rw [show ((b_set σ 2 (σ 1)) 0 3 : Int32) = σ 0 3 from (by rw [b_set_n (by decide)])]
  refine v_iconst h (v := 1) dX10_image_16 (q := 17) rfl (by decide) ?_
  refine v_iadd h dX10_image_17 (q := 18) rfl ?_
  refine v_put h (k := 3) cls10 hm.1.1 hm.1.2 (Nat.le_of_ble_eq_true rfl) rfl m852 rfl ⟨rfl, rfl⟩ dX10_image_18 (q := 21) rfl ?_
  refine v_aload_n h (i := 0) dX10_image_21 (q := 22) rfl rfl 0 rfl ?_
  refine v_get h (k := 3) (v := .int ((b_up (b_set σ 2 (σ 1)) 0 3 ((σ 0 3) + 1)) 0 3)) cls10 hm.1.1 hm.1.2 (Nat.le_of_ble_eq_true rfl) m852 rfl dX10_image_22 (q := 25) rfl ?_
  rw [show ((b_up (b_set σ 2 (σ 1)) 0 3 ((σ 0 3) + 1)) 0 3 : Int32) = σ 0 3 + 1 from (by rw [b_up_s, upd_s])]
  exact v_iret h dX10_image_25 (pM_of (by unfold oImage; rw [show A.2.2.1 = σ 0 3 from hR.2.2.1.symm]) (by have hz := hR.image; unfold oImage at hz; rw [show A.2.2.1 = σ 0 3 from hR.2.2.1.symm] at hz; exact hz))

set_option maxHeartbeats 4000000 in
set_option maxRecDepth 100000 in
theorem c_X10_restore {w : bw} {σ : bSt} {A : bA} (hm : sModel w) (hR : RQ σ A) : MV yX10_restore cX10_restore 1 (some .int) (rmm 1 22) w [.ref (b_ad w 0)] σ (pM (oRestore A)) := by
  refine b_met (ls := [(0, .ref (b_ad w 0))]) (by decide) (Nat.le_of_ble_eq_true rfl) rfl (fun x h => ?_)
  refine v_aload_n h (i := 0) dX10_restore_0 (q := 1) rfl rfl 0 rfl ?_
  refine v_get h (k := 3) (v := .int (σ 0 3)) cls10 hm.1.1 hm.1.2 (Nat.le_of_ble_eq_true rfl) m852 rfl dX10_restore_1 (q := 4) rfl ?_
  rw [show (σ 0 3 : Int32) = A.2.2.1 from hR.2.2.1]
  refine v_if_ne h (t := 15) dX10_restore_4 (by decide) (q := 7) rfl (fun c4 => ?_) (fun c4 => ?_)
  · refine v_aload_n h (i := 0) dX10_restore_15 (q := 16) rfl rfl 0 rfl ?_
    refine v_get h (k := 1) (v := .ref (b_ad w 2)) cls10 hm.1.1 hm.1.2 (Nat.le_of_ble_eq_true rfl) m850 rfl dX10_restore_16 (q := 19) rfl ?_
    refine v_aload_n h (i := 0) dX10_restore_19 (q := 20) rfl rfl 0 rfl ?_
    refine v_get h (k := 0) (v := .ref (b_ad w 1)) cls10 hm.1.1 hm.1.2 (Nat.le_of_ble_eq_true rfl) m849 rfl dX10_restore_20 (q := 23) rfl ?_
    refine v_callS h (As := [.ref (b_ad w 2), .ref (b_ad w 1)]) (rest := []) (c_X10_copy (σ := σ) (a := 2) (b := 1) hm.2.2.1 hm.2.1 (by decide)) cal_X10_copy m1203 m1202 ⟨rfl, rfl, Nat.le_of_ble_eq_true rfl, Nat.le_of_ble_eq_true rfl⟩ rfl rfl (Nat.le_of_ble_eq_true rfl) dX10_restore_23 (q := 26) rfl (kU ?_)
    refine v_aload_n h (i := 0) dX10_restore_26 (q := 27) rfl rfl 0 rfl ?_
    refine v_callV h (As := []) (rest := []) (c_X10_forgetLags (σ := b_set σ 1 (σ 2)) hm) cal_X10_forgetLags calV_X10_forgetLags m1149 ⟨rfl, rfl, Nat.le_of_ble_eq_true rfl, Nat.le_of_ble_eq_true rfl⟩ rfl hm.1.1 hm.1.2 ⟨_, _, rfl⟩ rfl (Nat.le_of_ble_eq_true rfl) dX10_restore_27 (q := 30) rfl (kV (fun σ27 h27 => ?_))
    have hRr := hR.restore c4 (h27.1 1 (by decide) ▸ (by rw [b_set_s])) (fun j a b => by rw [h27.1 j b, b_set_n a]) h27.2
    refine v_aload_n h (i := 0) dX10_restore_30 (q := 31) rfl rfl 0 rfl ?_
    refine v_get h (k := 0) (v := .ref (b_ad w 1)) cls10 hm.1.1 hm.1.2 (Nat.le_of_ble_eq_true rfl) m849 rfl dX10_restore_31 (q := 34) rfl ?_
    refine v_iconst h (v := 0) dX10_restore_34 (q := 35) rfl (by decide) ?_
    refine v_iald h (k := 0) hm.2.1.1 hm.2.1.2 (vp_in_nI (n := 0) (by decide) (by decide)) (by decide) dX10_restore_35 (q := 36) rfl ?_
    rw [show (σ27 1 0 : Int32) = A.2.1.1 0 from (by rw [hRr.n (by omega)])]
    exact v_iret h dX10_restore_36 (pM_of (by unfold oRestore; rw [if_neg c4]) hRr)
  · refine v_aload_n h (i := 0) dX10_restore_7 (q := 8) rfl rfl 0 rfl ?_
    refine v_ldcw h (v := -1000000002) m1261 dX10_restore_8 (q := 11) rfl ?_
    refine v_callV h (As := [.int (-1000000002)]) (rest := []) (c_X10_finding (σ := σ) (e := 2) (v := -1000000002) hm (by decide) (by decide +kernel)) cal_X10_finding calV_X10_finding m932 ⟨rfl, rfl, Nat.le_of_ble_eq_true rfl, Nat.le_of_ble_eq_true rfl⟩ rfl hm.1.1 hm.1.2 ⟨_, _, rfl⟩ rfl (Nat.le_of_ble_eq_true rfl) dX10_restore_11 (q := 14) rfl (kI ?_)
    exact v_iret h dX10_restore_14 (pM_of (by unfold oRestore; rw [if_pos c4, ref2]) (hR.err (by decide)))

set_option maxHeartbeats 4000000 in
set_option maxRecDepth 100000 in
theorem c_X10_trace {w : bw} {σ : bSt} {A : bA} {i : Int32} (hm : sModel w) (hR : RQ σ A) : MV yX10_trace cX10_trace 2 (some .int) (rmm 1 22) w [.ref (b_ad w 0), .int i] σ (pM (oTrace i A)) := by
  refine b_met (ls := [(0, .ref (b_ad w 0)), (1, .int i)]) (by decide) (Nat.le_of_ble_eq_true rfl) rfl (fun x h => ?_)
  refine v_iload_n h (i := 1) dX10_trace_0 (q := 1) rfl rfl 1 rfl ?_
  refine v_iconst h (v := 0) dX10_trace_1 (q := 2) rfl (by decide) ?_
  refine v_aload_n h (i := 0) dX10_trace_2 (q := 3) rfl rfl 0 rfl ?_
  refine v_get h (k := 17) (v := .int (σ 0 17)) cls10 hm.1.1 hm.1.2 (Nat.le_of_ble_eq_true rfl) m866 rfl dX10_trace_3 (q := 6) rfl ?_
  rw [show (σ 0 17 : Int32) = nI A.2.2.2.2.1.1 from hR.tr.1]
  refine v_iconst h (v := 1) dX10_trace_6 (q := 7) rfl (by decide) ?_
  refine v_isub h dX10_trace_7 (q := 8) rfl ?_
  refine v_callS h (As := [.int i, .int 0, .int ((nI A.2.2.2.2.1.1) - 1)]) (rest := []) (c_X10_within (v := i) (l := 0) (m := (nI A.2.2.2.2.1.1) - 1)) cal_X10_within m925 m924 ⟨rfl, rfl, Nat.le_of_ble_eq_true rfl, Nat.le_of_ble_eq_true rfl⟩ rfl rfl (Nat.le_of_ble_eq_true rfl) dX10_trace_8 (q := 11) rfl (kB (fun c8 => ?_) (fun c8 => ?_))
  · refine v_if_eq h (t := 23) dX10_trace_11 (by decide) (q := 14) rfl (fun c => absurd c (by decide)) (fun _ => ?_)
    obtain ⟨k, hk, rfl⟩ := inN_nI ((is_iff (by have := hR.tr.2.1; omega)).mp c8)
    have htr := hR.tr
    refine v_aload_n h (i := 0) dX10_trace_14 (q := 15) rfl rfl 0 rfl ?_
    refine v_get h (k := 16) (v := .ref (b_ad w 11)) cls10 hm.1.1 hm.1.2 (Nat.le_of_ble_eq_true rfl) m865 rfl dX10_trace_15 (q := 18) rfl ?_
    refine v_iload_n h (i := 1) dX10_trace_18 (q := 19) rfl rfl 1 rfl ?_
    refine v_iald h (k := k) hm.2.2.2.2.2.2.2.2.2.2.2.1.1 hm.2.2.2.2.2.2.2.2.2.2.2.1.2 (vp_in_nI (by omega) (by decide)) (nI_clamp (by omega)) dX10_trace_19 (q := 20) rfl ?_
    rw [show (σ 11 k : Int32) = A.2.2.2.2.1.2 k from (hR.tr.2.2 k (by omega))]
    refine v_goto h (t := 30) dX10_trace_20 (by decide) ?_
    exact v_iret h dX10_trace_30 (pM_of (by unfold oTrace; rw [if_pos ((is_iff (by omega)).mp c8), cl_nI (n := k) (by omega)]) hR)
  · refine v_if_eq h (t := 23) dX10_trace_11 (by decide) (q := 14) rfl (fun _ => ?_) (fun c => absurd (by decide) c)
    refine v_aload_n h (i := 0) dX10_trace_23 (q := 24) rfl rfl 0 rfl ?_
    refine v_ldcw h (v := -1000000002) m1261 dX10_trace_24 (q := 27) rfl ?_
    refine v_callV h (As := [.int (-1000000002)]) (rest := []) (c_X10_finding (σ := σ) (e := 2) (v := -1000000002) hm (by decide) (by decide +kernel)) cal_X10_finding calV_X10_finding m932 ⟨rfl, rfl, Nat.le_of_ble_eq_true rfl, Nat.le_of_ble_eq_true rfl⟩ rfl hm.1.1 hm.1.2 ⟨_, _, rfl⟩ rfl (Nat.le_of_ble_eq_true rfl) dX10_trace_27 (q := 30) rfl (kI ?_)
    exact v_iret h dX10_trace_30 (pM_of (by unfold oTrace; rw [if_neg (fun z => by first | exact c8 ((is_iff (by have := hR.tr.2.1; omega)).mpr z)), ref2]) (hR.err (by decide)))
