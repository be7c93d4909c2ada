theorem nlt_tk : ∀ k : Nat, k < 8 → ((nI (8 * k)).toInt64 &&& 63).toBitVec.smod 64 = BitVec.ofNat 64 (8 * k) := by decide +kernel
theorem l255 : ∀ i : Nat, i < 64 → (255 : Int64).toBitVec.getLsbD i = decide (i < 8) := by decide +kernel
theorem i255 : ∀ i : Nat, i < 32 → (255 : Int32).toBitVec.getLsbD i = decide (i < 8) := by decide +kernel
/-- a byte of a word, as the model takes it -/
theorem tk_M (word : Int64) {k : Nat} (hk : k < 8) : ((word >>> ((nI (8 * k)).toInt64 &&& 63)) &&& 255).toInt32 = tkF word k := by
  unfold tkF
  apply i32_ext
  intro i hi
  rw [Int64.toBitVec_toInt32, Int32.toBitVec_and, BitVec.getLsbD_and, Int64.toBitVec_toInt32, i255 i hi, BitVec.signExtend_eq_setWidth_of_le _ (by decide), BitVec.signExtend_eq_setWidth_of_le _ (by decide), BitVec.getLsbD_setWidth, BitVec.getLsbD_setWidth, Int64.toBitVec_and, BitVec.getLsbD_and, l255 i (by omega), bv_ushrL word (show 8 * k < 64 by omega)]
  have e : (word >>> ((nI (8 * k)).toInt64 &&& 63)).toBitVec = word.toBitVec.sshiftRight (8 * k) := by
    rw [Int64.toBitVec_shiftRight]
    show word.toBitVec.sshiftRight (((nI (8 * k)).toInt64 &&& 63).toBitVec.smod 64).toNat = _
    rw [nlt_tk k hk, BitVec.toNat_ofNat, Nat.mod_eq_of_lt (by omega)]
  rw [e]
  by_cases c : i < 8
  · rw [decide_eq_true c, Bool.and_true, Bool.and_true, BitVec.getLsbD_sshiftRight, BitVec.getLsbD_ushiftRight]
    simp [hi, show i < 64 by omega, show 8 * k + i < 64 by omega]
  · rw [decide_eq_false c, Bool.and_false, Bool.and_false, Bool.and_false]
theorem ck_one {g : bG} {N : bN} {wl : Nat → Int32} {l k r : Nat} (h : ¬ wl k = goN g false N (k + 1) (49 + 3 * l)) : ckN g N wl l (r + 1) k = nI (1 + k) := by
  rw [ck_stop h]
  exact nI_add 1 k
theorem CM_0 {σ : bSt} {T : bT} (h : ∀ k, k < 2560 → σ 5 k = 0) : CM σ T := fun v d t h1 h2 h3 h4 => Or.inl (h _ (by omega))

set_option maxHeartbeats 4000000 in
set_option maxRecDepth 100000 in
theorem lX10_fitSpeed_40 {w : bw} {σ : bSt} {A : bA} {cell n0 : Int32} (hm : sModel w) (hR : RQ σ A) {x : bX} (h : Cx x w cX10_fitSpeed RX10 7 (some .int) (rmm 7 168)) : ∀ y n : Nat, y < 64 → n ≤ 128 → wj cell 0 63 ∧ wj n0 0 128 → cell = nI y → n0 = nI n → ∀ m i : Nat, i + m = 9 → ∀ τ : bSt, tryM σ τ A.1.2.1 → V x w 7 (pM (oFit cell n0 A)) 40 [(5, .int (nI (i + 1))), (4, .int (bmN (fun c => nI (scN (gvT A.1.2.1) (upd A.1.1 1 (nI (c + 1))) (nI y) n)) i)), (3, .int (bvN (fun c => nI (scN (gvT A.1.2.1) (upd A.1.1 1 (nI (c + 1))) (nI y) n)) i)), (0, .ref (b_ad w 0)), (1, .int (nI y)), (2, .int (nI n))] [] τ := by
  intro y n hy hn hcond ecy enn
  refine b_ind (fun m ih => ?_)
  intro i him τ ht
  refine v_iload h (i := 5) dX10_fitSpeed_40 (q := 42) rfl 0 rfl ?_
  refine v_bipush h (v := 9) dX10_fitSpeed_42 (q := 44) rfl (by decide) ?_
  refine v_icmp_gt h (t := 92) dX10_fitSpeed_44 (by decide) (q := 47) rfl (fun c44 => ?_) (fun c44 => ?_)
  · refine v_iload_n h (i := 3) dX10_fitSpeed_92 (q := 93) rfl rfl 2 rfl ?_
    exact v_iret h dX10_fitSpeed_93 (pM_of (by subst ecy enn; unfold oFit; rw [if_pos hcond, cl_nI (n := n) (by omega), show i = 9 by have := (nI_ltI (a := 9) (b := i + 1) (by decide) (by omega)).mp c44; omega]; rfl) (hR.bk ht.bk ht.2.2.2))
  · have hi : i < 9 := by
      apply Classical.byContradiction
      intro z
      exact c44 ((nI_ltI (a := 9) (b := i + 1) (by decide) (by omega)).mpr (by omega))
    have hMI : IvB (upd A.1.1 1 (nI (i + 1))) := hR.1.2.1.speed ⟨i + 1, by omega, by omega, rfl⟩
    have hGn : (0 : Int32) ≤ (fun c => nI (scN (gvT A.1.2.1) (upd A.1.1 1 (nI (c + 1))) (nI y) n)) i := nI_nn (by have := sc_le (g := gvT A.1.2.1) (N := upd A.1.1 1 (nI (i + 1))) (y := nI y) n; omega)
    refine v_aload_n h (i := 0) dX10_fitSpeed_47 (q := 48) rfl rfl 3 rfl ?_
    refine v_get h (k := 0) (v := .ref (b_ad w 1)) cls10 hm.1.1 hm.1.2 (Nat.le_of_ble_eq_true rfl) m849 rfl dX10_fitSpeed_48 (q := 51) rfl ?_
    refine v_iconst h (v := 1) dX10_fitSpeed_51 (q := 52) rfl (by decide) ?_
    refine v_iload h (i := 5) dX10_fitSpeed_52 (q := 54) rfl 0 rfl ?_
    refine v_iast h (k := 1) hm.2.1.1 hm.2.1.2 (vp_in_nI (n := 1) (by decide) (by decide)) (by decide) dX10_fitSpeed_54 (q := 55) rfl ?_
    have hmw : MW (b_up τ 1 1 (nI (i + 1))) (upd A.1.1 1 (nI (i + 1))) A.1.2.1 := (try_mw hR ht).up (by omega) hMI.1
    have hbt := bt128 hMI
    refine v_aload_n h (i := 0) dX10_fitSpeed_55 (q := 56) rfl rfl 3 rfl ?_
    refine v_iload_n h (i := 1) dX10_fitSpeed_56 (q := 57) rfl rfl 4 rfl ?_
    refine v_iload_n h (i := 2) dX10_fitSpeed_57 (q := 58) rfl rfl 5 rfl ?_
    refine v_callV h (As := [.int (nI y), .int (nI n)]) (rest := []) (c_X10_scoreBy (σ := b_up τ 1 1 (nI (i + 1))) (y := y) (n := n) (N := upd A.1.1 1 (nI (i + 1))) (T := A.1.2.1) hm hmw hy hn hbt) cal_X10_scoreBy calV_X10_scoreBy m1217 ⟨rfl, rfl, Nat.le_of_ble_eq_true rfl, Nat.le_of_ble_eq_true rfl⟩ rfl hm.1.1 hm.1.2 ⟨_, _, rfl⟩ rfl (Nat.le_of_ble_eq_true rfl) dX10_fitSpeed_58 (q := 61) rfl (kR (fun r58 σ58 h58 => ?_))
    refine v_istore h (i := 6) (ls1 := [(6, .int r58), (5, .int (nI (i + 1))), (4, .int (bmN (fun c => nI (scN (gvT A.1.2.1) (upd A.1.1 1 (nI (c + 1))) (nI y) n)) i)), (3, .int (bvN (fun c => nI (scN (gvT A.1.2.1) (upd A.1.1 1 (nI (c + 1))) (nI y) n)) i)), (0, .ref (b_ad w 0)), (1, .int (nI y)), (2, .int (nI n))]) dX10_fitSpeed_61 (q := 63) rfl (Nat.le_of_ble_eq_true rfl) rfl ?_
    refine v_iload h (i := 6) dX10_fitSpeed_63 (q := 65) rfl 0 rfl ?_
    refine v_iload h (i := 4) dX10_fitSpeed_65 (q := 67) rfl 2 rfl ?_
    refine v_icmp_le h (t := 75) dX10_fitSpeed_67 (by decide) (q := 70) rfl (fun c67 => ?_) (fun c67 => ?_)
    · refine v_iload_n h (i := 3) dX10_fitSpeed_75 (q := 76) rfl rfl 3 rfl ?_
      refine v_istore_n h (i := 3) (ls1 := [(3, .int (bvN (fun c => nI (scN (gvT A.1.2.1) (upd A.1.1 1 (nI (c + 1))) (nI y) n)) i)), (6, .int r58), (5, .int (nI (i + 1))), (4, .int (bmN (fun c => nI (scN (gvT A.1.2.1) (upd A.1.1 1 (nI (c + 1))) (nI y) n)) i)), (0, .ref (b_ad w 0)), (1, .int (nI y)), (2, .int (nI n))]) dX10_fitSpeed_76 (q := 77) rfl rfl (Nat.le_of_ble_eq_true rfl) rfl ?_
      refine v_iload h (i := 4) dX10_fitSpeed_77 (q := 79) rfl 3 rfl ?_
      refine v_iload h (i := 6) dX10_fitSpeed_79 (q := 81) rfl 1 rfl ?_
      refine v_max h m1001 m386 m13 m387 ⟨Nat.le_of_ble_eq_true rfl, Nat.le_of_ble_eq_true rfl⟩ dX10_fitSpeed_81 (q := 84) rfl ?_
      refine v_istore h (i := 4) (ls1 := [(4, .int (imax (bmN (fun c => nI (scN (gvT A.1.2.1) (upd A.1.1 1 (nI (c + 1))) (nI y) n)) i) r58)), (3, .int (bvN (fun c => nI (scN (gvT A.1.2.1) (upd A.1.1 1 (nI (c + 1))) (nI y) n)) i)), (6, .int r58), (5, .int (nI (i + 1))), (0, .ref (b_ad w 0)), (1, .int (nI y)), (2, .int (nI n))]) dX10_fitSpeed_84 (q := 86) rfl (Nat.le_of_ble_eq_true rfl) rfl ?_
      refine v_iinc h (p := 3) (u := nI (i + 1 + 1)) (ls1 := [(5, .int (nI (i + 1 + 1))), (4, .int (imax (bmN (fun c => nI (scN (gvT A.1.2.1) (upd A.1.1 1 (nI (c + 1))) (nI y) n)) i) r58)), (3, .int (bvN (fun c => nI (scN (gvT A.1.2.1) (upd A.1.1 1 (nI (c + 1))) (nI y) n)) i)), (6, .int r58), (0, .ref (b_ad w 0)), (1, .int (nI y)), (2, .int (nI n))]) dX10_fitSpeed_86 (q := 89) rfl rfl (nI_1 (i + 1)) (Nat.le_of_ble_eq_true rfl) rfl ?_
      refine v_goto h (t := 40) dX10_fitSpeed_89 (by decide) ?_
      refine v_ls [0, 1, 2, 4, 5, 6] (ls2 := [(5, .int (nI (i + 1 + 1))), (4, .int (imax (bmN (fun c => nI (scN (gvT A.1.2.1) (upd A.1.1 1 (nI (c + 1))) (nI y) n)) i) r58)), (3, .int (bvN (fun c => nI (scN (gvT A.1.2.1) (upd A.1.1 1 (nI (c + 1))) (nI y) n)) i)), (0, .ref (b_ad w 0)), (1, .int (nI y)), (2, .int (nI n))]) rfl ?_
      have hr : r58 = (fun c => nI (scN (gvT A.1.2.1) (upd A.1.1 1 (nI (c + 1))) (nI y) n)) i := h58.1
      have hcc := c67
      rw [hr] at hcc
      have hz := ih (m - 1) (by omega) (i + 1) (by omega) σ58 (try_s ht h58.2.1 h58.2.2)
      rw [← bm_max (f := (fun c => nI (scN (gvT A.1.2.1) (upd A.1.1 1 (nI (c + 1))) (nI y) n))) (i := i) hGn] at hz
      rw [bv_no (f := (fun c => nI (scN (gvT A.1.2.1) (upd A.1.1 1 (nI (c + 1))) (nI y) n))) (i := i) hGn (Int32.not_lt.mpr hcc)] at hz
      rw [hr]
      exact hz
    · refine v_iload h (i := 5) dX10_fitSpeed_70 (q := 72) rfl 1 rfl ?_
      refine v_goto h (t := 76) dX10_fitSpeed_72 (by decide) ?_
      refine v_istore_n h (i := 3) (ls1 := [(3, .int (nI (i + 1))), (6, .int r58), (5, .int (nI (i + 1))), (4, .int (bmN (fun c => nI (scN (gvT A.1.2.1) (upd A.1.1 1 (nI (c + 1))) (nI y) n)) i)), (0, .ref (b_ad w 0)), (1, .int (nI y)), (2, .int (nI n))]) dX10_fitSpeed_76 (q := 77) rfl rfl (Nat.le_of_ble_eq_true rfl) rfl ?_
      refine v_iload h (i := 4) dX10_fitSpeed_77 (q := 79) rfl 3 rfl ?_
      refine v_iload h (i := 6) dX10_fitSpeed_79 (q := 81) rfl 1 rfl ?_
      refine v_max h m1001 m386 m13 m387 ⟨Nat.le_of_ble_eq_true rfl, Nat.le_of_ble_eq_true rfl⟩ dX10_fitSpeed_81 (q := 84) rfl ?_
      refine v_istore h (i := 4) (ls1 := [(4, .int (imax (bmN (fun c => nI (scN (gvT A.1.2.1) (upd A.1.1 1 (nI (c + 1))) (nI y) n)) i) r58)), (3, .int (nI (i + 1))), (6, .int r58), (5, .int (nI (i + 1))), (0, .ref (b_ad w 0)), (1, .int (nI y)), (2, .int (nI n))]) dX10_fitSpeed_84 (q := 86) rfl (Nat.le_of_ble_eq_true rfl) rfl ?_
      refine v_iinc h (p := 3) (u := nI (i + 1 + 1)) (ls1 := [(5, .int (nI (i + 1 + 1))), (4, .int (imax (bmN (fun c => nI (scN (gvT A.1.2.1) (upd A.1.1 1 (nI (c + 1))) (nI y) n)) i) r58)), (3, .int (nI (i + 1))), (6, .int r58), (0, .ref (b_ad w 0)), (1, .int (nI y)), (2, .int (nI n))]) dX10_fitSpeed_86 (q := 89) rfl rfl (nI_1 (i + 1)) (Nat.le_of_ble_eq_true rfl) rfl ?_
      refine v_goto h (t := 40) dX10_fitSpeed_89 (by decide) ?_
      refine v_ls [0, 1, 2, 4, 5, 6] (ls2 := [(5, .int (nI (i + 1 + 1))), (4, .int (imax (bmN (fun c => nI (scN (gvT A.1.2.1) (upd A.1.1 1 (nI (c + 1))) (nI y) n)) i) r58)), (3, .int (nI (i + 1))), (0, .ref (b_ad w 0)), (1, .int (nI y)), (2, .int (nI n))]) rfl ?_
      have hr : r58 = (fun c => nI (scN (gvT A.1.2.1) (upd A.1.1 1 (nI (c + 1))) (nI y) n)) i := h58.1
      have hcc := c67
      rw [hr] at hcc
      have hz := ih (m - 1) (by omega) (i + 1) (by omega) σ58 (try_s ht h58.2.1 h58.2.2)
      rw [← bm_max (f := (fun c => nI (scN (gvT A.1.2.1) (upd A.1.1 1 (nI (c + 1))) (nI y) n))) (i := i) hGn] at hz
      rw [bv_up (f := (fun c => nI (scN (gvT A.1.2.1) (upd A.1.1 1 (nI (c + 1))) (nI y) n))) (i := i) hGn (Int32.not_le.mp hcc)] at hz
      rw [hr]
      exact hz
set_option maxHeartbeats 4000000 in
set_option maxRecDepth 100000 in
theorem c_X10_fitSpeed {w : bw} {σ : bSt} {A : bA} {cell n0 : Int32} (hm : sModel w) (hR : RQ σ A) : MV yX10_fitSpeed cX10_fitSpeed 7 (some .int) (rmm 7 168) w [.ref (b_ad w 0), .int cell, .int n0] σ (pM (oFit cell n0 A)) := by
  refine b_met (ls := [(0, .ref (b_ad w 0)), (1, .int cell), (2, .int n0)]) (by decide) (Nat.le_of_ble_eq_true rfl) rfl (fun x h => ?_)
  refine v_iload_n h (i := 1) dX10_fitSpeed_0 (q := 1) rfl rfl 1 rfl ?_
  refine v_callS h (As := [.int cell]) (rest := []) (c_X10_isCell (v := cell)) cal_X10_isCell m946 m945 ⟨rfl, rfl, Nat.le_of_ble_eq_true rfl, Nat.le_of_ble_eq_true rfl⟩ rfl rfl (Nat.le_of_ble_eq_true rfl) dX10_fitSpeed_1 (q := 4) rfl (kB (fun c1 => ?_) (fun c1 => ?_))
  · refine v_if_eq h (t := 14) dX10_fitSpeed_4 (by decide) (q := 7) rfl (fun c => absurd c (by decide)) (fun _ => ?_)
    refine v_iload_n h (i := 2) dX10_fitSpeed_7 (q := 8) rfl rfl 2 rfl ?_
    refine v_callS h (As := [.int n0]) (rest := []) (c_X10_isAhead (v := n0)) cal_X10_isAhead m1200 m1199 ⟨rfl, rfl, Nat.le_of_ble_eq_true rfl, Nat.le_of_ble_eq_true rfl⟩ rfl rfl (Nat.le_of_ble_eq_true rfl) dX10_fitSpeed_8 (q := 11) rfl (kB (fun c8 => ?_) (fun c8 => ?_))
    · refine v_if_ne h (t := 21) dX10_fitSpeed_11 (by decide) (q := 14) rfl (fun _ => ?_) (fun c => absurd c (by decide))
      obtain ⟨y, hy, rfl⟩ := cell_w c1
      obtain ⟨n, hn, rfl⟩ := wi_0 (n := 128) c8 rfl
      refine v_aload_n h (i := 0) dX10_fitSpeed_21 (q := 22) rfl rfl 0 rfl ?_
      refine v_get h (k := 0) (v := .ref (b_ad w 1)) cls10 hm.1.1 hm.1.2 (Nat.le_of_ble_eq_true rfl) m849 rfl dX10_fitSpeed_22 (q := 25) rfl ?_
      refine v_aload_n h (i := 0) dX10_fitSpeed_25 (q := 26) rfl rfl 0 rfl ?_
      refine v_get h (k := 2) (v := .ref (b_ad w 3)) cls10 hm.1.1 hm.1.2 (Nat.le_of_ble_eq_true rfl) m851 rfl dX10_fitSpeed_26 (q := 29) rfl ?_
      refine v_callS h (As := [.ref (b_ad w 1), .ref (b_ad w 3)]) (rest := []) (c_X10_copy (σ := σ) (a := 1) (b := 3) hm.2.1 hm.2.2.2.1 (by decide)) cal_X10_copy m1203 m1202 ⟨rfl, rfl, Nat.le_of_ble_eq_true rfl, Nat.le_of_ble_eq_true rfl⟩ rfl rfl (Nat.le_of_ble_eq_true rfl) dX10_fitSpeed_29 (q := 32) rfl (kU ?_)
      refine v_iconst h (v := 0) dX10_fitSpeed_32 (q := 33) rfl (by decide) ?_
      refine v_istore_n h (i := 3) (ls1 := [(3, .int 0), (0, .ref (b_ad w 0)), (1, .int (nI y)), (2, .int (nI n))]) dX10_fitSpeed_33 (q := 34) rfl rfl (Nat.le_of_ble_eq_true rfl) rfl ?_
      refine v_iconst h (v := -1) dX10_fitSpeed_34 (q := 35) rfl (by decide) ?_
      refine v_istore h (i := 4) (ls1 := [(4, .int (-1)), (3, .int 0), (0, .ref (b_ad w 0)), (1, .int (nI y)), (2, .int (nI n))]) dX10_fitSpeed_35 (q := 37) rfl (Nat.le_of_ble_eq_true rfl) rfl ?_
      refine v_iconst h (v := 1) dX10_fitSpeed_37 (q := 38) rfl (by decide) ?_
      refine v_istore h (i := 5) (ls1 := [(5, .int 1), (4, .int (-1)), (3, .int 0), (0, .ref (b_ad w 0)), (1, .int (nI y)), (2, .int (nI n))]) dX10_fitSpeed_38 (q := 40) rfl (Nat.le_of_ble_eq_true rfl) rfl ?_
      exact lX10_fitSpeed_40 hm hR h y n hy hn ⟨c1, c8⟩ rfl rfl 9 0 rfl _ (try_0 hR)
    · refine v_if_ne h (t := 21) dX10_fitSpeed_11 (by decide) (q := 14) rfl (fun c => absurd (by decide) c) (fun _ => ?_)
      refine v_aload_n h (i := 0) dX10_fitSpeed_14 (q := 15) rfl rfl 0 rfl ?_
      refine v_ldc h (v := -1000000001) m931 dX10_fitSpeed_15 (q := 17) rfl ?_
      refine v_callV h (As := [.int (-1000000001)]) (rest := []) (c_X10_finding (σ := σ) (e := 1) (v := -1000000001) hm (by decide) (by decide +kernel)) cal_X10_finding calV_X10_finding m932 ⟨rfl, rfl, Nat.le_of_ble_eq_true rfl, Nat.le_of_ble_eq_true rfl⟩ rfl hm.1.1 hm.1.2 ⟨_, _, rfl⟩ rfl (Nat.le_of_ble_eq_true rfl) dX10_fitSpeed_17 (q := 20) rfl (kI ?_)
      exact v_iret h dX10_fitSpeed_20 (pM_of (by unfold oFit; rw [if_neg (fun z => by first | exact c1 z.1 | exact c8 z.2), ref1]) (hR.err (by decide)))
  · refine v_if_eq h (t := 14) dX10_fitSpeed_4 (by decide) (q := 7) rfl (fun _ => ?_) (fun c => absurd (by decide) c)
    refine v_aload_n h (i := 0) dX10_fitSpeed_14 (q := 15) rfl rfl 0 rfl ?_
    refine v_ldc h (v := -1000000001) m931 dX10_fitSpeed_15 (q := 17) rfl ?_
    refine v_callV h (As := [.int (-1000000001)]) (rest := []) (c_X10_finding (σ := σ) (e := 1) (v := -1000000001) hm (by decide) (by decide +kernel)) cal_X10_finding calV_X10_finding m932 ⟨rfl, rfl, Nat.le_of_ble_eq_true rfl, Nat.le_of_ble_eq_true rfl⟩ rfl hm.1.1 hm.1.2 ⟨_, _, rfl⟩ rfl (Nat.le_of_ble_eq_true rfl) dX10_fitSpeed_17 (q := 20) rfl (kI ?_)
    exact v_iret h dX10_fitSpeed_20 (pM_of (by unfold oFit; rw [if_neg (fun z => by first | exact c1 z.1 | exact c8 z.2), ref1]) (hR.err (by decide)))

set_option maxHeartbeats 4000000 in
set_option maxRecDepth 100000 in
theorem lX10_strokes_40 {w : bw} {σ : bSt} {A : bA} {b n0 : Int32} (hm : sModel w) (hR : RQ σ A) {x : bX} (h : Cx x w cX10_strokes RX10 6 (some .int) (rmm 4 93)) : ∀ d n : Nat, d < afN A.1.1 → n ≤ 128 → inN b (afN A.1.1) ∧ wj n0 0 128 → b = nI d → n0 = nI n → ∀ m k : Nat, k + m = n → ∀ τ : bSt, fM (b_set σ 3 (σ 1)) τ → MW τ (almN A.1.1 k) A.1.2.1 → V x w 6 (pM (oStrokes b n0 A)) 40 [(4, .int (nI k)), (3, .int (nI (stN A.1.1 d k))), (0, .ref (b_ad w 0)), (1, .int (nI d)), (2, .int (nI n))] [] τ := by
  intro d n hd hn hcond ebd enn
  have hb9 : d < 9 := by have := hR.af.2; omega
  refine b_ind (fun m ih => ?_)
  intro k hkm τ hf hWt
  refine v_iload h (i := 4) dX10_strokes_40 (q := 42) rfl 0 rfl ?_
  refine v_iload_n h (i := 2) dX10_strokes_42 (q := 43) rfl rfl 4 rfl ?_
  refine v_icmp_ge h (t := 83) dX10_strokes_43 (by decide) (q := 46) rfl (fun c43 => ?_) (fun c43 => ?_)
  · refine v_aload_n h (i := 0) dX10_strokes_83 (q := 84) rfl rfl 2 rfl ?_
    refine v_iload_n h (i := 3) dX10_strokes_84 (q := 85) rfl rfl 1 rfl ?_
    refine v_callV h (As := [.int (nI (stN A.1.1 d k))]) (rest := []) (c_X10_putBack (σ := τ) (v := nI (stN A.1.1 d k)) hm) cal_X10_putBack calV_X10_putBack m1205 ⟨rfl, rfl, Nat.le_of_ble_eq_true rfl, Nat.le_of_ble_eq_true rfl⟩ rfl hm.1.1 hm.1.2 ⟨_, _, rfl⟩ rfl (Nat.le_of_ble_eq_true rfl) dX10_strokes_85 (q := 88) rfl (kI ?_)
    exact v_iret h dX10_strokes_88 (pM_of (by subst ebd enn; unfold oStrokes; rw [if_pos hcond, cl_nI (n := d) (by omega), cl_nI (n := n) (by omega), show k = n by have := nge (k := n) (nI_toInt (by omega)) (by omega) c43; omega]) (hR.back hf hWt))
  · have hkn : k < n := nlt (nI_toInt (by omega)) (by omega) c43
    have hbt := bt128 hR.1.2.1
    refine v_aload_n h (i := 0) dX10_strokes_46 (q := 47) rfl rfl 2 rfl ?_
    refine v_iload_n h (i := 1) dX10_strokes_47 (q := 48) rfl rfl 3 rfl ?_
    refine v_iconst h (v := 2) dX10_strokes_48 (q := 49) rfl (by decide) ?_
    refine v_callV h (As := [.int (nI d), .int 2]) (rest := []) (c_X10_boatIs (σ := τ) (b := d) (f := 2) hm hb9 (by decide)) cal_X10_boatIs calV_X10_boatIs m961 ⟨rfl, rfl, Nat.le_of_ble_eq_true rfl, Nat.le_of_ble_eq_true rfl⟩ rfl hm.1.1 hm.1.2 ⟨_, _, rfl⟩ rfl (Nat.le_of_ble_eq_true rfl) dX10_strokes_49 (q := 52) rfl (kI ?_)
    rw [show (τ 1 (14 + 4 * d) : Int32) = almN A.1.1 k (14 + 4 * d) from (hWt.n (by omega))]
    refine v_istore h (i := 5) (ls1 := [(5, .int (almN A.1.1 k (14 + 4 * d))), (4, .int (nI k)), (3, .int (nI (stN A.1.1 d k))), (0, .ref (b_ad w 0)), (1, .int (nI d)), (2, .int (nI n))]) dX10_strokes_52 (q := 54) rfl (Nat.le_of_ble_eq_true rfl) rfl ?_
    refine v_aload_n h (i := 0) dX10_strokes_54 (q := 55) rfl rfl 3 rfl ?_
    refine v_callV h (As := []) (rest := []) (c_X10_moveAll (σ := τ) (N := almN A.1.1 k) (T := A.1.2.1) hm hWt (by rw [alm_0, (hR.n (k := 0) (by omega)).symm.trans hR.mw.bt.1, nI_add, nI_clamp (by omega)]; omega)) cal_X10_moveAll calV_X10_moveAll m1180 ⟨rfl, rfl, Nat.le_of_ble_eq_true rfl, Nat.le_of_ble_eq_true rfl⟩ rfl hm.1.1 hm.1.2 ⟨_, _, rfl⟩ rfl (Nat.le_of_ble_eq_true rfl) dX10_strokes_55 (q := 58) rfl (kV (fun σ55 h55 => ?_))
    refine v_iload_n h (i := 3) dX10_strokes_58 (q := 59) rfl rfl 2 rfl ?_
    refine v_aload_n h (i := 0) dX10_strokes_59 (q := 60) rfl rfl 3 rfl ?_
    refine v_iload_n h (i := 1) dX10_strokes_60 (q := 61) rfl rfl 4 rfl ?_
    refine v_iconst h (v := 2) dX10_strokes_61 (q := 62) rfl (by decide) ?_
    refine v_callV h (As := [.int (nI d), .int 2]) (rest := [.int (nI (stN A.1.1 d k))]) (c_X10_boatIs (σ := σ55) (b := d) (f := 2) hm hb9 (by decide)) cal_X10_boatIs calV_X10_boatIs m961 ⟨rfl, rfl, Nat.le_of_ble_eq_true rfl, Nat.le_of_ble_eq_true rfl⟩ rfl hm.1.1 hm.1.2 ⟨_, _, rfl⟩ rfl (Nat.le_of_ble_eq_true rfl) dX10_strokes_62 (q := 65) rfl (kI ?_)
    rw [show (σ55 1 (14 + 4 * d) : Int32) = almN A.1.1 (k + 1) (14 + 4 * d) from (h55.2.n (by omega))]
    refine v_iload h (i := 5) dX10_strokes_65 (q := 67) rfl 0 rfl ?_
    refine v_icmp_ne h (t := 74) dX10_strokes_67 (by decide) (q := 70) rfl (fun c67 => ?_) (fun c67 => ?_)
    · refine v_iconst h (v := 1) dX10_strokes_74 (q := 75) rfl (by decide) ?_
      refine v_iadd h dX10_strokes_75 (q := 76) rfl ?_
      rw [show ((nI (stN A.1.1 d k)) + 1 : Int32) = nI (stN A.1.1 d k + 1) from (nI_1 _)]
      refine v_istore_n h (i := 3) (ls1 := [(3, .int (nI (stN A.1.1 d k + 1))), (5, .int (almN A.1.1 k (14 + 4 * d))), (4, .int (nI k)), (0, .ref (b_ad w 0)), (1, .int (nI d)), (2, .int (nI n))]) dX10_strokes_76 (q := 77) rfl rfl (Nat.le_of_ble_eq_true rfl) rfl ?_
      refine v_iinc h (p := 2) (u := nI (k + 1)) (ls1 := [(4, .int (nI (k + 1))), (3, .int (nI (stN A.1.1 d k + 1))), (5, .int (almN A.1.1 k (14 + 4 * d))), (0, .ref (b_ad w 0)), (1, .int (nI d)), (2, .int (nI n))]) dX10_strokes_77 (q := 80) rfl rfl (nI_1 k) (Nat.le_of_ble_eq_true rfl) rfl ?_
      refine v_goto h (t := 40) dX10_strokes_80 (by decide) ?_
      refine v_ls [0, 1, 3, 4, 5] (ls2 := [(4, .int (nI (k + 1))), (3, .int (nI (stN A.1.1 d k + 1))), (0, .ref (b_ad w 0)), (1, .int (nI d)), (2, .int (nI n))]) rfl ?_
      have es : stN A.1.1 d (k + 1) = (stN A.1.1 d k + 1) := by rw [stN, if_neg (fun z => c67 z.symm)]
      have hz := ih (m - 1) (by omega) (k + 1) (by omega) σ55 (hf.trans h55.1) h55.2
      rw [es] at hz
      exact hz
    · refine v_iconst h (v := 0) dX10_strokes_70 (q := 71) rfl (by decide) ?_
      refine v_goto h (t := 75) dX10_strokes_71 (by decide) ?_
      refine v_iadd h dX10_strokes_75 (q := 76) rfl ?_
      rw [show ((nI (stN A.1.1 d k)) + 0 : Int32) = nI (stN A.1.1 d k) from (Int32.add_zero _)]
      refine v_istore_n h (i := 3) (ls1 := [(3, .int (nI (stN A.1.1 d k))), (5, .int (almN A.1.1 k (14 + 4 * d))), (4, .int (nI k)), (0, .ref (b_ad w 0)), (1, .int (nI d)), (2, .int (nI n))]) dX10_strokes_76 (q := 77) rfl rfl (Nat.le_of_ble_eq_true rfl) rfl ?_
      refine v_iinc h (p := 2) (u := nI (k + 1)) (ls1 := [(4, .int (nI (k + 1))), (3, .int (nI (stN A.1.1 d k))), (5, .int (almN A.1.1 k (14 + 4 * d))), (0, .ref (b_ad w 0)), (1, .int (nI d)), (2, .int (nI n))]) dX10_strokes_77 (q := 80) rfl rfl (nI_1 k) (Nat.le_of_ble_eq_true rfl) rfl ?_
      refine v_goto h (t := 40) dX10_strokes_80 (by decide) ?_
      refine v_ls [0, 1, 3, 4, 5] (ls2 := [(4, .int (nI (k + 1))), (3, .int (nI (stN A.1.1 d k))), (0, .ref (b_ad w 0)), (1, .int (nI d)), (2, .int (nI n))]) rfl ?_
      have es : stN A.1.1 d (k + 1) = (stN A.1.1 d k) := by rw [stN, if_pos c67.symm]
      have hz := ih (m - 1) (by omega) (k + 1) (by omega) σ55 (hf.trans h55.1) h55.2
      rw [es] at hz
      exact hz
set_option maxHeartbeats 4000000 in
set_option maxRecDepth 100000 in
theorem c_X10_strokes {w : bw} {σ : bSt} {A : bA} {b n0 : Int32} (hm : sModel w) (hR : RQ σ A) : MV yX10_strokes cX10_strokes 6 (some .int) (rmm 4 93) w [.ref (b_ad w 0), .int b, .int n0] σ (pM (oStrokes b n0 A)) := by
  refine b_met (ls := [(0, .ref (b_ad w 0)), (1, .int b), (2, .int n0)]) (by decide) (Nat.le_of_ble_eq_true rfl) rfl (fun x h => ?_)
  refine v_aload_n h (i := 0) dX10_strokes_0 (q := 1) rfl rfl 0 rfl ?_
  refine v_iload_n h (i := 1) dX10_strokes_1 (q := 2) rfl rfl 1 rfl ?_
  refine v_bipush h (v := 7) dX10_strokes_2 (q := 4) rfl (by decide) ?_
  refine v_callV h (As := [.int b, .int 7]) (rest := []) (c_X10_is (σ := σ) (k := b) (c := 7) hm (by decide)) cal_X10_is calV_X10_is m953 ⟨rfl, rfl, Nat.le_of_ble_eq_true rfl, Nat.le_of_ble_eq_true rfl⟩ rfl hm.1.1 hm.1.2 ⟨_, _, rfl⟩ rfl (Nat.le_of_ble_eq_true rfl) dX10_strokes_4 (q := 7) rfl (kB (fun c4 => ?_) (fun c4 => ?_))
  · refine v_if_eq h (t := 17) dX10_strokes_7 (by decide) (q := 10) rfl (fun c => absurd c (by decide)) (fun _ => ?_)
    refine v_iload_n h (i := 2) dX10_strokes_10 (q := 11) rfl rfl 2 rfl ?_
    refine v_callS h (As := [.int n0]) (rest := []) (c_X10_isAhead (v := n0)) cal_X10_isAhead m1200 m1199 ⟨rfl, rfl, Nat.le_of_ble_eq_true rfl, Nat.le_of_ble_eq_true rfl⟩ rfl rfl (Nat.le_of_ble_eq_true rfl) dX10_strokes_11 (q := 14) rfl (kB (fun c11 => ?_) (fun c11 => ?_))
    · refine v_if_ne h (t := 24) dX10_strokes_14 (by decide) (q := 17) rfl (fun _ => ?_) (fun c => absurd c (by decide))
      obtain ⟨d, hd, rfl⟩ := inN_nI (hR.isb.mp c4)
      have hb9 : d < 9 := by have := hR.af.2; omega
      obtain ⟨n, hn, rfl⟩ := wi_0 (n := 128) c11 rfl
      refine v_aload_n h (i := 0) dX10_strokes_24 (q := 25) rfl rfl 0 rfl ?_
      refine v_get h (k := 0) (v := .ref (b_ad w 1)) cls10 hm.1.1 hm.1.2 (Nat.le_of_ble_eq_true rfl) m849 rfl dX10_strokes_25 (q := 28) rfl ?_
      refine v_aload_n h (i := 0) dX10_strokes_28 (q := 29) rfl rfl 0 rfl ?_
      refine v_get h (k := 2) (v := .ref (b_ad w 3)) cls10 hm.1.1 hm.1.2 (Nat.le_of_ble_eq_true rfl) m851 rfl dX10_strokes_29 (q := 32) rfl ?_
      refine v_callS h (As := [.ref (b_ad w 1), .ref (b_ad w 3)]) (rest := []) (c_X10_copy (σ := σ) (a := 1) (b := 3) hm.2.1 hm.2.2.2.1 (by decide)) cal_X10_copy m1203 m1202 ⟨rfl, rfl, Nat.le_of_ble_eq_true rfl, Nat.le_of_ble_eq_true rfl⟩ rfl rfl (Nat.le_of_ble_eq_true rfl) dX10_strokes_32 (q := 35) rfl (kU ?_)
      refine v_iconst h (v := 0) dX10_strokes_35 (q := 36) rfl (by decide) ?_
      refine v_istore_n h (i := 3) (ls1 := [(3, .int 0), (0, .ref (b_ad w 0)), (1, .int (nI d)), (2, .int (nI n))]) dX10_strokes_36 (q := 37) rfl rfl (Nat.le_of_ble_eq_true rfl) rfl ?_
      refine v_iconst h (v := 0) dX10_strokes_37 (q := 38) rfl (by decide) ?_
      refine v_istore h (i := 4) (ls1 := [(4, .int 0), (3, .int 0), (0, .ref (b_ad w 0)), (1, .int (nI d)), (2, .int (nI n))]) dX10_strokes_38 (q := 40) rfl (Nat.le_of_ble_eq_true rfl) rfl ?_
      exact lX10_strokes_40 hm hR h d n hd hn ⟨hR.isb.mp c4, c11⟩ rfl rfl n 0 (by omega) _ fM_rfl hR.mw.as3
    · refine v_if_ne h (t := 24) dX10_strokes_14 (by decide) (q := 17) rfl (fun c => absurd (by decide) c) (fun _ => ?_)
      refine v_aload_n h (i := 0) dX10_strokes_17 (q := 18) rfl rfl 0 rfl ?_
      refine v_ldc h (v := -1000000001) m931 dX10_strokes_18 (q := 20) rfl ?_
      refine v_callV h (As := [.int (-1000000001)]) (rest := []) (c_X10_finding (σ := σ) (e := 1) (v := -1000000001) hm (by decide) (by decide +kernel)) cal_X10_finding calV_X10_finding m932 ⟨rfl, rfl, Nat.le_of_ble_eq_true rfl, Nat.le_of_ble_eq_true rfl⟩ rfl hm.1.1 hm.1.2 ⟨_, _, rfl⟩ rfl (Nat.le_of_ble_eq_true rfl) dX10_strokes_20 (q := 23) rfl (kI ?_)
      exact v_iret h dX10_strokes_23 (pM_of (by unfold oStrokes; rw [if_neg (fun z => by first | exact c4 (hR.isb.mpr z.1) | exact c11 z.2), ref1]) (hR.err (by decide)))
  · refine v_if_eq h (t := 17) dX10_strokes_7 (by decide) (q := 10) rfl (fun _ => ?_) (fun c => absurd (by decide) c)
    refine v_aload_n h (i := 0) dX10_strokes_17 (q := 18) rfl rfl 0 rfl ?_
    refine v_ldc h (v := -1000000001) m931 dX10_strokes_18 (q := 20) rfl ?_
    refine v_callV h (As := [.int (-1000000001)]) (rest := []) (c_X10_finding (σ := σ) (e := 1) (v := -1000000001) hm (by decide) (by decide +kernel)) cal_X10_finding calV_X10_finding m932 ⟨rfl, rfl, Nat.le_of_ble_eq_true rfl, Nat.le_of_ble_eq_true rfl⟩ rfl hm.1.1 hm.1.2 ⟨_, _, rfl⟩ rfl (Nat.le_of_ble_eq_true rfl) dX10_strokes_20 (q := 23) rfl (kI ?_)
    exact v_iret h dX10_strokes_23 (pM_of (by unfold oStrokes; rw [if_neg (fun z => by first | exact c4 (hR.isb.mpr z.1) | exact c11 z.2), ref1]) (hR.err (by decide)))

set_option maxHeartbeats 4000000 in
set_option maxRecDepth 100000 in
theorem c_X10_mayBeFrom {w : bw} {σ : bSt} {c u v : Nat} {N : bN} {T : bT} (hm : sModel w) (hW : MW σ N T) (hc : c < 64) (hu : u < 262144) (hv : v < 1000000) : MV yX10_mayBeFrom cX10_mayBeFrom 4 (some .boolean) (rmm 4 95) w [.ref (b_ad w 0), .int (nI c), .int (nI u), .int (nI v)] σ (pZ (ogP (gvT T) N u v c) (fun σ' => sM σ σ' ∧ CM σ' T)) := by
  refine b_met (ls := [(0, .ref (b_ad w 0)), (1, .int (nI c)), (2, .int (nI u)), (3, .int (nI v))]) (by decide) (Nat.le_of_ble_eq_true rfl) rfl (fun x h => ?_)
  refine v_aload_n h (i := 0) dX10_mayBeFrom_0 (q := 1) rfl rfl 0 rfl ?_
  refine v_iload_n h (i := 1) dX10_mayBeFrom_1 (q := 2) rfl rfl 1 rfl ?_
  refine v_iload_n h (i := 2) dX10_mayBeFrom_2 (q := 3) rfl rfl 2 rfl ?_
  refine v_sipush h (v := 4096) dX10_mayBeFrom_3 (q := 6) rfl (by decide) ?_
  refine v_idiv h dX10_mayBeFrom_6 (q := 7) rfl (by decide) ?_
  rw [show ((nI u) / 4096 : Int32) = nI (u / 4096) from (pk_div (d := 4096) (by omega) (by decide) (by decide))]
  refine v_callV h (As := [.int (nI c), .int (nI (u / 4096))]) (rest := []) (c_X10_lags (σ := σ) (x0 := c) (y := (u / 4096)) (N := N) (T := T) hm hW hc (by omega)) cal_X10_lags calV_X10_lags m993 ⟨rfl, rfl, Nat.le_of_ble_eq_true rfl, Nat.le_of_ble_eq_true rfl⟩ rfl hm.1.1 hm.1.2 ⟨_, _, rfl⟩ rfl (Nat.le_of_ble_eq_true rfl) dX10_mayBeFrom_7 (q := 10) rfl (kR (fun r7 σ7 h7 => ?_))
  refine v_iload_n h (i := 3) dX10_mayBeFrom_10 (q := 11) rfl rfl 3 rfl ?_
  refine v_sipush h (v := 10000) dX10_mayBeFrom_11 (q := 14) rfl (by decide) ?_
  refine v_idiv h dX10_mayBeFrom_14 (q := 15) rfl (by decide) ?_
  rw [show ((nI v) / 10000 : Int32) = nI (v / 10000) from (pk_div (d := 10000) (by omega) (by decide) (by decide))]
  refine v_icmp_ne h (t := 60) dX10_mayBeFrom_15 (by decide) (q := 18) rfl (fun c15 => ?_) (fun c15 => ?_)
  · refine v_iconst h (v := 0) dX10_mayBeFrom_60 (q := 61) rfl (by decide) ?_
    exact v_zret h rfl dX10_mayBeFrom_61 (pZ0 ⟨h7.2.1, h7.2.2⟩ (fun z => c15 (((congrArg (fun z => gvT T 0 z (N 1) (nI (tN N))) (far_nI hc (by omega))).trans h7.1.symm).symm.trans z.1)))
  · refine v_aload_n h (i := 0) dX10_mayBeFrom_18 (q := 19) rfl rfl 0 rfl ?_
    refine v_iload_n h (i := 1) dX10_mayBeFrom_19 (q := 20) rfl rfl 1 rfl ?_
    refine v_iload_n h (i := 2) dX10_mayBeFrom_20 (q := 21) rfl rfl 2 rfl ?_
    refine v_bipush h (v := 64) dX10_mayBeFrom_21 (q := 23) rfl (by decide) ?_
    refine v_idiv h dX10_mayBeFrom_23 (q := 24) rfl (by decide) ?_
    rw [show ((nI u) / 64 : Int32) = nI (u / 64) from (pk_div (d := 64) (by omega) (by decide) (by decide))]
    refine v_bipush h (v := 64) dX10_mayBeFrom_24 (q := 26) rfl (by decide) ?_
    refine v_irem h dX10_mayBeFrom_26 (q := 27) rfl (by decide) ?_
    rw [show ((nI (u / 64)) - (nI (u / 64)) / 64 * 64 : Int32) = nI (u / 64 % 64) from (pk_rem (d := 64) (by omega) (by decide) (by decide))]
    refine v_callV h (As := [.int (nI c), .int (nI (u / 64 % 64))]) (rest := []) (c_X10_lags (σ := σ7) (x0 := c) (y := (u / 64 % 64)) (N := N) (T := T) hm (hW.sc h7.2.1 h7.2.2) hc (by omega)) cal_X10_lags calV_X10_lags m993 ⟨rfl, rfl, Nat.le_of_ble_eq_true rfl, Nat.le_of_ble_eq_true rfl⟩ rfl hm.1.1 hm.1.2 ⟨_, _, rfl⟩ rfl (Nat.le_of_ble_eq_true rfl) dX10_mayBeFrom_27 (q := 30) rfl (kR (fun r27 σ27 h27 => ?_))
    refine v_iload_n h (i := 3) dX10_mayBeFrom_30 (q := 31) rfl rfl 3 rfl ?_
    refine v_bipush h (v := 100) dX10_mayBeFrom_31 (q := 33) rfl (by decide) ?_
    refine v_idiv h dX10_mayBeFrom_33 (q := 34) rfl (by decide) ?_
    rw [show ((nI v) / 100 : Int32) = nI (v / 100) from (pk_div (d := 100) (by omega) (by decide) (by decide))]
    refine v_bipush h (v := 100) dX10_mayBeFrom_34 (q := 36) rfl (by decide) ?_
    refine v_irem h dX10_mayBeFrom_36 (q := 37) rfl (by decide) ?_
    rw [show ((nI (v / 100)) - (nI (v / 100)) / 100 * 100 : Int32) = nI (v / 100 % 100) from (pk_rem (d := 100) (by omega) (by decide) (by decide))]
    refine v_icmp_ne h (t := 60) dX10_mayBeFrom_37 (by decide) (q := 40) rfl (fun c37 => ?_) (fun c37 => ?_)
    · refine v_iconst h (v := 0) dX10_mayBeFrom_60 (q := 61) rfl (by decide) ?_
      exact v_zret h rfl dX10_mayBeFrom_61 (pZ0 ⟨h7.2.1.trans h27.2.1, h27.2.2⟩ (fun z => c37 (((congrArg (fun z => gvT T 0 z (N 1) (nI (tN N))) (far_nI hc (by omega))).trans h27.1.symm).symm.trans z.2.1)))
    · refine v_aload_n h (i := 0) dX10_mayBeFrom_40 (q := 41) rfl rfl 0 rfl ?_
      refine v_iload_n h (i := 1) dX10_mayBeFrom_41 (q := 42) rfl rfl 1 rfl ?_
      refine v_iload_n h (i := 2) dX10_mayBeFrom_42 (q := 43) rfl rfl 2 rfl ?_
      refine v_bipush h (v := 64) dX10_mayBeFrom_43 (q := 45) rfl (by decide) ?_
      refine v_irem h dX10_mayBeFrom_45 (q := 46) rfl (by decide) ?_
      rw [show ((nI u) - (nI u) / 64 * 64 : Int32) = nI (u % 64) from (pk_rem (d := 64) (by omega) (by decide) (by decide))]
      refine v_callV h (As := [.int (nI c), .int (nI (u % 64))]) (rest := []) (c_X10_lags (σ := σ27) (x0 := c) (y := (u % 64)) (N := N) (T := T) hm ((hW.sc h7.2.1 h7.2.2).sc h27.2.1 h27.2.2) hc (by omega)) cal_X10_lags calV_X10_lags m993 ⟨rfl, rfl, Nat.le_of_ble_eq_true rfl, Nat.le_of_ble_eq_true rfl⟩ rfl hm.1.1 hm.1.2 ⟨_, _, rfl⟩ rfl (Nat.le_of_ble_eq_true rfl) dX10_mayBeFrom_46 (q := 49) rfl (kR (fun r46 σ46 h46 => ?_))
      refine v_iload_n h (i := 3) dX10_mayBeFrom_49 (q := 50) rfl rfl 3 rfl ?_
      refine v_bipush h (v := 100) dX10_mayBeFrom_50 (q := 52) rfl (by decide) ?_
      refine v_irem h dX10_mayBeFrom_52 (q := 53) rfl (by decide) ?_
      rw [show ((nI v) - (nI v) / 100 * 100 : Int32) = nI (v % 100) from (pk_rem (d := 100) (by omega) (by decide) (by decide))]
      refine v_icmp_ne h (t := 60) dX10_mayBeFrom_53 (by decide) (q := 56) rfl (fun c53 => ?_) (fun c53 => ?_)
      · refine v_iconst h (v := 0) dX10_mayBeFrom_60 (q := 61) rfl (by decide) ?_
        exact v_zret h rfl dX10_mayBeFrom_61 (pZ0 ⟨(h7.2.1.trans h27.2.1).trans h46.2.1, h46.2.2⟩ (fun z => c53 (((congrArg (fun z => gvT T 0 z (N 1) (nI (tN N))) (far_nI hc (by omega))).trans h46.1.symm).symm.trans z.2.2)))
      · refine v_iconst h (v := 1) dX10_mayBeFrom_56 (q := 57) rfl (by decide) ?_
        refine v_goto h (t := 61) dX10_mayBeFrom_57 (by decide) ?_
        exact v_zret h rfl dX10_mayBeFrom_61 (pZ1 ⟨(h7.2.1.trans h27.2.1).trans h46.2.1, h46.2.2⟩ ⟨((congrArg (fun z => gvT T 0 z (N 1) (nI (tN N))) (far_nI hc (by omega))).trans h7.1.symm).trans c15, ((congrArg (fun z => gvT T 0 z (N 1) (nI (tN N))) (far_nI hc (by omega))).trans h27.1.symm).trans c37, ((congrArg (fun z => gvT T 0 z (N 1) (nI (tN N))) (far_nI hc (by omega))).trans h46.1.symm).trans c53⟩)
