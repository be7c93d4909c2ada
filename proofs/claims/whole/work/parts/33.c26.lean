theorem bp_b (v : Int32) : v.toInt8.toInt32 &&& 255 = v &&& 255 := by
  have k : ∀ i : Nat, i < 32 → (255#32).getLsbD i = decide (i < 8) := by decide
  apply Int32.toBitVec_inj.mp
  rw [Int32.toBitVec_and, Int32.toBitVec_and, Int8.toBitVec_toInt32, Int32.toBitVec_toInt8]
  apply BitVec.eq_of_getLsbD_eq
  intro i hi
  rw [BitVec.getLsbD_and, BitVec.getLsbD_and, show (255 : Int32).toBitVec = 255#32 from rfl, k i hi, BitVec.getLsbD_signExtend, BitVec.getLsbD_signExtend]
  by_cases c : i < 8
  · simp [c, hi]
    try omega
  · simp [c]
theorem bp_s (v : Int32) : v.toInt16.toInt32 &&& 65535 = v &&& 65535 := by
  have k : ∀ i : Nat, i < 32 → (65535#32).getLsbD i = decide (i < 16) := by decide
  apply Int32.toBitVec_inj.mp
  rw [Int32.toBitVec_and, Int32.toBitVec_and, Int16.toBitVec_toInt32, Int32.toBitVec_toInt16]
  apply BitVec.eq_of_getLsbD_eq
  intro i hi
  rw [BitVec.getLsbD_and, BitVec.getLsbD_and, show (65535 : Int32).toBitVec = 65535#32 from rfl, k i hi, BitVec.getLsbD_signExtend, BitVec.getLsbD_signExtend]
  by_cases c : i < 16
  · simp [c, hi]
    try omega
  · simp [c]
theorem wr_se {b v : Int32} : wrS b (seS b v) = wrS b v := by
  unfold wrS seS
  by_cases c8 : b = 8
  · rw [if_pos c8, if_pos c8, if_pos c8]
    exact bp_b v
  · rw [if_neg c8, if_neg c8, if_neg c8]
    by_cases c16 : b = 16
    · rw [if_pos c16, if_pos c16, if_pos c16]
      exact bp_s v
    · rw [if_neg c16, if_neg c16, if_neg c16]
theorem RC.put {σ : bSt} {A : bA} (h : RC σ A) {s i : Nat} {v : Int32} (hs : s < 4) (hi : i < (A.2.2.2.2.2 s).2.1) : RC (b_up σ (44 + 2 * s + 1) i (wrS (σ (44 + 2 * s) 0) v)) (setS A s ((A.2.2.2.2.2 s).1, (A.2.2.2.2.2 s).2.1, upd (A.2.2.2.2.2 s).2.2 i (seS (A.2.2.2.2.2 s).1 v))) := by
  have g := h.sh hs
  refine h.sheet hs (fun j a c => b_up_n (by omega)) ?_ g.2.1 ?_ g.2.2.2.1 g.2.2.2.2.1 (fun k hk => ?_)
  · rw [b_up_n (by omega)]; exact g.1
  · rw [b_up_n (by omega)]; exact g.2.2.1
  · rw [show 45 + 2 * s = 44 + 2 * s + 1 by omega, b_up_s, g.1]
    show upd _ _ _ k = wrS _ (upd _ _ _ k)
    unfold upd
    by_cases e : k = i
    · rw [if_pos e, if_pos e, wr_se]
    · rw [if_neg e, if_neg e]
      rw [show 44 + 2 * s + 1 = 45 + 2 * s by omega]
      exact g.2.2.2.2.2 k hk
theorem holds_iff {σ : bSt} {A : bA} (h : RC σ A) {s : Nat} (hs : s < 4) {i : Int32} : (¬ i < 0 ∧ ¬ σ (44 + 2 * s) 1 ≤ i ∧ ¬ (40 : Int32) ≤ i) ↔ inN i (A.2.2.2.2.2 s).2.1 := by
  have g := h.sh hs
  have g4 := g.2.2.2.1
  unfold inN
  rw [g.2.2.1, i_lt, i_le, i_le, nI_toInt (by omega)]
  have h0 : (0 : Int32).toInt = 0 := rfl
  have h9 : (40 : Int32).toInt = 40 := rfl
  omega

set_option maxHeartbeats 4000000 in
set_option maxRecDepth 100000 in
theorem c_X9_put {w : bw} {σ : bSt} {A : bA} {s i v : Int32} (hs : sOpera w) (hR : RC σ A) : MV yX9_put cX9_put 5 (some .int) (rmm 2 43) w [.ref (b_ad w 0), .int s, .int i, .int v] σ (pA (oPut s i v A)) := by
  refine b_met (ls := [(0, .ref (b_ad w 0)), (1, .int s), (2, .int i), (3, .int v)]) (by decide) (Nat.le_of_ble_eq_true rfl) rfl (fun x h => ?_)
  refine v_aload_n h (i := 0) dX9_put_0 (q := 1) rfl rfl 0 rfl ?_
  refine v_iload_n h (i := 1) dX9_put_1 (q := 2) rfl rfl 1 rfl ?_
  refine v_callV h (As := [.int s]) (rest := []) (c_X9_sheetOf (s := s) (σ := σ) hs) cal_X9_sheetOf calV_X9_sheetOf m746 ⟨rfl, rfl, Nat.le_of_ble_eq_true rfl, Nat.le_of_ble_eq_true rfl⟩ rfl hs.1.1 hs.1.2 ⟨_, _, rfl⟩ rfl (Nat.le_of_ble_eq_true rfl) dX9_put_2 (q := 5) rfl (kS (fun u hu eu => ?_) (fun c2 => ?_))
  · refine v_astore h (i := 4) (ls1 := [(4, .ref (b_ad w (44 + 2 * u))), (0, .ref (b_ad w 0)), (1, .int s), (2, .int i), (3, .int v)]) dX9_put_5 (q := 7) rfl (Nat.le_of_ble_eq_true rfl) rfl ?_
    refine v_aload h (i := 4) dX9_put_7 (q := 9) rfl 0 rfl ?_
    refine v_ifnonnullR h (t := 18) dX9_put_9 (by decide) ?_
    refine v_aload h (i := 4) dX9_put_18 (q := 20) rfl 0 rfl ?_
    refine v_callV h (As := []) (rest := []) (c_X7_isMissing (me := 44 + 2 * u) (σ := σ) ((hs.2.2.2.2.2.2.2.2.1 u hu)) ) cal_X7_isMissing calV_X7_isMissing m759 ⟨rfl, rfl, Nat.le_of_ble_eq_true rfl, Nat.le_of_ble_eq_true rfl⟩ rfl (hs.2.2.2.2.2.2.2.2.1 u hu).1.1 (hs.2.2.2.2.2.2.2.2.1 u hu).1.2 ⟨_, _, rfl⟩ rfl (Nat.le_of_ble_eq_true rfl) dX9_put_20 (q := 23) rfl (kB (fun c20 => ?_) (fun c20 => ?_))
    · refine v_if_eq h (t := 32) dX9_put_23 (by decide) (q := 26) rfl (fun c => absurd c (by decide)) (fun _ => ?_)
      refine v_aload_n h (i := 0) dX9_put_26 (q := 27) rfl rfl 1 rfl ?_
      refine v_iconst h (v := 2) dX9_put_27 (q := 28) rfl (by decide) ?_
      refine v_callV h (As := [.int 2]) (rest := []) (c_ref (σ := σ) hs (e := 2) (by decide) rfl) cal_X9_refuse calV_X9_refuse m315 ⟨rfl, rfl, Nat.le_of_ble_eq_true rfl, Nat.le_of_ble_eq_true rfl⟩ rfl hs.1.1 hs.1.2 ⟨_, _, rfl⟩ rfl (Nat.le_of_ble_eq_true rfl) dX9_put_28 (q := 31) rfl (kI ?_)
      exact v_iret h dX9_put_31 (pA_of (by unfold oPut shA; rw [if_pos (by rw [eu]; exact inN_of hu (by decide)), eu, cl_nI (by omega), if_pos (by rw [← (hR.sh hu).1]; exact c20)]; rfl) (hR.err (by decide)))
    · refine v_if_eq h (t := 32) dX9_put_23 (by decide) (q := 26) rfl (fun _ => ?_) (fun c => absurd (by decide) c)
      refine v_aload h (i := 4) dX9_put_32 (q := 34) rfl 0 rfl ?_
      refine v_iload_n h (i := 2) dX9_put_34 (q := 35) rfl rfl 3 rfl ?_
      refine v_callV h (As := [.int i]) (rest := []) (c_X7_holds (me := 44 + 2 * u) (σ := σ) (i := i) ((hs.2.2.2.2.2.2.2.2.1 u hu)) ) cal_X7_holds calV_X7_holds m763 ⟨rfl, rfl, Nat.le_of_ble_eq_true rfl, Nat.le_of_ble_eq_true rfl⟩ rfl (hs.2.2.2.2.2.2.2.2.1 u hu).1.1 (hs.2.2.2.2.2.2.2.2.1 u hu).1.2 ⟨_, _, rfl⟩ rfl (Nat.le_of_ble_eq_true rfl) dX9_put_35 (q := 38) rfl (kB (fun c35 => ?_) (fun c35 => ?_))
      · refine v_if_ne h (t := 47) dX9_put_38 (by decide) (q := 41) rfl (fun _ => ?_) (fun c => absurd c (by decide))
        obtain ⟨k, hk, rfl⟩ := inN_nI ((holds_iff hR hu).mp c35)
        have hk40 := (hR.sh hu).2.2.2.1
        refine v_aload h (i := 4) dX9_put_47 (q := 49) rfl 0 rfl ?_
        refine v_iload_n h (i := 2) dX9_put_49 (q := 50) rfl rfl 3 rfl ?_
        refine v_iload_n h (i := 3) dX9_put_50 (q := 51) rfl rfl 4 rfl ?_
        refine v_callV h (As := [.int (nI k), .int v]) (rest := []) (c_X7_write (me := 44 + 2 * u) (i := k) (v := v) (σ := σ) ((hs.2.2.2.2.2.2.2.2.1 u hu)) c35 (by have := (hR.sh hu).2.2.2.1; omega)) cal_X7_write calV_X7_write m767 ⟨rfl, rfl, Nat.le_of_ble_eq_true rfl, Nat.le_of_ble_eq_true rfl⟩ rfl (hs.2.2.2.2.2.2.2.2.1 u hu).1.1 (hs.2.2.2.2.2.2.2.2.1 u hu).1.2 ⟨_, _, rfl⟩ rfl (Nat.le_of_ble_eq_true rfl) dX9_put_51 (q := 54) rfl (kU ?_)
        refine v_iconst h (v := 1) dX9_put_54 (q := 55) rfl (by decide) ?_
        exact v_iret h dX9_put_55 (pA_of (by unfold oPut shA; rw [if_pos (by rw [eu]; exact inN_of hu (by decide)), eu, cl_nI (by omega), if_neg (by rw [← (hR.sh hu).1]; exact c20), if_pos ((holds_iff hR hu).mp c35), cl_nI (by omega)]) (hR.put hu hk))
      · refine v_if_ne h (t := 47) dX9_put_38 (by decide) (q := 41) rfl (fun c => absurd (by decide) c) (fun _ => ?_)
        refine v_aload_n h (i := 0) dX9_put_41 (q := 42) rfl rfl 1 rfl ?_
        refine v_iconst h (v := 1) dX9_put_42 (q := 43) rfl (by decide) ?_
        refine v_callV h (As := [.int 1]) (rest := []) (c_ref (σ := σ) hs (e := 1) (by decide) rfl) cal_X9_refuse calV_X9_refuse m315 ⟨rfl, rfl, Nat.le_of_ble_eq_true rfl, Nat.le_of_ble_eq_true rfl⟩ rfl hs.1.1 hs.1.2 ⟨_, _, rfl⟩ rfl (Nat.le_of_ble_eq_true rfl) dX9_put_43 (q := 46) rfl (kI ?_)
        exact v_iret h dX9_put_46 (pA_of (by unfold oPut shA; rw [if_pos (by rw [eu]; exact inN_of hu (by decide)), eu, cl_nI (by omega), if_neg (by rw [← (hR.sh hu).1]; exact c20), if_neg (fun z => c35 ((holds_iff hR hu).mpr z))]; rfl) (hR.err (by decide)))
  · refine v_astoreN h (i := 4) (ls1 := [(4, .null), (0, .ref (b_ad w 0)), (1, .int s), (2, .int i), (3, .int v)]) dX9_put_5 (q := 7) rfl (Nat.le_of_ble_eq_true rfl) rfl ?_
    refine v_aloadN h (i := 4) dX9_put_7 (q := 9) rfl 0 rfl ?_
    refine v_ifnonnullN h dX9_put_9 (q := 12) rfl ?_
    refine v_aload_n h (i := 0) dX9_put_12 (q := 13) rfl rfl 1 rfl ?_
    refine v_iconst h (v := 1) dX9_put_13 (q := 14) rfl (by decide) ?_
    refine v_callV h (As := [.int 1]) (rest := []) (c_ref (σ := σ) hs (e := 1) (by decide) rfl) cal_X9_refuse calV_X9_refuse m315 ⟨rfl, rfl, Nat.le_of_ble_eq_true rfl, Nat.le_of_ble_eq_true rfl⟩ rfl hs.1.1 hs.1.2 ⟨_, _, rfl⟩ rfl (Nat.le_of_ble_eq_true rfl) dX9_put_14 (q := 17) rfl (kI ?_)
    exact v_iret h dX9_put_17 (pA_of (by unfold oPut; rw [if_neg (fun z => by first | exact c2 z)]; rfl) (hR.err (by decide)))
