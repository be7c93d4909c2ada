theorem scB_bk {σ τ : bSt} (b : scB (b_set σ 3 (σ 1)) τ) : bkM σ τ := ⟨by rw [b.1, b_set_s], fun j a c d e f _ => by rw [b.2 j a d e f, b_set_n c]⟩
theorem bt128 {N : bN} (h : IvB N) : (N 0).toNatClampNeg + 128 < 20000 := by
  have := h.bt.2
  rw [btOf_cl] at this
  omega
/-- the rows are as a try needs them -/
def tryM (σ τ : bSt) (T : bT) : Prop := τ 1 = σ 1 ∧ τ 3 = σ 1 ∧ (∀ j, j ≠ 1 → j ≠ 3 → j ≠ 5 → j ≠ 8 → j ≠ 9 → j ≠ 10 → τ j = σ j) ∧ CM τ T
theorem tryM.bk {σ τ : bSt} {T : bT} (h : tryM σ τ T) : bkM σ τ := ⟨h.1, h.2.2.1⟩
theorem try_0 {σ : bSt} {A : bA} (h : RQ σ A) : tryM σ (b_set σ 3 (σ 1)) A.1.2.1 := ⟨b_set_n (by decide), b_set_s, fun j _ a _ _ _ _ => b_set_n a, h.2.1.sc (b_set_n (by decide))⟩
theorem try_mw {σ τ : bSt} {A : bA} (h : RQ σ A) (t : tryM σ τ A.1.2.1) : MW τ A.1.1 A.1.2.1 := by
  obtain ⟨h1, h2, h3, h4⟩ := h.mw
  exact ⟨by rw [t.1]; exact h1, h2, by rw [t.1]; exact h3, t.2.2.2⟩
theorem try_s {σ τ υ : bSt} {T : bT} (t : tryM σ τ T) {k : Nat} {v : Int32} (b : scB (b_up τ 1 k v) υ) (hc : CM υ T) : tryM σ υ T :=
  ⟨by rw [b.1, b_up_n (by decide)]; exact t.2.1, by rw [b.2 3 (by decide) (by decide) (by decide) (by decide), b_up_n (by decide)]; exact t.2.1, fun j a c d e f g => by rw [b.2 j a d e f, b_up_n a]; exact t.2.2.1 j a c d e f g, hc⟩
theorem try_s0 {σ τ υ : bSt} {T : bT} (t : tryM σ τ T) (b : scB τ υ) (hc : CM υ T) : tryM σ υ T :=
  ⟨by rw [b.1]; exact t.2.1, by rw [b.2 3 (by decide) (by decide) (by decide) (by decide)]; exact t.2.1, fun j a c d e f g => by rw [b.2 j a d e f]; exact t.2.2.1 j a c d e f g, hc⟩
theorem try_10 {σ τ : bSt} {T : bT} (t : tryM σ τ T) {k : Nat} {v : Int32} : tryM σ (b_up τ 10 k v) T :=
  ⟨by rw [b_up_n (by decide)]; exact t.1, by rw [b_up_n (by decide)]; exact t.2.1, fun j a c d e f g => by rw [b_up_n g]; exact t.2.2.1 j a c d e f g, t.2.2.2.sc (b_up_n (by decide))⟩
theorem spF_nn {A : bA} {n : Nat} (hn : n ≤ 128) (c : Nat) : 0 ≤ spF A n c := nI_nn (by have := sc_le (g := gvT A.1.2.1) (N := A.1.1) (y := nI c) n; omega)
theorem scs10 {τ τ2 : bSt} {g : Nat → Int32} {i : Nat} {r : Int32} (h : ∀ c, c < i → τ 10 c = g c) (e : τ2 10 = τ 10) (hr : r = g i) : ∀ c, c < i + 1 → b_up τ2 10 i r 10 c = g c := by
  intro c hc
  rw [b_up_s]
  by_cases q : c = i
  · subst q
    rw [upd_s, hr]
  · rw [upd_n q, e]
    exact h c (by omega)
/-- the speed or none -/
def bvN (f : Nat → Int32) (i : Nat) : Int32 := if i = 0 then 0 else nI (fmN f i + 1)
theorem bv_up {f : Nat → Int32} {i : Nat} (h : 0 ≤ f i) (c : bmN f i < f i) : bvN f (i + 1) = nI (i + 1) := by
  unfold bvN
  rw [if_neg (by omega), (bm_up h c).1]
theorem bv_no {f : Nat → Int32} {i : Nat} (h : 0 ≤ f i) (c : ¬ bmN f i < f i) : bvN f (i + 1) = bvN f i := by
  have hz : i ≠ 0 := by
    intro z
    subst z
    refine c ?_
    unfold bmN
    rw [if_pos rfl]
    rw [i_le] at h
    rw [i_lt]
    have a : (-1 : Int32).toInt = -1 := rfl
    have b : (0 : Int32).toInt = 0 := rfl
    omega
  unfold bvN
  rw [if_neg (by omega), if_neg hz, (bm_no h c).1]

theorem l_or_0 (x : Int64) : x ||| 0 = x := by
  apply Int64.toBitVec_inj.mp
  apply BitVec.eq_of_getLsbD_eq
  intro i hi
  rw [Int64.toBitVec_or, BitVec.getLsbD_or, show (0 : Int64).toBitVec.getLsbD i = false from BitVec.getLsbD_zero, Bool.or_false]

set_option maxHeartbeats 4000000 in
set_option maxRecDepth 100000 in
theorem c_X10_score {w : bw} {σ : bSt} {A : bA} {cell n0 : Int32} (hm : sModel w) (hR : RQ σ A) : MV yX10_score cX10_score 3 (some .int) (rmm 7 168) w [.ref (b_ad w 0), .int cell, .int n0] σ (pM (oScore cell n0 A)) := by
  refine b_met (ls := [(0, .ref (b_ad w 0)), (1, .int cell), (2, .int n0)]) (by decide) (Nat.le_of_ble_eq_true rfl) rfl (fun x h => ?_)
  refine v_iload_n h (i := 1) dX10_score_0 (q := 1) rfl rfl 1 rfl ?_
  refine v_callS h (As := [.int cell]) (rest := []) (c_X10_isCell (v := cell)) cal_X10_isCell m946 m945 ⟨rfl, rfl, Nat.le_of_ble_eq_true rfl, Nat.le_of_ble_eq_true rfl⟩ rfl rfl (Nat.le_of_ble_eq_true rfl) dX10_score_1 (q := 4) rfl (kB (fun c1 => ?_) (fun c1 => ?_))
  · refine v_if_eq h (t := 14) dX10_score_4 (by decide) (q := 7) rfl (fun c => absurd c (by decide)) (fun _ => ?_)
    refine v_iload_n h (i := 2) dX10_score_7 (q := 8) rfl rfl 2 rfl ?_
    refine v_callS h (As := [.int n0]) (rest := []) (c_X10_isAhead (v := n0)) cal_X10_isAhead m1200 m1199 ⟨rfl, rfl, Nat.le_of_ble_eq_true rfl, Nat.le_of_ble_eq_true rfl⟩ rfl rfl (Nat.le_of_ble_eq_true rfl) dX10_score_8 (q := 11) rfl (kB (fun c8 => ?_) (fun c8 => ?_))
    · refine v_if_ne h (t := 21) dX10_score_11 (by decide) (q := 14) rfl (fun _ => ?_) (fun c => absurd c (by decide))
      obtain ⟨y, hy, rfl⟩ := cell_w c1
      obtain ⟨n, hn, rfl⟩ := wi_0 (n := 128) c8 rfl
      refine v_aload_n h (i := 0) dX10_score_21 (q := 22) rfl rfl 0 rfl ?_
      refine v_get h (k := 0) (v := .ref (b_ad w 1)) cls10 hm.1.1 hm.1.2 (Nat.le_of_ble_eq_true rfl) m849 rfl dX10_score_22 (q := 25) rfl ?_
      refine v_aload_n h (i := 0) dX10_score_25 (q := 26) rfl rfl 0 rfl ?_
      refine v_get h (k := 2) (v := .ref (b_ad w 3)) cls10 hm.1.1 hm.1.2 (Nat.le_of_ble_eq_true rfl) m851 rfl dX10_score_26 (q := 29) rfl ?_
      refine v_callS h (As := [.ref (b_ad w 1), .ref (b_ad w 3)]) (rest := []) (c_X10_copy (σ := σ) (a := 1) (b := 3) hm.2.1 hm.2.2.2.1 (by decide)) cal_X10_copy m1203 m1202 ⟨rfl, rfl, Nat.le_of_ble_eq_true rfl, Nat.le_of_ble_eq_true rfl⟩ rfl rfl (Nat.le_of_ble_eq_true rfl) dX10_score_29 (q := 32) rfl (kU ?_)
      refine v_aload_n h (i := 0) dX10_score_32 (q := 33) rfl rfl 0 rfl ?_
      refine v_iload_n h (i := 1) dX10_score_33 (q := 34) rfl rfl 1 rfl ?_
      refine v_iload_n h (i := 2) dX10_score_34 (q := 35) rfl rfl 2 rfl ?_
      refine v_callV h (As := [.int (nI y), .int (nI n)]) (rest := []) (c_X10_scoreBy (σ := b_set σ 3 (σ 1)) (y := y) (n := n) (N := A.1.1) (T := A.1.2.1) hm hR.mw.as3 hy hn (bt128 hR.1.2.1)) cal_X10_scoreBy calV_X10_scoreBy m1217 ⟨rfl, rfl, Nat.le_of_ble_eq_true rfl, Nat.le_of_ble_eq_true rfl⟩ rfl hm.1.1 hm.1.2 ⟨_, _, rfl⟩ rfl (Nat.le_of_ble_eq_true rfl) dX10_score_35 (q := 38) rfl (kR (fun r35 σ35 h35 => ?_))
      exact v_iret h dX10_score_38 (pM_of (by unfold oScore; rw [if_pos ⟨c1, c8⟩, cl_nI (n := n) (by omega), ← h35.1]) (hR.bk (scB_bk h35.2.1) h35.2.2))
    · refine v_if_ne h (t := 21) dX10_score_11 (by decide) (q := 14) rfl (fun c => absurd (by decide) c) (fun _ => ?_)
      refine v_aload_n h (i := 0) dX10_score_14 (q := 15) rfl rfl 0 rfl ?_
      refine v_ldc h (v := -1000000001) m931 dX10_score_15 (q := 17) rfl ?_
      refine v_callV h (As := [.int (-1000000001)]) (rest := []) (c_X10_finding (σ := σ) (e := 1) (v := -1000000001) hm (by decide) (by decide +kernel)) cal_X10_finding calV_X10_finding m932 ⟨rfl, rfl, Nat.le_of_ble_eq_true rfl, Nat.le_of_ble_eq_true rfl⟩ rfl hm.1.1 hm.1.2 ⟨_, _, rfl⟩ rfl (Nat.le_of_ble_eq_true rfl) dX10_score_17 (q := 20) rfl (kI ?_)
      exact v_iret h dX10_score_20 (pM_of (by unfold oScore; rw [if_neg (fun z => by first | exact c1 z.1 | exact c8 z.2), ref1]) (hR.err (by decide)))
  · refine v_if_eq h (t := 14) dX10_score_4 (by decide) (q := 7) rfl (fun _ => ?_) (fun c => absurd (by decide) c)
    refine v_aload_n h (i := 0) dX10_score_14 (q := 15) rfl rfl 0 rfl ?_
    refine v_ldc h (v := -1000000001) m931 dX10_score_15 (q := 17) rfl ?_
    refine v_callV h (As := [.int (-1000000001)]) (rest := []) (c_X10_finding (σ := σ) (e := 1) (v := -1000000001) hm (by decide) (by decide +kernel)) cal_X10_finding calV_X10_finding m932 ⟨rfl, rfl, Nat.le_of_ble_eq_true rfl, Nat.le_of_ble_eq_true rfl⟩ rfl hm.1.1 hm.1.2 ⟨_, _, rfl⟩ rfl (Nat.le_of_ble_eq_true rfl) dX10_score_17 (q := 20) rfl (kI ?_)
    exact v_iret h dX10_score_20 (pM_of (by unfold oScore; rw [if_neg (fun z => by first | exact c1 z.1 | exact c8 z.2), ref1]) (hR.err (by decide)))

set_option maxHeartbeats 4000000 in
set_option maxRecDepth 100000 in
theorem lX10_findScores_15 {w : bw} {σ : bSt} {A : bA} {n : Nat} (hm : sModel w) (hR : RQ σ A) (hn : n ≤ 128) {x : bX} (h : Cx x w cX10_findScores RX10 4 (some .int) (rmm 7 168)) : ∀ m i : Nat, i + m = 64 → ∀ τ : bSt, tryM σ τ A.1.2.1 → (∀ c, c < i → τ 10 c = spF A n c) → V x w 4 (pR (fun r σ' => r = mxN (spF A n) 64 ∧ bkM σ σ' ∧ CM σ' A.1.2.1 ∧ ∀ c, c < 64 → σ' 10 c = spF A n c)) 15 [(3, .int (nI i)), (2, .int (mxN (spF A n) i)), (0, .ref (b_ad w 0)), (1, .int (nI n))] [] τ := by
  refine b_ind (fun m ih => ?_)
  intro i him τ ht hsc
  refine v_iload_n h (i := 3) dX10_findScores_15 (q := 16) rfl rfl 0 rfl ?_
  refine v_bipush h (v := 64) dX10_findScores_16 (q := 18) rfl (by decide) ?_
  refine v_icmp_ge h (t := 50) dX10_findScores_18 (by decide) (q := 21) rfl (fun c18 => ?_) (fun c18 => ?_)
  · refine v_iload_n h (i := 2) dX10_findScores_50 (q := 51) rfl rfl 1 rfl ?_
    exact v_iret h dX10_findScores_51 ⟨_, rfl, by rw [show (64 : Nat) = i by have := nge (k := 64) rfl (by omega) c18; omega], ht.bk, ht.2.2.2, fun c hc => hsc c (by have := nge (k := 64) rfl (by omega) c18; omega)⟩
  · have hi : i < 64 := nlt rfl (by omega) c18
    refine v_aload_n h (i := 0) dX10_findScores_21 (q := 22) rfl rfl 2 rfl ?_
    refine v_get h (k := 15) (v := .ref (b_ad w 10)) cls10 hm.1.1 hm.1.2 (Nat.le_of_ble_eq_true rfl) m864 rfl dX10_findScores_22 (q := 25) rfl ?_
    refine v_iload_n h (i := 3) dX10_findScores_25 (q := 26) rfl rfl 0 rfl ?_
    refine v_aload_n h (i := 0) dX10_findScores_26 (q := 27) rfl rfl 2 rfl ?_
    refine v_iload_n h (i := 3) dX10_findScores_27 (q := 28) rfl rfl 0 rfl ?_
    refine v_iload_n h (i := 1) dX10_findScores_28 (q := 29) rfl rfl 3 rfl ?_
    refine v_callV h (As := [.int (nI i), .int (nI n)]) (rest := [.int (nI i), .ref (b_ad w 10)]) (c_X10_scoreBy (σ := τ) (y := i) (n := n) (N := A.1.1) (T := A.1.2.1) hm (try_mw hR ht) hi hn (bt128 hR.1.2.1)) cal_X10_scoreBy calV_X10_scoreBy m1217 ⟨rfl, rfl, Nat.le_of_ble_eq_true rfl, Nat.le_of_ble_eq_true rfl⟩ rfl hm.1.1 hm.1.2 ⟨_, _, rfl⟩ rfl (Nat.le_of_ble_eq_true rfl) dX10_findScores_29 (q := 32) rfl (kR (fun r29 σ29 h29 => ?_))
    refine v_iast h (k := i) hm.2.2.2.2.2.2.2.2.2.2.1.1 hm.2.2.2.2.2.2.2.2.2.2.1.2 (vp_in_nI hi (by decide)) (nI_clamp (by omega)) dX10_findScores_32 (q := 33) rfl ?_
    refine v_iload_n h (i := 2) dX10_findScores_33 (q := 34) rfl rfl 1 rfl ?_
    refine v_aload_n h (i := 0) dX10_findScores_34 (q := 35) rfl rfl 2 rfl ?_
    refine v_get h (k := 15) (v := .ref (b_ad w 10)) cls10 hm.1.1 hm.1.2 (Nat.le_of_ble_eq_true rfl) m864 rfl dX10_findScores_35 (q := 38) rfl ?_
    refine v_iload_n h (i := 3) dX10_findScores_38 (q := 39) rfl rfl 0 rfl ?_
    refine v_iald h (k := i) hm.2.2.2.2.2.2.2.2.2.2.1.1 hm.2.2.2.2.2.2.2.2.2.2.1.2 (vp_in_nI hi (by decide)) (nI_clamp (by omega)) dX10_findScores_39 (q := 40) rfl ?_
    rw [show ((b_up σ29 10 i r29) 10 i : Int32) = spF A n i from (by rw [b_up_s, upd_s]; exact h29.1)]
    refine v_max h m1001 m386 m13 m387 ⟨Nat.le_of_ble_eq_true rfl, Nat.le_of_ble_eq_true rfl⟩ dX10_findScores_40 (q := 43) rfl ?_
    rw [show (imax (mxN (spF A n) i) (spF A n i) : Int32) = mxN (spF A n) (i + 1) from rfl]
    refine v_istore_n h (i := 2) (ls1 := [(2, .int (mxN (spF A n) (i + 1))), (3, .int (nI i)), (0, .ref (b_ad w 0)), (1, .int (nI n))]) dX10_findScores_43 (q := 44) rfl rfl (Nat.le_of_ble_eq_true rfl) rfl ?_
    refine v_iinc h (p := 1) (u := nI (i + 1)) (ls1 := [(3, .int (nI (i + 1))), (2, .int (mxN (spF A n) (i + 1))), (0, .ref (b_ad w 0)), (1, .int (nI n))]) dX10_findScores_44 (q := 47) rfl rfl (nI_1 i) (Nat.le_of_ble_eq_true rfl) rfl ?_
    refine v_goto h (t := 15) dX10_findScores_47 (by decide) ?_
    exact ih (m - 1) (by omega) (i + 1) (by omega) _ (try_10 (try_s0 ht h29.2.1 h29.2.2)) (scs10 hsc (h29.2.1.2 10 (by decide) (by decide) (by decide) (by decide)) h29.1)
set_option maxHeartbeats 4000000 in
set_option maxRecDepth 100000 in
theorem c_X10_findScores {w : bw} {σ : bSt} {A : bA} {n : Nat} (hm : sModel w) (hR : RQ σ A) (hn : n ≤ 128) : MV yX10_findScores cX10_findScores 4 (some .int) (rmm 7 168) w [.ref (b_ad w 0), .int (nI n)] σ (pR (fun r σ' => r = mxN (spF A n) 64 ∧ bkM σ σ' ∧ CM σ' A.1.2.1 ∧ ∀ c, c < 64 → σ' 10 c = spF A n c)) := by
  refine b_met (ls := [(0, .ref (b_ad w 0)), (1, .int (nI n))]) (by decide) (Nat.le_of_ble_eq_true rfl) rfl (fun x h => ?_)
  refine v_aload_n h (i := 0) dX10_findScores_0 (q := 1) rfl rfl 0 rfl ?_
  refine v_get h (k := 0) (v := .ref (b_ad w 1)) cls10 hm.1.1 hm.1.2 (Nat.le_of_ble_eq_true rfl) m849 rfl dX10_findScores_1 (q := 4) rfl ?_
  refine v_aload_n h (i := 0) dX10_findScores_4 (q := 5) rfl rfl 0 rfl ?_
  refine v_get h (k := 2) (v := .ref (b_ad w 3)) cls10 hm.1.1 hm.1.2 (Nat.le_of_ble_eq_true rfl) m851 rfl dX10_findScores_5 (q := 8) rfl ?_
  refine v_callS h (As := [.ref (b_ad w 1), .ref (b_ad w 3)]) (rest := []) (c_X10_copy (σ := σ) (a := 1) (b := 3) hm.2.1 hm.2.2.2.1 (by decide)) cal_X10_copy m1203 m1202 ⟨rfl, rfl, Nat.le_of_ble_eq_true rfl, Nat.le_of_ble_eq_true rfl⟩ rfl rfl (Nat.le_of_ble_eq_true rfl) dX10_findScores_8 (q := 11) rfl (kU ?_)
  refine v_iconst h (v := 0) dX10_findScores_11 (q := 12) rfl (by decide) ?_
  refine v_istore_n h (i := 2) (ls1 := [(2, .int 0), (0, .ref (b_ad w 0)), (1, .int (nI n))]) dX10_findScores_12 (q := 13) rfl rfl (Nat.le_of_ble_eq_true rfl) rfl ?_
  refine v_iconst h (v := 0) dX10_findScores_13 (q := 14) rfl (by decide) ?_
  refine v_istore_n h (i := 3) (ls1 := [(3, .int 0), (2, .int 0), (0, .ref (b_ad w 0)), (1, .int (nI n))]) dX10_findScores_14 (q := 15) rfl rfl (Nat.le_of_ble_eq_true rfl) rfl ?_
  exact lX10_findScores_15 hm hR hn h 64 0 rfl _ (try_0 hR) (fun c hc => absurd hc (Nat.not_lt_zero c))

set_option maxHeartbeats 4000000 in
set_option maxRecDepth 100000 in
theorem lX10_place_22 {w : bw} {σ : bSt} {A : bA} {n0 : Int32} (hm : sModel w) (hR : RQ σ A) {x : bX} (h : Cx x w cX10_place RX10 4 (some .int) (rmm 8 191)) : ∀ n : Nat, n ≤ 128 → wj n0 0 128 → n0 = nI n → ∀ τ : bSt, bkM σ τ → CM τ A.1.2.1 → (∀ c, c < 64 → τ 10 c = spF A n c) → ∀ m c : Nat, c + m = 64 → c ≤ fmN (spF A n) 64 → V x w 4 (pM (oPlace n0 A)) 22 [(3, .int (nI c)), (2, .int (spF A n (fmN (spF A n) 64))), (0, .ref (b_ad w 0))] [] τ := by
  intro n hn hcond enn τ hb hc10 hs10
  have hf64 := fm_lt (f := spF A n) (n := 64) (by decide)
  refine b_ind (fun m ih => ?_)
  intro c hcm hcf
  refine v_aload_n h (i := 0) dX10_place_22 (q := 23) rfl rfl 2 rfl ?_
  refine v_get h (k := 15) (v := .ref (b_ad w 10)) cls10 hm.1.1 hm.1.2 (Nat.le_of_ble_eq_true rfl) m864 rfl dX10_place_23 (q := 26) rfl ?_
  refine v_iload_n h (i := 3) dX10_place_26 (q := 27) rfl rfl 0 rfl ?_
  refine v_iald h (k := c) hm.2.2.2.2.2.2.2.2.2.2.1.1 hm.2.2.2.2.2.2.2.2.2.2.1.2 (vp_in_nI (by omega) (by decide)) (nI_clamp (by omega)) dX10_place_27 (q := 28) rfl ?_
  rw [show (τ 10 c : Int32) = spF A n c from (hs10 c (by omega))]
  refine v_iload_n h (i := 2) dX10_place_28 (q := 29) rfl rfl 1 rfl ?_
  refine v_icmp_ge h (t := 38) dX10_place_29 (by decide) (q := 32) rfl (fun c29 => ?_) (fun c29 => ?_)
  · have hci : c = fmN (spF A n) 64 := by
      rcases (show c < fmN (spF A n) 64 ∨ c = fmN (spF A n) 64 by omega) with z | z
      · exact absurd c29 (Int32.not_le.mpr (fm_first 64 c z))
      · exact z
    refine v_iload_n h (i := 3) dX10_place_38 (q := 39) rfl rfl 0 rfl ?_
    exact v_iret h dX10_place_39 (pM_of (by subst enn; unfold oPlace; rw [if_pos hcond, cl_nI (n := n) (by omega), hci]) (hR.bk hb hc10))
  · refine v_iinc h (p := 0) (u := nI (c + 1)) (ls1 := [(3, .int (nI (c + 1))), (2, .int (spF A n (fmN (spF A n) 64))), (0, .ref (b_ad w 0))]) dX10_place_32 (q := 35) rfl rfl (nI_1 c) (Nat.le_of_ble_eq_true rfl) rfl ?_
    refine v_goto h (t := 22) dX10_place_35 (by decide) ?_
    exact ih (m - 1) (by omega) (c + 1) (by omega) (by
      rcases (show c < fmN (spF A n) 64 ∨ c = fmN (spF A n) 64 by omega) with z | z
      · omega
      · exact absurd (by rw [z]; exact Int32.le_refl _) c29)
set_option maxHeartbeats 4000000 in
set_option maxRecDepth 100000 in
theorem c_X10_place {w : bw} {σ : bSt} {A : bA} {n0 : Int32} (hm : sModel w) (hR : RQ σ A) : MV yX10_place cX10_place 4 (some .int) (rmm 8 191) w [.ref (b_ad w 0), .int n0] σ (pM (oPlace n0 A)) := by
  refine b_met (ls := [(0, .ref (b_ad w 0)), (1, .int n0)]) (by decide) (Nat.le_of_ble_eq_true rfl) rfl (fun x h => ?_)
  refine v_iload_n h (i := 1) dX10_place_0 (q := 1) rfl rfl 1 rfl ?_
  refine v_callS h (As := [.int n0]) (rest := []) (c_X10_isAhead (v := n0)) cal_X10_isAhead m1200 m1199 ⟨rfl, rfl, Nat.le_of_ble_eq_true rfl, Nat.le_of_ble_eq_true rfl⟩ rfl rfl (Nat.le_of_ble_eq_true rfl) dX10_place_1 (q := 4) rfl (kB (fun c1 => ?_) (fun c1 => ?_))
  · refine v_if_ne h (t := 14) dX10_place_4 (by decide) (q := 7) rfl (fun _ => ?_) (fun c => absurd c (by decide))
    obtain ⟨n, hn, rfl⟩ := wi_0 (n := 128) c1 rfl
    refine v_aload_n h (i := 0) dX10_place_14 (q := 15) rfl rfl 0 rfl ?_
    refine v_iload_n h (i := 1) dX10_place_15 (q := 16) rfl rfl 1 rfl ?_
    refine v_callV h (As := [.int (nI n)]) (rest := []) (c_X10_findScores (σ := σ) (A := A) (n := n) hm hR hn) cal_X10_findScores calV_X10_findScores m1225 ⟨rfl, rfl, Nat.le_of_ble_eq_true rfl, Nat.le_of_ble_eq_true rfl⟩ rfl hm.1.1 hm.1.2 ⟨_, _, rfl⟩ rfl (Nat.le_of_ble_eq_true rfl) dX10_place_16 (q := 19) rfl (kR (fun r16 σ16 h16 => ?_))
    have hmx : r16 = spF A n (fmN (spF A n) 64) := h16.1.trans (mx_fm 63 (fun k _ => spF_nn hn k))
    refine v_istore_n h (i := 2) (ls1 := [(2, .int r16), (0, .ref (b_ad w 0)), (1, .int (nI n))]) dX10_place_19 (q := 20) rfl rfl (Nat.le_of_ble_eq_true rfl) rfl ?_
    refine v_iconst h (v := 0) dX10_place_20 (q := 21) rfl (by decide) ?_
    refine v_istore_n h (i := 3) (ls1 := [(3, .int 0), (2, .int r16), (0, .ref (b_ad w 0)), (1, .int (nI n))]) dX10_place_21 (q := 22) rfl rfl (Nat.le_of_ble_eq_true rfl) rfl ?_
    refine v_ls [0, 1, 2] (ls2 := [(3, .int 0), (2, .int r16), (0, .ref (b_ad w 0))]) rfl ?_
    rw [hmx]
    exact lX10_place_22 hm hR h n hn c1 rfl _ h16.2.1 h16.2.2.1 h16.2.2.2 64 0 rfl (Nat.zero_le _)
  · refine v_if_ne h (t := 14) dX10_place_4 (by decide) (q := 7) rfl (fun c => absurd (by decide) c) (fun _ => ?_)
    refine v_aload_n h (i := 0) dX10_place_7 (q := 8) rfl rfl 0 rfl ?_
    refine v_ldc h (v := -1000000001) m931 dX10_place_8 (q := 10) rfl ?_
    refine v_callV h (As := [.int (-1000000001)]) (rest := []) (c_X10_finding (σ := σ) (e := 1) (v := -1000000001) hm (by decide) (by decide +kernel)) cal_X10_finding calV_X10_finding m932 ⟨rfl, rfl, Nat.le_of_ble_eq_true rfl, Nat.le_of_ble_eq_true rfl⟩ rfl hm.1.1 hm.1.2 ⟨_, _, rfl⟩ rfl (Nat.le_of_ble_eq_true rfl) dX10_place_10 (q := 13) rfl (kI ?_)
    exact v_iret h dX10_place_13 (pM_of (by unfold oPlace; rw [if_neg (fun z => by first | exact c1 z), ref1]) (hR.err (by decide)))

set_option maxHeartbeats 4000000 in
set_option maxRecDepth 100000 in
theorem lX10_fromHere_26 {w : bw} {σ : bSt} {A : bA} {n0 : Int32} (hm : sModel w) (hR : RQ σ A) {x : bX} (h : Cx x w cX10_fromHere RX10 6 (some .long) (rmm 8 191)) : ∀ n : Nat, n ≤ 128 → wj n0 0 128 → n0 = nI n → ∀ τ : bSt, bkM σ τ → CM τ A.1.2.1 → (∀ c, c < 64 → τ 10 c = spF A n c) → ∀ m i : Nat, i + m = 64 → V x w 6 (pML (oFromHere n0 A)) 26 [(5, .int (nI i)), (3, .long (fhN (spF A n) (spF A n (fmN (spF A n) 64)) i)), (2, .int (spF A n (fmN (spF A n) 64))), (0, .ref (b_ad w 0))] [] τ := by
  intro n hn hcond enn τ hb hc10 hs10
  refine b_ind (fun m ih => ?_)
  intro i him
  refine v_iload h (i := 5) dX10_fromHere_26 (q := 28) rfl 0 rfl ?_
  refine v_bipush h (v := 64) dX10_fromHere_28 (q := 30) rfl (by decide) ?_
  refine v_icmp_ge h (t := 61) dX10_fromHere_30 (by decide) (q := 33) rfl (fun c30 => ?_) (fun c30 => ?_)
  · refine v_lload_n h (i := 3) dX10_fromHere_61 (q := 62) rfl rfl 1 rfl ?_
    exact v_lret h dX10_fromHere_62 (pML_of (by subst enn; unfold oFromHere; rw [if_pos hcond, cl_nI (n := n) (by omega), show (64 : Nat) = i by have := nge (k := 64) rfl (by omega) c30; omega]) (hR.bk hb hc10))
  · have hi : i < 64 := nlt rfl (by omega) c30
    refine v_lload_n h (i := 3) dX10_fromHere_33 (q := 34) rfl rfl 1 rfl ?_
    refine v_aload_n h (i := 0) dX10_fromHere_34 (q := 35) rfl rfl 3 rfl ?_
    refine v_get h (k := 15) (v := .ref (b_ad w 10)) cls10 hm.1.1 hm.1.2 (Nat.le_of_ble_eq_true rfl) m864 rfl dX10_fromHere_35 (q := 38) rfl ?_
    refine v_iload h (i := 5) dX10_fromHere_38 (q := 40) rfl 0 rfl ?_
    refine v_iald h (k := i) hm.2.2.2.2.2.2.2.2.2.2.1.1 hm.2.2.2.2.2.2.2.2.2.2.1.2 (vp_in_nI hi (by decide)) (nI_clamp (by omega)) dX10_fromHere_40 (q := 41) rfl ?_
    rw [show (τ 10 i : Int32) = spF A n i from (hs10 i hi)]
    refine v_iload_n h (i := 2) dX10_fromHere_41 (q := 42) rfl rfl 2 rfl ?_
    refine v_icmp_ne h (t := 52) dX10_fromHere_42 (by decide) (q := 45) rfl (fun c42 => ?_) (fun c42 => ?_)
    · refine v_lconst h (v := 0) dX10_fromHere_52 (q := 53) rfl (by decide) ?_
      refine v_lor h dX10_fromHere_53 (q := 54) rfl ?_
      rw [show ((fhN (spF A n) (spF A n (fmN (spF A n) 64)) i) ||| 0 : Int64) = fhN (spF A n) (spF A n (fmN (spF A n) 64)) i from (l_or_0 _)]
      refine v_lstore_n h (i := 3) (ls1 := [(3, .long (fhN (spF A n) (spF A n (fmN (spF A n) 64)) i)), (5, .int (nI i)), (2, .int (spF A n (fmN (spF A n) 64))), (0, .ref (b_ad w 0))]) dX10_fromHere_54 (q := 55) rfl rfl (Nat.le_of_ble_eq_true rfl) rfl ?_
      refine v_iinc h (p := 1) (u := nI (i + 1)) (ls1 := [(5, .int (nI (i + 1))), (3, .long (fhN (spF A n) (spF A n (fmN (spF A n) 64)) i)), (2, .int (spF A n (fmN (spF A n) 64))), (0, .ref (b_ad w 0))]) dX10_fromHere_55 (q := 58) rfl rfl (nI_1 i) (Nat.le_of_ble_eq_true rfl) rfl ?_
      refine v_goto h (t := 26) dX10_fromHere_58 (by decide) ?_
      have es : fhN (spF A n) (spF A n (fmN (spF A n) 64)) (i + 1) = fhN (spF A n) (spF A n (fmN (spF A n) 64)) i := by rw [fhN, if_neg c42]
      have z := ih (m - 1) (by omega) (i + 1) (by omega)
      rw [es] at z
      exact z
    · refine v_lconst h (v := 1) dX10_fromHere_45 (q := 46) rfl (by decide) ?_
      refine v_iload h (i := 5) dX10_fromHere_46 (q := 48) rfl 0 rfl ?_
      refine v_lshl h (v := (1 : Int64) <<< ((nI i).toInt64 &&& 63)) dX10_fromHere_48 (q := 49) rfl rfl ?_
      refine v_goto h (t := 53) dX10_fromHere_49 (by decide) ?_
      refine v_lor h dX10_fromHere_53 (q := 54) rfl ?_
      rw [show ((fhN (spF A n) (spF A n (fmN (spF A n) 64)) i) ||| ((1 : Int64) <<< ((nI i).toInt64 &&& 63)) : Int64) = (fhN (spF A n) (spF A n (fmN (spF A n) 64)) i) ||| ((1 : Int64) <<< ((nI i).toInt64 &&& 63)) from rfl]
      refine v_lstore_n h (i := 3) (ls1 := [(3, .long ((fhN (spF A n) (spF A n (fmN (spF A n) 64)) i) ||| ((1 : Int64) <<< ((nI i).toInt64 &&& 63)))), (5, .int (nI i)), (2, .int (spF A n (fmN (spF A n) 64))), (0, .ref (b_ad w 0))]) dX10_fromHere_54 (q := 55) rfl rfl (Nat.le_of_ble_eq_true rfl) rfl ?_
      refine v_iinc h (p := 1) (u := nI (i + 1)) (ls1 := [(5, .int (nI (i + 1))), (3, .long ((fhN (spF A n) (spF A n (fmN (spF A n) 64)) i) ||| ((1 : Int64) <<< ((nI i).toInt64 &&& 63)))), (2, .int (spF A n (fmN (spF A n) 64))), (0, .ref (b_ad w 0))]) dX10_fromHere_55 (q := 58) rfl rfl (nI_1 i) (Nat.le_of_ble_eq_true rfl) rfl ?_
      refine v_goto h (t := 26) dX10_fromHere_58 (by decide) ?_
      have es : fhN (spF A n) (spF A n (fmN (spF A n) 64)) (i + 1) = (fhN (spF A n) (spF A n (fmN (spF A n) 64)) i) ||| ((1 : Int64) <<< ((nI i).toInt64 &&& 63)) := by rw [fhN, if_pos c42]
      have z := ih (m - 1) (by omega) (i + 1) (by omega)
      rw [es] at z
      exact z
set_option maxHeartbeats 4000000 in
set_option maxRecDepth 100000 in
theorem c_X10_fromHere {w : bw} {σ : bSt} {A : bA} {n0 : Int32} (hm : sModel w) (hR : RQ σ A) : MV yX10_fromHere cX10_fromHere 6 (some .long) (rmm 8 191) w [.ref (b_ad w 0), .int n0] σ (pML (oFromHere n0 A)) := by
  refine b_met (ls := [(0, .ref (b_ad w 0)), (1, .int n0)]) (by decide) (Nat.le_of_ble_eq_true rfl) rfl (fun x h => ?_)
  refine v_iload_n h (i := 1) dX10_fromHere_0 (q := 1) rfl rfl 1 rfl ?_
  refine v_callS h (As := [.int n0]) (rest := []) (c_X10_isAhead (v := n0)) cal_X10_isAhead m1200 m1199 ⟨rfl, rfl, Nat.le_of_ble_eq_true rfl, Nat.le_of_ble_eq_true rfl⟩ rfl rfl (Nat.le_of_ble_eq_true rfl) dX10_fromHere_1 (q := 4) rfl (kB (fun c1 => ?_) (fun c1 => ?_))
  · refine v_if_ne h (t := 15) dX10_fromHere_4 (by decide) (q := 7) rfl (fun _ => ?_) (fun c => absurd c (by decide))
    obtain ⟨n, hn, rfl⟩ := wi_0 (n := 128) c1 rfl
    refine v_aload_n h (i := 0) dX10_fromHere_15 (q := 16) rfl rfl 0 rfl ?_
    refine v_iload_n h (i := 1) dX10_fromHere_16 (q := 17) rfl rfl 1 rfl ?_
    refine v_callV h (As := [.int (nI n)]) (rest := []) (c_X10_findScores (σ := σ) (A := A) (n := n) hm hR hn) cal_X10_findScores calV_X10_findScores m1225 ⟨rfl, rfl, Nat.le_of_ble_eq_true rfl, Nat.le_of_ble_eq_true rfl⟩ rfl hm.1.1 hm.1.2 ⟨_, _, rfl⟩ rfl (Nat.le_of_ble_eq_true rfl) dX10_fromHere_17 (q := 20) rfl (kR (fun r17 σ17 h17 => ?_))
    have hmx : r17 = spF A n (fmN (spF A n) 64) := h17.1.trans (mx_fm 63 (fun k _ => spF_nn hn k))
    refine v_istore_n h (i := 2) (ls1 := [(2, .int r17), (0, .ref (b_ad w 0)), (1, .int (nI n))]) dX10_fromHere_20 (q := 21) rfl rfl (Nat.le_of_ble_eq_true rfl) rfl ?_
    refine v_lconst h (v := 0) dX10_fromHere_21 (q := 22) rfl (by decide) ?_
    refine v_lstore_n h (i := 3) (ls1 := [(3, .long 0), (2, .int r17), (0, .ref (b_ad w 0)), (1, .int (nI n))]) dX10_fromHere_22 (q := 23) rfl rfl (Nat.le_of_ble_eq_true rfl) rfl ?_
    refine v_iconst h (v := 0) dX10_fromHere_23 (q := 24) rfl (by decide) ?_
    refine v_istore h (i := 5) (ls1 := [(5, .int 0), (3, .long 0), (2, .int r17), (0, .ref (b_ad w 0)), (1, .int (nI n))]) dX10_fromHere_24 (q := 26) rfl (Nat.le_of_ble_eq_true rfl) rfl ?_
    refine v_ls [0, 1, 2, 3] (ls2 := [(5, .int 0), (3, .long 0), (2, .int r17), (0, .ref (b_ad w 0))]) rfl ?_
    rw [hmx]
    exact lX10_fromHere_26 hm hR h n hn c1 rfl _ h17.2.1 h17.2.2.1 h17.2.2.2 64 0 rfl
  · refine v_if_ne h (t := 15) dX10_fromHere_4 (by decide) (q := 7) rfl (fun c => absurd (by decide) c) (fun _ => ?_)
    refine v_aload_n h (i := 0) dX10_fromHere_7 (q := 8) rfl rfl 0 rfl ?_
    refine v_ldc h (v := -1000000001) m931 dX10_fromHere_8 (q := 10) rfl ?_
    refine v_callV h (As := [.int (-1000000001)]) (rest := []) (c_X10_finding (σ := σ) (e := 1) (v := -1000000001) hm (by decide) (by decide +kernel)) cal_X10_finding calV_X10_finding m932 ⟨rfl, rfl, Nat.le_of_ble_eq_true rfl, Nat.le_of_ble_eq_true rfl⟩ rfl hm.1.1 hm.1.2 ⟨_, _, rfl⟩ rfl (Nat.le_of_ble_eq_true rfl) dX10_fromHere_10 (q := 13) rfl (kI ?_)
    refine v_i2l h (v := (-1000000001 : Int32).toInt64) dX10_fromHere_13 (q := 14) rfl rfl ?_
    exact v_lret h dX10_fromHere_14 (pML_of (by unfold oFromHere; rw [if_neg (show ¬ wj n0 0 128 from c1), ref1]) (hR.err (by decide)))
