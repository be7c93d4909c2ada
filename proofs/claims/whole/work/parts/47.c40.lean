/-! the model's looks ahead -/
def coreN (M M' : bN) : Prop := ∀ k, k ≠ 6 → (∀ l, l < 6 → k ≠ 49 + 3 * l ∧ k ≠ 50 + 3 * l) → M k = M' k
theorem core_mv {M M' : bN} (h : coreN M M') (ht : tN M < 32) : ∀ n, n ≤ 9 → coreN (mvN M n) (mvN M' n)
  | 0, _ => h
  | n + 1, hn => by
    have ih := core_mv h ht n (by omega)
    have e7 : afN M' = afN M := by unfold afN; rw [h 7 (by omega) (fun l _ => ⟨by omega, by omega⟩)]
    have e0 : tN M' = tN M := tN_eq (h 0 (by omega) (fun l _ => ⟨by omega, by omega⟩)).symm
    rw [mvN, mvN, e7]
    by_cases c : n < afN M
    · rw [if_pos c, if_pos c]
      have e1 : mv1N M' n = mv1N M n := by
        unfold mv1N sgN
        rw [e0, ← h (12 + 4 * n) (by omega) (fun l _ => ⟨by omega, by omega⟩), ← h (13 + 4 * n) (by omega) (fun l _ => ⟨by omega, by omega⟩), ← h (14 + 4 * n) (by omega) (fun l _ => ⟨by omega, by omega⟩), ← h (15 + 4 * n) (by omega) (fun l _ => ⟨by omega, by omega⟩), ← h (2 + tN M / 8) (by omega) (fun l _ => ⟨by omega, by omega⟩)]
      rw [e1]
      intro k h6 hl
      unfold upd
      by_cases e : k = 14 + 4 * n
      · rw [if_pos e, if_pos e]
      · rw [if_neg e, if_neg e]
        exact ih k h6 hl
    · rw [if_neg c, if_neg c]
      exact ih
theorem core_all {M M' : bN} (h : coreN M M') (ht : tN M < 32) : coreN (allN M) (allN M') := by
  have h9 := core_mv h ht 9 (Nat.le_refl 9)
  intro k h6 hl
  unfold allN
  rw [h 0 (by omega) (fun l _ => ⟨by omega, by omega⟩)]
  unfold upd
  by_cases e : k = 0
  · rw [if_pos e, if_pos e]
  · rw [if_neg e, if_neg e]
    exact h9 k h6 hl
theorem core_go {g : bG} (hg : gB g) {N : bN} {t : Nat} (h : IvN N) (e : N 0 = nI t) : ∀ n, t + n < 20000 → coreN (goN g false N n) (almN N n)
  | 0, _ => fun _ _ _ => rfl
  | n + 1, hn => by
    have ih := core_go hg h e n (by omega)
    have hI := (IvN_go (lo := false) hg h e n (by omega)).1
    show coreN (btN g (goN g false N n) false) (allN (almN N n))
    rw [bt_no]
    refine core_all (fun k h6 hl => ?_) (by rw [tN_lis]; exact hI.t.2)
    rw [lisN_off h6 6 hl]
    exact ih k h6 hl
theorem go_cell {g : bG} (hg : gB g) {N : bN} {t b n : Nat} (h : IvN N) (e : N 0 = nI t) (hn : t + n < 20000) (hb : b < 9) : goN g false N n (14 + 4 * b) = almN N n (14 + 4 * b) :=
  core_go hg h e n hn _ (by omega) (fun l _ => ⟨by omega, by omega⟩)
def mxN (f : Nat → Int32) : Nat → Int32
  | 0 => 0
  | n + 1 => imax (mxN f n) (f n)
theorem mx_fm {f : Nat → Int32} : ∀ n, (∀ k, k < n + 1 → 0 ≤ f k) → mxN f (n + 1) = f (fmN f (n + 1))
  | 0, h => by
    rw [fm_1]
    show imax 0 (f 0) = f 0
    have h0 := h 0 (by omega)
    unfold imax
    by_cases c : 0 < f 0
    · rw [if_pos c]
    · rw [if_neg c]
      rw [i_lt] at c
      rw [i_le] at h0
      exact Int32.toInt_inj.mp (by omega)
  | n + 1, h => by
    rw [mxN, mx_fm n (fun k hk => h k (by omega)), show fmN f (n + 1 + 1) = if f (fmN f (n + 1)) < f (n + 1) then n + 1 else fmN f (n + 1) from rfl]
    unfold imax
    by_cases c : f (fmN f (n + 1)) < f (n + 1)
    · rw [if_pos c, if_pos c]
    · rw [if_neg c, if_neg c]
theorem fm_top {f : Nat → Int32} : ∀ n c, c < n → f c ≤ f (fmN f n)
  | 0, c, h => absurd h (Nat.not_lt_zero c)
  | n + 1, c, h => by
    rw [fmN]
    by_cases d : f (fmN f n) < f n
    · rw [if_pos d]
      rcases (show c < n ∨ c = n by omega) with z | z
      · have := fm_top (f := f) n c z
        rw [i_le] at this ⊢
        rw [i_lt] at d
        omega
      · rw [z]; exact Int32.le_refl _
    · rw [if_neg d]
      rcases (show c < n ∨ c = n by omega) with z | z
      · exact fm_top (f := f) n c z
      · rw [z]; exact Int32.not_lt.mp d
theorem fm_first {f : Nat → Int32} : ∀ n c, c < fmN f n → f c < f (fmN f n)
  | 0, c, h => absurd h (Nat.not_lt_zero c)
  | n + 1, c, h => by
    rw [fmN] at h ⊢
    by_cases d : f (fmN f n) < f n
    · rw [if_pos d] at h ⊢
      rcases Nat.lt_or_ge c (fmN f n) with z | z
      · have := fm_first n c z
        rw [i_lt] at this d ⊢
        omega
      · rcases Nat.eq_or_lt_of_le z with q | q
        · rw [← q]; exact d
        · have hm := fm_top (f := f) n c h
          rw [i_lt] at d ⊢
          rw [i_le] at hm
          omega
    · rw [if_neg d] at h ⊢
      exact fm_first n c h
/-- the greatest so far, none yet: -1 -/
def bmN (f : Nat → Int32) (i : Nat) : Int32 := if i = 0 then -1 else f (fmN f i)
theorem bm_up {f : Nat → Int32} {i : Nat} (h : 0 ≤ f i) (c : bmN f i < f i) : fmN f (i + 1) = i ∧ bmN f (i + 1) = f i := by
  unfold bmN at *
  rw [if_neg (by omega)]
  have e : fmN f (i + 1) = i := by
    rw [fmN]
    by_cases z : i = 0
    · subst z
      split <;> rfl
    · rw [if_neg z] at c
      rw [if_pos c]
  rw [e]
  exact ⟨rfl, rfl⟩
theorem bm_no {f : Nat → Int32} {i : Nat} (h : 0 ≤ f i) (c : ¬ bmN f i < f i) : fmN f (i + 1) = fmN f i ∧ bmN f (i + 1) = bmN f i := by
  unfold bmN at *
  have hz : i ≠ 0 := by
    intro z
    subst z
    rw [if_pos rfl] at c
    rw [i_lt] at c
    rw [i_le] at h
    have a : (-1 : Int32).toInt = -1 := rfl
    have b : (0 : Int32).toInt = 0 := rfl
    omega
  rw [if_neg hz] at c ⊢
  rw [if_neg (by omega)]
  have e : fmN f (i + 1) = fmN f i := by rw [fmN, if_neg c]
  rw [e]
  exact ⟨rfl, rfl⟩
theorem bm_max {f : Nat → Int32} {i : Nat} (h : 0 ≤ f i) : imax (bmN f i) (f i) = bmN f (i + 1) := by
  unfold imax
  by_cases c : bmN f i < f i
  · rw [if_pos c, (bm_up h c).2]
  · rw [if_neg c, (bm_no h c).2]
theorem nI_nn {n : Nat} (h : n < 2 ^ 31) : (0 : Int32) ≤ nI n := Int32.not_lt.mp (nI_pos h)
theorem sc_le {g : bG} {N : bN} {y : Int32} : ∀ n, scN g N y n ≤ n
  | 0 => Nat.le_refl _
  | n + 1 => by
    have := sc_le (g := g) (N := N) (y := y) n
    rw [scN]
    split <;> omega
theorem rot_tab : ∀ k : Nat, k < 32 → ¬ k = 0 → ((32 : Int32) - nI k) &&& 31 = -(nI k) &&& 31 := by decide +kernel
theorem rot_0 (x : Int32) : rotR x (nI 0) = x := by
  unfold rotR
  apply i32_ext
  intro i hi
  have e1 : (ushr x (nI 0)).toBitVec = x.toBitVec >>> 0 := bv_ushr x (by decide)
  have e2 : (x <<< (-(nI 0) &&& 31)).toBitVec = x.toBitVec <<< 0 := rfl
  rw [Int32.toBitVec_or, BitVec.getLsbD_or, e1, e2, BitVec.getLsbD_ushiftRight, BitVec.getLsbD_shiftLeft]
  simp
theorem rot_k (x : Int32) {k : Nat} (h : k < 32) (h0 : ¬ k = 0) : ushr x (nI k) ||| (x <<< ((32 - nI k) &&& 31)) = rotR x (nI k) := by
  unfold rotR
  rw [rot_tab k h h0]
/-- all is as it was -/
def bkM (σ τ : bSt) : Prop := τ 1 = σ 1 ∧ ∀ j, j ≠ 1 → j ≠ 3 → j ≠ 5 → j ≠ 8 → j ≠ 9 → j ≠ 10 → τ j = σ j
theorem RQ.bk {σ τ : bSt} {A : bA} (h : RQ σ A) (b : bkM σ τ) (hc : CM τ A.1.2.1) : RQ τ A :=
  h.scr (by rw [b.2 0 (by decide) (by decide) (by decide) (by decide) (by decide) (by decide)]; exact ⟨rfl, rfl⟩) (fun j hj => by
    by_cases z : j = 1
    · subst z; exact b.1
    · exact b.2 j z (by omega) (by omega) (by omega) (by omega) (by omega)) hc
/-- what a score leaves: the row kept aside is back -/
def scB (σ τ : bSt) : Prop := τ 1 = σ 3 ∧ ∀ j, j ≠ 1 → j ≠ 5 → j ≠ 8 → j ≠ 9 → τ j = σ j

set_option maxHeartbeats 4000000 in
set_option maxRecDepth 100000 in
theorem c_X10_go {w : bw} {σ : bSt} {A : bA} {n lv : Int32} (hm : sModel w) (hR : RQ σ A) : MV yX10_go cX10_go 3 (some .int) (rmm 8 194) w [.ref (b_ad w 0), .int n, .int lv] σ (pM (oGo (decide (¬ lv = 0)) n A)) := by
  refine b_met (ls := [(0, .ref (b_ad w 0)), (1, .int n), (2, .int lv)]) (by decide) (Nat.le_of_ble_eq_true rfl) rfl (fun x h => ?_)
  refine v_iload_n h (i := 1) dX10_go_0 (q := 1) rfl rfl 1 rfl ?_
  refine v_iconst h (v := 1) dX10_go_1 (q := 2) rfl (by decide) ?_
  refine v_sipush h (v := 128) dX10_go_2 (q := 5) rfl (by decide) ?_
  refine v_callS h (As := [.int n, .int 1, .int 128]) (rest := []) (c_X10_within (v := n) (l := 1) (m := 128)) cal_X10_within m925 m924 ⟨rfl, rfl, Nat.le_of_ble_eq_true rfl, Nat.le_of_ble_eq_true rfl⟩ rfl rfl (Nat.le_of_ble_eq_true rfl) dX10_go_5 (q := 8) rfl (kB (fun c5 => ?_) (fun c5 => ?_))
  · refine v_if_ne h (t := 18) dX10_go_8 (by decide) (q := 11) rfl (fun _ => ?_) (fun c => absurd c (by decide))
    obtain ⟨k, hk1, hk, rfl⟩ := wi_1 (n := 128) c5 rfl
    have hbt := hR.1.2.1.bt
    refine v_aload_n h (i := 0) dX10_go_18 (q := 19) rfl rfl 0 rfl ?_
    refine v_get h (k := 0) (v := .ref (b_ad w 1)) cls10 hm.1.1 hm.1.2 (Nat.le_of_ble_eq_true rfl) m849 rfl dX10_go_19 (q := 22) rfl ?_
    refine v_iconst h (v := 0) dX10_go_22 (q := 23) rfl (by decide) ?_
    refine v_iald h (k := 0) hm.2.1.1 hm.2.1.2 (vp_in_nI (n := 0) (by decide) (by decide)) (by decide) dX10_go_23 (q := 24) rfl ?_
    rw [show (σ 1 0 : Int32) = nI (btOf A.1.1) from ((hR.n (by omega)).trans hbt.1)]
    refine v_iload_n h (i := 1) dX10_go_24 (q := 25) rfl rfl 1 rfl ?_
    refine v_iadd h dX10_go_25 (q := 26) rfl ?_
    rw [show ((nI (btOf A.1.1)) + (nI k) : Int32) = nI (btOf A.1.1 + k) from (nI_add _ _)]
    refine v_sipush h (v := 9999) dX10_go_26 (q := 29) rfl (by decide) ?_
    refine v_icmp_le h (t := 39) dX10_go_29 (by decide) (q := 32) rfl (fun c29 => ?_) (fun c29 => ?_)
    · have hle : btOf A.1.1 + k ≤ 9999 := (nI_leI (a := btOf A.1.1 + k) (b := 9999) (by omega) (by decide)).mp c29
      refine v_aload_n h (i := 0) dX10_go_39 (q := 40) rfl rfl 0 rfl ?_
      refine v_iload_n h (i := 1) dX10_go_40 (q := 41) rfl rfl 1 rfl ?_
      refine v_iload_n h (i := 2) dX10_go_41 (q := 42) rfl rfl 2 rfl ?_
      refine v_callV h (As := [.int (nI k), .int lv]) (rest := []) (c_X10_beatsGo (σ := σ) (n := k) (lv := lv) (N := A.1.1) (T := A.1.2.1) hm hR.mw (by rw [← btOf_cl]; omega)) cal_X10_beatsGo calV_X10_beatsGo m1166 ⟨rfl, rfl, Nat.le_of_ble_eq_true rfl, Nat.le_of_ble_eq_true rfl⟩ rfl hm.1.1 hm.1.2 ⟨_, _, rfl⟩ rfl (Nat.le_of_ble_eq_true rfl) dX10_go_42 (q := 45) rfl (kV (fun σ42 h42 => ?_))
      refine v_aload_n h (i := 0) dX10_go_45 (q := 46) rfl rfl 0 rfl ?_
      refine v_get h (k := 0) (v := .ref (b_ad w 1)) cls10 hm.1.1 hm.1.2 (Nat.le_of_ble_eq_true rfl) m849 rfl dX10_go_46 (q := 49) rfl ?_
      refine v_bipush h (v := 6) dX10_go_49 (q := 51) rfl (by decide) ?_
      refine v_iald h (k := 6) hm.2.1.1 hm.2.1.2 (vp_in_nI (n := 6) (by decide) (by decide)) (by decide) dX10_go_51 (q := 52) rfl ?_
      rw [show (σ42 1 6 : Int32) = goN (gvT A.1.2.1) (decide (¬ lv = 0)) A.1.1 k 6 from (h42.2.n (by omega))]
      exact v_iret h dX10_go_52 (pM_of (by unfold oGo; rw [if_pos (show wj (nI k) 1 128 from c5), cl_nI (n := k) (by omega), if_pos hle]) (hR.go h42.1 h42.2 ⟨h42.2.2.1, btOf A.1.1 + k, hle, (IvN_go (gvT_B A.1.2.1) hR.1.2.1.1 hbt.1 k (by omega)).2⟩))
    · refine v_aload_n h (i := 0) dX10_go_32 (q := 33) rfl rfl 0 rfl ?_
      refine v_ldc h (v := -1000000003) m1165 dX10_go_33 (q := 35) rfl ?_
      refine v_callV h (As := [.int (-1000000003)]) (rest := []) (c_X10_finding (σ := σ) (e := 3) (v := -1000000003) hm (by decide) (by decide +kernel)) cal_X10_finding calV_X10_finding m932 ⟨rfl, rfl, Nat.le_of_ble_eq_true rfl, Nat.le_of_ble_eq_true rfl⟩ rfl hm.1.1 hm.1.2 ⟨_, _, rfl⟩ rfl (Nat.le_of_ble_eq_true rfl) dX10_go_35 (q := 38) rfl (kI ?_)
      exact v_iret h dX10_go_38 (pM_of (by unfold oGo; rw [if_pos (show wj (nI k) 1 128 from c5), cl_nI (n := k) (by omega), if_neg (fun z => c29 (nI_le (a := btOf A.1.1 + k) (b := 9999) z (by decide))), ref3]) (hR.err (by decide)))
  · refine v_if_ne h (t := 18) dX10_go_8 (by decide) (q := 11) rfl (fun c => absurd (by decide) c) (fun _ => ?_)
    refine v_aload_n h (i := 0) dX10_go_11 (q := 12) rfl rfl 0 rfl ?_
    refine v_ldc h (v := -1000000001) m931 dX10_go_12 (q := 14) rfl ?_
    refine v_callV h (As := [.int (-1000000001)]) (rest := []) (c_X10_finding (σ := σ) (e := 1) (v := -1000000001) hm (by decide) (by decide +kernel)) cal_X10_finding calV_X10_finding m932 ⟨rfl, rfl, Nat.le_of_ble_eq_true rfl, Nat.le_of_ble_eq_true rfl⟩ rfl hm.1.1 hm.1.2 ⟨_, _, rfl⟩ rfl (Nat.le_of_ble_eq_true rfl) dX10_go_14 (q := 17) rfl (kI ?_)
    exact v_iret h dX10_go_17 (pM_of (by unfold oGo; rw [if_neg (fun z => by first | exact c5 z), ref1]) (hR.err (by decide)))

set_option maxHeartbeats 4000000 in
set_option maxRecDepth 100000 in
theorem c_X10_beats {w : bw} {σ : bSt} {A : bA} {n : Int32} (hm : sModel w) (hR : RQ σ A) : MV yX10_beats cX10_beats 2 (some .int) (rmm 9 216) w [.ref (b_ad w 0), .int n] σ (pM (oGo false n A)) := by
  refine b_met (ls := [(0, .ref (b_ad w 0)), (1, .int n)]) (by decide) (Nat.le_of_ble_eq_true rfl) rfl (fun x h => ?_)
  refine v_aload_n h (i := 0) dX10_beats_0 (q := 1) rfl rfl 0 rfl ?_
  refine v_iload_n h (i := 1) dX10_beats_1 (q := 2) rfl rfl 1 rfl ?_
  refine v_iconst h (v := 0) dX10_beats_2 (q := 3) rfl (by decide) ?_
  refine v_callV h (As := [.int n, .int 0]) (rest := []) (c_X10_go (σ := σ) (A := A) (n := n) (lv := 0) hm hR) cal_X10_go calV_X10_go m1161 ⟨rfl, rfl, Nat.le_of_ble_eq_true rfl, Nat.le_of_ble_eq_true rfl⟩ rfl hm.1.1 hm.1.2 ⟨_, _, rfl⟩ rfl (Nat.le_of_ble_eq_true rfl) dX10_beats_3 (q := 6) rfl (kM (fun σ3 h3 => ?_))
  exact v_iret h dX10_beats_6 (pM_of (by rw [show decide (¬ (0 : Int32) = 0) = false by decide]) (by have hz := h3; rw [show decide (¬ (0 : Int32) = 0) = false by decide] at hz; exact hz))

set_option maxHeartbeats 4000000 in
set_option maxRecDepth 100000 in
theorem c_X10_loose {w : bw} {σ : bSt} {A : bA} {n : Int32} (hm : sModel w) (hR : RQ σ A) : MV yX10_loose cX10_loose 2 (some .int) (rmm 9 216) w [.ref (b_ad w 0), .int n] σ (pM (oGo true n A)) := by
  refine b_met (ls := [(0, .ref (b_ad w 0)), (1, .int n)]) (by decide) (Nat.le_of_ble_eq_true rfl) rfl (fun x h => ?_)
  refine v_aload_n h (i := 0) dX10_loose_0 (q := 1) rfl rfl 0 rfl ?_
  refine v_iload_n h (i := 1) dX10_loose_1 (q := 2) rfl rfl 1 rfl ?_
  refine v_iconst h (v := 1) dX10_loose_2 (q := 3) rfl (by decide) ?_
  refine v_callV h (As := [.int n, .int 1]) (rest := []) (c_X10_go (σ := σ) (A := A) (n := n) (lv := 1) hm hR) cal_X10_go calV_X10_go m1161 ⟨rfl, rfl, Nat.le_of_ble_eq_true rfl, Nat.le_of_ble_eq_true rfl⟩ rfl hm.1.1 hm.1.2 ⟨_, _, rfl⟩ rfl (Nat.le_of_ble_eq_true rfl) dX10_loose_3 (q := 6) rfl (kM (fun σ3 h3 => ?_))
  exact v_iret h dX10_loose_6 (pM_of (by rw [show decide (¬ (1 : Int32) = 0) = true by decide]) (by have hz := h3; rw [show decide (¬ (1 : Int32) = 0) = true by decide] at hz; exact hz))

set_option maxHeartbeats 4000000 in
set_option maxRecDepth 100000 in
theorem c_X10_then {w : bw} {σ : bSt} {A : bA} {n b : Int32} (hm : sModel w) (hR : RQ σ A) : MV yX10_then cX10_then 3 (some .int) (rmm 8 194) w [.ref (b_ad w 0), .int n, .int b] σ (pM (oThen n b A)) := by
  refine b_met (ls := [(0, .ref (b_ad w 0)), (1, .int n), (2, .int b)]) (by decide) (Nat.le_of_ble_eq_true rfl) rfl (fun x h => ?_)
  refine v_iload_n h (i := 1) dX10_then_0 (q := 1) rfl rfl 1 rfl ?_
  refine v_callS h (As := [.int n]) (rest := []) (c_X10_isAhead (v := n)) cal_X10_isAhead m1200 m1199 ⟨rfl, rfl, Nat.le_of_ble_eq_true rfl, Nat.le_of_ble_eq_true rfl⟩ rfl rfl (Nat.le_of_ble_eq_true rfl) dX10_then_1 (q := 4) rfl (kB (fun c1 => ?_) (fun c1 => ?_))
  · refine v_if_eq h (t := 17) dX10_then_4 (by decide) (q := 7) rfl (fun c => absurd c (by decide)) (fun _ => ?_)
    refine v_aload_n h (i := 0) dX10_then_7 (q := 8) rfl rfl 0 rfl ?_
    refine v_iload_n h (i := 2) dX10_then_8 (q := 9) rfl rfl 2 rfl ?_
    refine v_bipush h (v := 7) dX10_then_9 (q := 11) rfl (by decide) ?_
    refine v_callV h (As := [.int b, .int 7]) (rest := []) (c_X10_is (σ := σ) (k := b) (c := 7) hm (by decide)) cal_X10_is calV_X10_is m953 ⟨rfl, rfl, Nat.le_of_ble_eq_true rfl, Nat.le_of_ble_eq_true rfl⟩ rfl hm.1.1 hm.1.2 ⟨_, _, rfl⟩ rfl (Nat.le_of_ble_eq_true rfl) dX10_then_11 (q := 14) rfl (kB (fun c11 => ?_) (fun c11 => ?_))
    · refine v_if_ne h (t := 24) dX10_then_14 (by decide) (q := 17) rfl (fun _ => ?_) (fun c => absurd c (by decide))
      obtain ⟨k, hk, rfl⟩ := wi_0 (n := 128) c1 rfl
      obtain ⟨d, hd, rfl⟩ := inN_nI (hR.isb.mp c11)
      have hb9 : d < 9 := by have := hR.af.2; omega
      have hbt := hR.1.2.1.bt
      refine v_aload_n h (i := 0) dX10_then_24 (q := 25) rfl rfl 0 rfl ?_
      refine v_get h (k := 0) (v := .ref (b_ad w 1)) cls10 hm.1.1 hm.1.2 (Nat.le_of_ble_eq_true rfl) m849 rfl dX10_then_25 (q := 28) rfl ?_
      refine v_aload_n h (i := 0) dX10_then_28 (q := 29) rfl rfl 0 rfl ?_
      refine v_get h (k := 2) (v := .ref (b_ad w 3)) cls10 hm.1.1 hm.1.2 (Nat.le_of_ble_eq_true rfl) m851 rfl dX10_then_29 (q := 32) rfl ?_
      refine v_callS h (As := [.ref (b_ad w 1), .ref (b_ad w 3)]) (rest := []) (c_X10_copy (σ := σ) (a := 1) (b := 3) hm.2.1 hm.2.2.2.1 (by decide)) cal_X10_copy m1203 m1202 ⟨rfl, rfl, Nat.le_of_ble_eq_true rfl, Nat.le_of_ble_eq_true rfl⟩ rfl rfl (Nat.le_of_ble_eq_true rfl) dX10_then_32 (q := 35) rfl (kU ?_)
      refine v_aload_n h (i := 0) dX10_then_35 (q := 36) rfl rfl 0 rfl ?_
      refine v_iload_n h (i := 1) dX10_then_36 (q := 37) rfl rfl 1 rfl ?_
      refine v_iconst h (v := 0) dX10_then_37 (q := 38) rfl (by decide) ?_
      refine v_callV h (As := [.int (nI k), .int 0]) (rest := []) (c_X10_beatsGo (σ := b_set σ 3 (σ 1)) (n := k) (lv := 0) (N := A.1.1) (T := A.1.2.1) hm hR.mw.as3 (by rw [← btOf_cl]; omega)) cal_X10_beatsGo calV_X10_beatsGo m1166 ⟨rfl, rfl, Nat.le_of_ble_eq_true rfl, Nat.le_of_ble_eq_true rfl⟩ rfl hm.1.1 hm.1.2 ⟨_, _, rfl⟩ rfl (Nat.le_of_ble_eq_true rfl) dX10_then_38 (q := 41) rfl (kV (fun σ38 h38 => ?_))
      refine v_aload_n h (i := 0) dX10_then_41 (q := 42) rfl rfl 0 rfl ?_
      refine v_aload_n h (i := 0) dX10_then_42 (q := 43) rfl rfl 0 rfl ?_
      refine v_iload_n h (i := 2) dX10_then_43 (q := 44) rfl rfl 2 rfl ?_
      refine v_iconst h (v := 2) dX10_then_44 (q := 45) rfl (by decide) ?_
      refine v_callV h (As := [.int (nI d), .int 2]) (rest := [.ref (b_ad w 0)]) (c_X10_boatIs (σ := σ38) (b := d) (f := 2) hm hb9 (by decide)) cal_X10_boatIs calV_X10_boatIs m961 ⟨rfl, rfl, Nat.le_of_ble_eq_true rfl, Nat.le_of_ble_eq_true rfl⟩ rfl hm.1.1 hm.1.2 ⟨_, _, rfl⟩ rfl (Nat.le_of_ble_eq_true rfl) dX10_then_45 (q := 48) rfl (kI ?_)
      rw [show (σ38 1 (14 + 4 * d) : Int32) = almN A.1.1 k (14 + 4 * d) from ((h38.2.n (by omega)).trans (by rw [show decide (¬ (0 : Int32) = 0) = false by decide]; exact go_cell (gvT_B A.1.2.1) hR.1.2.1.1 hbt.1 (by omega) hb9))]
      refine v_callV h (As := [.int (almN A.1.1 k (14 + 4 * d))]) (rest := []) (c_X10_putBack (σ := σ38) (v := almN A.1.1 k (14 + 4 * d)) hm) cal_X10_putBack calV_X10_putBack m1205 ⟨rfl, rfl, Nat.le_of_ble_eq_true rfl, Nat.le_of_ble_eq_true rfl⟩ rfl hm.1.1 hm.1.2 ⟨_, _, rfl⟩ rfl (Nat.le_of_ble_eq_true rfl) dX10_then_48 (q := 51) rfl (kI ?_)
      exact v_iret h dX10_then_51 (pM_of (by unfold oThen; rw [if_pos ⟨c1, hR.isb.mp c11⟩, cl_nI (n := k) (by omega), cl_nI (n := d) (by omega)]) (hR.back h38.1 h38.2))
    · refine v_if_ne h (t := 24) dX10_then_14 (by decide) (q := 17) rfl (fun c => absurd (by decide) c) (fun _ => ?_)
      refine v_aload_n h (i := 0) dX10_then_17 (q := 18) rfl rfl 0 rfl ?_
      refine v_ldc h (v := -1000000001) m931 dX10_then_18 (q := 20) rfl ?_
      refine v_callV h (As := [.int (-1000000001)]) (rest := []) (c_X10_finding (σ := σ) (e := 1) (v := -1000000001) hm (by decide) (by decide +kernel)) cal_X10_finding calV_X10_finding m932 ⟨rfl, rfl, Nat.le_of_ble_eq_true rfl, Nat.le_of_ble_eq_true rfl⟩ rfl hm.1.1 hm.1.2 ⟨_, _, rfl⟩ rfl (Nat.le_of_ble_eq_true rfl) dX10_then_20 (q := 23) rfl (kI ?_)
      exact v_iret h dX10_then_23 (pM_of (by unfold oThen; rw [if_neg (fun z => by first | exact c1 z.1 | exact c11 (hR.isb.mpr z.2)), ref1]) (hR.err (by decide)))
  · refine v_if_eq h (t := 17) dX10_then_4 (by decide) (q := 7) rfl (fun _ => ?_) (fun c => absurd (by decide) c)
    refine v_aload_n h (i := 0) dX10_then_17 (q := 18) rfl rfl 0 rfl ?_
    refine v_ldc h (v := -1000000001) m931 dX10_then_18 (q := 20) rfl ?_
    refine v_callV h (As := [.int (-1000000001)]) (rest := []) (c_X10_finding (σ := σ) (e := 1) (v := -1000000001) hm (by decide) (by decide +kernel)) cal_X10_finding calV_X10_finding m932 ⟨rfl, rfl, Nat.le_of_ble_eq_true rfl, Nat.le_of_ble_eq_true rfl⟩ rfl hm.1.1 hm.1.2 ⟨_, _, rfl⟩ rfl (Nat.le_of_ble_eq_true rfl) dX10_then_20 (q := 23) rfl (kI ?_)
    exact v_iret h dX10_then_23 (pM_of (by unfold oThen; rw [if_neg (fun z => by first | exact c1 z.1 | exact c11 (hR.isb.mpr z.2)), ref1]) (hR.err (by decide)))

set_option maxHeartbeats 4000000 in
set_option maxRecDepth 100000 in
theorem c_X10_thenListener {w : bw} {σ : bSt} {A : bA} {n l what : Int32} (hm : sModel w) (hR : RQ σ A) : MV yX10_thenListener cX10_thenListener 4 (some .int) (rmm 8 194) w [.ref (b_ad w 0), .int n, .int l, .int what] σ (pM (oThenL n l what A)) := by
  refine b_met (ls := [(0, .ref (b_ad w 0)), (1, .int n), (2, .int l), (3, .int what)]) (by decide) (Nat.le_of_ble_eq_true rfl) rfl (fun x h => ?_)
  refine v_iload_n h (i := 1) dX10_thenListener_0 (q := 1) rfl rfl 1 rfl ?_
  refine v_callS h (As := [.int n]) (rest := []) (c_X10_isAhead (v := n)) cal_X10_isAhead m1200 m1199 ⟨rfl, rfl, Nat.le_of_ble_eq_true rfl, Nat.le_of_ble_eq_true rfl⟩ rfl rfl (Nat.le_of_ble_eq_true rfl) dX10_thenListener_1 (q := 4) rfl (kB (fun c1 => ?_) (fun c1 => ?_))
  · refine v_if_eq h (t := 26) dX10_thenListener_4 (by decide) (q := 7) rfl (fun c => absurd c (by decide)) (fun _ => ?_)
    refine v_aload_n h (i := 0) dX10_thenListener_7 (q := 8) rfl rfl 0 rfl ?_
    refine v_iload_n h (i := 2) dX10_thenListener_8 (q := 9) rfl rfl 2 rfl ?_
    refine v_bipush h (v := 8) dX10_thenListener_9 (q := 11) rfl (by decide) ?_
    refine v_callV h (As := [.int l, .int 8]) (rest := []) (c_X10_is (σ := σ) (k := l) (c := 8) hm (by decide)) cal_X10_is calV_X10_is m953 ⟨rfl, rfl, Nat.le_of_ble_eq_true rfl, Nat.le_of_ble_eq_true rfl⟩ rfl hm.1.1 hm.1.2 ⟨_, _, rfl⟩ rfl (Nat.le_of_ble_eq_true rfl) dX10_thenListener_11 (q := 14) rfl (kB (fun c11 => ?_) (fun c11 => ?_))
    · refine v_if_eq h (t := 26) dX10_thenListener_14 (by decide) (q := 17) rfl (fun c => absurd c (by decide)) (fun _ => ?_)
      refine v_iload_n h (i := 3) dX10_thenListener_17 (q := 18) rfl rfl 3 rfl ?_
      refine v_iconst h (v := 0) dX10_thenListener_18 (q := 19) rfl (by decide) ?_
      refine v_iconst h (v := 3) dX10_thenListener_19 (q := 20) rfl (by decide) ?_
      refine v_callS h (As := [.int what, .int 0, .int 3]) (rest := []) (c_X10_within (v := what) (l := 0) (m := 3)) cal_X10_within m925 m924 ⟨rfl, rfl, Nat.le_of_ble_eq_true rfl, Nat.le_of_ble_eq_true rfl⟩ rfl rfl (Nat.le_of_ble_eq_true rfl) dX10_thenListener_20 (q := 23) rfl (kB (fun c20 => ?_) (fun c20 => ?_))
      · refine v_if_ne h (t := 33) dX10_thenListener_23 (by decide) (q := 26) rfl (fun _ => ?_) (fun c => absurd c (by decide))
        obtain ⟨k, hk, rfl⟩ := wi_0 (n := 128) c1 rfl
        obtain ⟨d, hd, rfl⟩ := inN_nI (hR.isl.mp c11)
        have hbt := hR.1.2.1.bt
        have hd6 : d < 6 := by have := hR.li.2; omega
        refine v_aload_n h (i := 0) dX10_thenListener_33 (q := 34) rfl rfl 0 rfl ?_
        refine v_get h (k := 0) (v := .ref (b_ad w 1)) cls10 hm.1.1 hm.1.2 (Nat.le_of_ble_eq_true rfl) m849 rfl dX10_thenListener_34 (q := 37) rfl ?_
        refine v_aload_n h (i := 0) dX10_thenListener_37 (q := 38) rfl rfl 0 rfl ?_
        refine v_get h (k := 2) (v := .ref (b_ad w 3)) cls10 hm.1.1 hm.1.2 (Nat.le_of_ble_eq_true rfl) m851 rfl dX10_thenListener_38 (q := 41) rfl ?_
        refine v_callS h (As := [.ref (b_ad w 1), .ref (b_ad w 3)]) (rest := []) (c_X10_copy (σ := σ) (a := 1) (b := 3) hm.2.1 hm.2.2.2.1 (by decide)) cal_X10_copy m1203 m1202 ⟨rfl, rfl, Nat.le_of_ble_eq_true rfl, Nat.le_of_ble_eq_true rfl⟩ rfl rfl (Nat.le_of_ble_eq_true rfl) dX10_thenListener_41 (q := 44) rfl (kU ?_)
        refine v_aload_n h (i := 0) dX10_thenListener_44 (q := 45) rfl rfl 0 rfl ?_
        refine v_iload_n h (i := 1) dX10_thenListener_45 (q := 46) rfl rfl 1 rfl ?_
        refine v_iconst h (v := 0) dX10_thenListener_46 (q := 47) rfl (by decide) ?_
        refine v_callV h (As := [.int (nI k), .int 0]) (rest := []) (c_X10_beatsGo (σ := b_set σ 3 (σ 1)) (n := k) (lv := 0) (N := A.1.1) (T := A.1.2.1) hm hR.mw.as3 (by rw [← btOf_cl]; omega)) cal_X10_beatsGo calV_X10_beatsGo m1166 ⟨rfl, rfl, Nat.le_of_ble_eq_true rfl, Nat.le_of_ble_eq_true rfl⟩ rfl hm.1.1 hm.1.2 ⟨_, _, rfl⟩ rfl (Nat.le_of_ble_eq_true rfl) dX10_thenListener_47 (q := 50) rfl (kV (fun σ47 h47 => ?_))
        have hW2 := h47.2
        rw [show decide (¬ (0 : Int32) = 0) = false by decide] at hW2
        refine v_aload_n h (i := 0) dX10_thenListener_50 (q := 51) rfl rfl 0 rfl ?_
        refine v_aload_n h (i := 0) dX10_thenListener_51 (q := 52) rfl rfl 0 rfl ?_
        refine v_iload_n h (i := 2) dX10_thenListener_52 (q := 53) rfl rfl 2 rfl ?_
        refine v_iload_n h (i := 3) dX10_thenListener_53 (q := 54) rfl rfl 3 rfl ?_
        refine v_callV h (As := [.int (nI d), .int what]) (rest := [.ref (b_ad w 0)]) (c_X10_ofOne (σ := σ47) (l := d) (what := what) (N := goN (gvT A.1.2.1) false A.1.1 k) (T := A.1.2.1) hm hW2 (by unfold liN at hd ⊢; rw [liN_go]; exact hd) c20) cal_X10_ofOne calV_X10_ofOne m1029 ⟨rfl, rfl, Nat.le_of_ble_eq_true rfl, Nat.le_of_ble_eq_true rfl⟩ rfl hm.1.1 hm.1.2 ⟨_, _, rfl⟩ rfl (Nat.le_of_ble_eq_true rfl) dX10_thenListener_54 (q := 57) rfl (kR (fun r54 σ54 h54 => ?_))
        refine v_callV h (As := [.int r54]) (rest := []) (c_X10_putBack (σ := σ54) (v := r54) hm) cal_X10_putBack calV_X10_putBack m1205 ⟨rfl, rfl, Nat.le_of_ble_eq_true rfl, Nat.le_of_ble_eq_true rfl⟩ rfl hm.1.1 hm.1.2 ⟨_, _, rfl⟩ rfl (Nat.le_of_ble_eq_true rfl) dX10_thenListener_57 (q := 60) rfl (kI ?_)
        exact v_iret h dX10_thenListener_60 (pM_of (by unfold oThenL; rw [if_pos ⟨c1, hR.isl.mp c11, c20⟩, cl_nI (n := k) (by omega), cl_nI (n := d) (by omega), ← h54.1]) (hR.back (h47.1.trans (fM_s h54.2.1)) (hW2.sc h54.2.1 h54.2.2)))
      · refine v_if_ne h (t := 33) dX10_thenListener_23 (by decide) (q := 26) rfl (fun c => absurd (by decide) c) (fun _ => ?_)
        refine v_aload_n h (i := 0) dX10_thenListener_26 (q := 27) rfl rfl 0 rfl ?_
        refine v_ldc h (v := -1000000001) m931 dX10_thenListener_27 (q := 29) rfl ?_
        refine v_callV h (As := [.int (-1000000001)]) (rest := []) (c_X10_finding (σ := σ) (e := 1) (v := -1000000001) hm (by decide) (by decide +kernel)) cal_X10_finding calV_X10_finding m932 ⟨rfl, rfl, Nat.le_of_ble_eq_true rfl, Nat.le_of_ble_eq_true rfl⟩ rfl hm.1.1 hm.1.2 ⟨_, _, rfl⟩ rfl (Nat.le_of_ble_eq_true rfl) dX10_thenListener_29 (q := 32) rfl (kI ?_)
        exact v_iret h dX10_thenListener_32 (pM_of (by unfold oThenL; rw [if_neg (fun z => by first | exact c1 z.1 | exact c11 (hR.isl.mpr z.2.1) | exact c20 z.2.2), ref1]) (hR.err (by decide)))
    · refine v_if_eq h (t := 26) dX10_thenListener_14 (by decide) (q := 17) rfl (fun _ => ?_) (fun c => absurd (by decide) c)
      refine v_aload_n h (i := 0) dX10_thenListener_26 (q := 27) rfl rfl 0 rfl ?_
      refine v_ldc h (v := -1000000001) m931 dX10_thenListener_27 (q := 29) rfl ?_
      refine v_callV h (As := [.int (-1000000001)]) (rest := []) (c_X10_finding (σ := σ) (e := 1) (v := -1000000001) hm (by decide) (by decide +kernel)) cal_X10_finding calV_X10_finding m932 ⟨rfl, rfl, Nat.le_of_ble_eq_true rfl, Nat.le_of_ble_eq_true rfl⟩ rfl hm.1.1 hm.1.2 ⟨_, _, rfl⟩ rfl (Nat.le_of_ble_eq_true rfl) dX10_thenListener_29 (q := 32) rfl (kI ?_)
      exact v_iret h dX10_thenListener_32 (pM_of (by unfold oThenL; rw [if_neg (fun z => by first | exact c1 z.1 | exact c11 (hR.isl.mpr z.2.1) | exact c20 z.2.2), ref1]) (hR.err (by decide)))
  · refine v_if_eq h (t := 26) dX10_thenListener_4 (by decide) (q := 7) rfl (fun _ => ?_) (fun c => absurd (by decide) c)
    refine v_aload_n h (i := 0) dX10_thenListener_26 (q := 27) rfl rfl 0 rfl ?_
    refine v_ldc h (v := -1000000001) m931 dX10_thenListener_27 (q := 29) rfl ?_
    refine v_callV h (As := [.int (-1000000001)]) (rest := []) (c_X10_finding (σ := σ) (e := 1) (v := -1000000001) hm (by decide) (by decide +kernel)) cal_X10_finding calV_X10_finding m932 ⟨rfl, rfl, Nat.le_of_ble_eq_true rfl, Nat.le_of_ble_eq_true rfl⟩ rfl hm.1.1 hm.1.2 ⟨_, _, rfl⟩ rfl (Nat.le_of_ble_eq_true rfl) dX10_thenListener_29 (q := 32) rfl (kI ?_)
    exact v_iret h dX10_thenListener_32 (pM_of (by unfold oThenL; rw [if_neg (fun z => by first | exact c1 z.1 | exact c11 (hR.isl.mpr z.2.1) | exact c20 z.2.2), ref1]) (hR.err (by decide)))

set_option maxHeartbeats 4000000 in
set_option maxRecDepth 100000 in
theorem lX10_scoreBy_5 {w : bw} {σ : bSt} {y n : Nat} {N : bN} {T : bT} (hm : sModel w) (hW : MW σ N T) (hy : y < 64) (hn : n ≤ 128) (hbt2 : (N 0).toNatClampNeg + 128 < 20000) {x : bX} (h : Cx x w cX10_scoreBy RX10 5 (some .int) (rmm 6 144)) : ∀ m k : Nat, k + m = n → ∀ τ : bSt, fM σ τ → MW τ (almN N k) T → V x w 5 (pR (fun r σ' => r = nI (scN (gvT T) N (nI y) n) ∧ scB σ σ' ∧ CM σ' T)) 5 [(4, .int (nI k)), (3, .int (nI (scN (gvT T) N (nI y) k))), (0, .ref (b_ad w 0)), (1, .int (nI y)), (2, .int (nI n))] [] τ := by
  refine b_ind (fun m ih => ?_)
  intro k hkm τ hf hWt
  refine v_iload h (i := 4) dX10_scoreBy_5 (q := 7) rfl 0 rfl ?_
  refine v_iload_n h (i := 2) dX10_scoreBy_7 (q := 8) rfl rfl 4 rfl ?_
  refine v_icmp_ge h (t := 41) dX10_scoreBy_8 (by decide) (q := 11) rfl (fun c8 => ?_) (fun c8 => ?_)
  · refine v_aload_n h (i := 0) dX10_scoreBy_41 (q := 42) rfl rfl 2 rfl ?_
    refine v_iload_n h (i := 3) dX10_scoreBy_42 (q := 43) rfl rfl 1 rfl ?_
    refine v_callV h (As := [.int (nI (scN (gvT T) N (nI y) k))]) (rest := []) (c_X10_putBack (σ := τ) (v := nI (scN (gvT T) N (nI y) k)) hm) cal_X10_putBack calV_X10_putBack m1205 ⟨rfl, rfl, Nat.le_of_ble_eq_true rfl, Nat.le_of_ble_eq_true rfl⟩ rfl hm.1.1 hm.1.2 ⟨_, _, rfl⟩ rfl (Nat.le_of_ble_eq_true rfl) dX10_scoreBy_43 (q := 46) rfl (kI ?_)
    exact v_iret h dX10_scoreBy_46 ⟨_, rfl, by rw [show n = k by have := nge (k := n) (nI_toInt (by omega)) (by omega) c8; omega], ⟨by rw [b_set_s]; exact hf.1 3 (by decide) (by decide) (by decide) (by decide), fun j a b c d => by rw [b_set_n a]; exact hf.1 j a b c d⟩, hWt.2.2.2.sc (b_set_n (by decide))⟩
  · have hkn : k < n := nlt (nI_toInt (by omega)) (by omega) c8
    refine v_iload_n h (i := 3) dX10_scoreBy_11 (q := 12) rfl rfl 1 rfl ?_
    refine v_aload_n h (i := 0) dX10_scoreBy_12 (q := 13) rfl rfl 2 rfl ?_
    refine v_iload_n h (i := 1) dX10_scoreBy_13 (q := 14) rfl rfl 3 rfl ?_
    refine v_aload_n h (i := 0) dX10_scoreBy_14 (q := 15) rfl rfl 2 rfl ?_
    refine v_callV h (As := []) (rest := [.int (nI y), .ref (b_ad w 0), .int (nI (scN (gvT T) N (nI y) k))]) (c_X10_singers (σ := τ) (N := almN N k) (T := T) hm hWt) cal_X10_singers calV_X10_singers m1037 ⟨rfl, rfl, Nat.le_of_ble_eq_true rfl, Nat.le_of_ble_eq_true rfl⟩ rfl hm.1.1 hm.1.2 ⟨_, _, rfl⟩ rfl (Nat.le_of_ble_eq_true rfl) dX10_scoreBy_15 (q := 18) rfl (kI ?_)
    refine v_callV h (As := [.int (nI y), .int (sngN (almN N k) 9)]) (rest := [.int (nI (scN (gvT T) N (nI y) k))]) (c_X10_isTogether (σ := τ) (y := y) (heard := sngN (almN N k) 9) (N := almN N k) (T := T) hm hWt hy sng_hd) cal_X10_isTogether calV_X10_isTogether m1041 ⟨rfl, rfl, Nat.le_of_ble_eq_true rfl, Nat.le_of_ble_eq_true rfl⟩ rfl hm.1.1 hm.1.2 ⟨_, _, rfl⟩ rfl (Nat.le_of_ble_eq_true rfl) dX10_scoreBy_18 (q := 21) rfl (kZ (fun σ18 h18 c18 => ?_) (fun σ18 h18 c18 => ?_))
    · refine v_if_eq h (t := 28) dX10_scoreBy_21 (by decide) (q := 24) rfl (fun c => absurd c (by decide)) (fun _ => ?_)
      refine v_iconst h (v := 1) dX10_scoreBy_24 (q := 25) rfl (by decide) ?_
      refine v_goto h (t := 29) dX10_scoreBy_25 (by decide) ?_
      refine v_iadd h dX10_scoreBy_29 (q := 30) rfl ?_
      rw [show ((nI (scN (gvT T) N (nI y) k)) + 1 : Int32) = nI (scN (gvT T) N (nI y) k + 1) from (nI_1 _)]
      refine v_istore_n h (i := 3) (ls1 := [(3, .int (nI (scN (gvT T) N (nI y) k + 1))), (4, .int (nI k)), (0, .ref (b_ad w 0)), (1, .int (nI y)), (2, .int (nI n))]) dX10_scoreBy_30 (q := 31) rfl rfl (Nat.le_of_ble_eq_true rfl) rfl ?_
      refine v_aload_n h (i := 0) dX10_scoreBy_31 (q := 32) rfl rfl 2 rfl ?_
      refine v_callV h (As := []) (rest := []) (c_X10_moveAll (σ := σ18) (N := almN N k) (T := T) hm (hWt.sc h18.1 h18.2) (by rw [alm_0, (hW.n (k := 0) (by omega)).symm.trans hW.bt.1, nI_add, nI_clamp (by omega)]; omega)) cal_X10_moveAll calV_X10_moveAll m1180 ⟨rfl, rfl, Nat.le_of_ble_eq_true rfl, Nat.le_of_ble_eq_true rfl⟩ rfl hm.1.1 hm.1.2 ⟨_, _, rfl⟩ rfl (Nat.le_of_ble_eq_true rfl) dX10_scoreBy_32 (q := 35) rfl (kV (fun σ32 h32 => ?_))
      refine v_iinc h (p := 1) (u := nI (k + 1)) (ls1 := [(4, .int (nI (k + 1))), (3, .int (nI (scN (gvT T) N (nI y) k + 1))), (0, .ref (b_ad w 0)), (1, .int (nI y)), (2, .int (nI n))]) dX10_scoreBy_35 (q := 38) rfl rfl (nI_1 k) (Nat.le_of_ble_eq_true rfl) rfl ?_
      refine v_goto h (t := 5) dX10_scoreBy_38 (by decide) ?_
      have es : scN (gvT T) N (nI y) (k + 1) = (scN (gvT T) N (nI y) k + 1) := by rw [scN, if_pos c18]
      have hz := ih (m - 1) (by omega) (k + 1) (by omega) σ32 (hf.trans ((fM_s h18.1).trans h32.1)) h32.2
      rw [es] at hz
      exact hz
    · refine v_if_eq h (t := 28) dX10_scoreBy_21 (by decide) (q := 24) rfl (fun _ => ?_) (fun c => absurd (by decide) c)
      refine v_iconst h (v := 0) dX10_scoreBy_28 (q := 29) rfl (by decide) ?_
      refine v_iadd h dX10_scoreBy_29 (q := 30) rfl ?_
      rw [show ((nI (scN (gvT T) N (nI y) k)) + 0 : Int32) = nI (scN (gvT T) N (nI y) k) from (Int32.add_zero _)]
      refine v_istore_n h (i := 3) (ls1 := [(3, .int (nI (scN (gvT T) N (nI y) k))), (4, .int (nI k)), (0, .ref (b_ad w 0)), (1, .int (nI y)), (2, .int (nI n))]) dX10_scoreBy_30 (q := 31) rfl rfl (Nat.le_of_ble_eq_true rfl) rfl ?_
      refine v_aload_n h (i := 0) dX10_scoreBy_31 (q := 32) rfl rfl 2 rfl ?_
      refine v_callV h (As := []) (rest := []) (c_X10_moveAll (σ := σ18) (N := almN N k) (T := T) hm (hWt.sc h18.1 h18.2) (by rw [alm_0, (hW.n (k := 0) (by omega)).symm.trans hW.bt.1, nI_add, nI_clamp (by omega)]; omega)) cal_X10_moveAll calV_X10_moveAll m1180 ⟨rfl, rfl, Nat.le_of_ble_eq_true rfl, Nat.le_of_ble_eq_true rfl⟩ rfl hm.1.1 hm.1.2 ⟨_, _, rfl⟩ rfl (Nat.le_of_ble_eq_true rfl) dX10_scoreBy_32 (q := 35) rfl (kV (fun σ32_1 h32_1 => ?_))
      refine v_iinc h (p := 1) (u := nI (k + 1)) (ls1 := [(4, .int (nI (k + 1))), (3, .int (nI (scN (gvT T) N (nI y) k))), (0, .ref (b_ad w 0)), (1, .int (nI y)), (2, .int (nI n))]) dX10_scoreBy_35 (q := 38) rfl rfl (nI_1 k) (Nat.le_of_ble_eq_true rfl) rfl ?_
      refine v_goto h (t := 5) dX10_scoreBy_38 (by decide) ?_
      have es : scN (gvT T) N (nI y) (k + 1) = (scN (gvT T) N (nI y) k) := by rw [scN, if_neg c18]
      have hz := ih (m - 1) (by omega) (k + 1) (by omega) σ32_1 (hf.trans ((fM_s h18.1).trans h32_1.1)) h32_1.2
      rw [es] at hz
      exact hz
set_option maxHeartbeats 4000000 in
set_option maxRecDepth 100000 in
theorem c_X10_scoreBy {w : bw} {σ : bSt} {y n : Nat} {N : bN} {T : bT} (hm : sModel w) (hW : MW σ N T) (hy : y < 64) (hn : n ≤ 128) (hbt2 : (N 0).toNatClampNeg + 128 < 20000) : MV yX10_scoreBy cX10_scoreBy 5 (some .int) (rmm 6 144) w [.ref (b_ad w 0), .int (nI y), .int (nI n)] σ (pR (fun r σ' => r = nI (scN (gvT T) N (nI y) n) ∧ scB σ σ' ∧ CM σ' T)) := by
  refine b_met (ls := [(0, .ref (b_ad w 0)), (1, .int (nI y)), (2, .int (nI n))]) (by decide) (Nat.le_of_ble_eq_true rfl) rfl (fun x h => ?_)
  skip
  refine v_iconst h (v := 0) dX10_scoreBy_0 (q := 1) rfl (by decide) ?_
  refine v_istore_n h (i := 3) (ls1 := [(3, .int 0), (0, .ref (b_ad w 0)), (1, .int (nI y)), (2, .int (nI n))]) dX10_scoreBy_1 (q := 2) rfl rfl (Nat.le_of_ble_eq_true rfl) rfl ?_
  refine v_iconst h (v := 0) dX10_scoreBy_2 (q := 3) rfl (by decide) ?_
  refine v_istore h (i := 4) (ls1 := [(4, .int 0), (3, .int 0), (0, .ref (b_ad w 0)), (1, .int (nI y)), (2, .int (nI n))]) dX10_scoreBy_3 (q := 5) rfl (Nat.le_of_ble_eq_true rfl) rfl ?_
  exact lX10_scoreBy_5 hm hW hy hn hbt2 h n 0 (by omega) σ fM_rfl hW
