theorem gvT_B (T : bT) : gB (gvT T) := fun u a b c => by
  unfold gvT
  exact clmp_nI _
theorem IvN_bt {g : bG} (hg : gB g) {N : bN} {t : Nat} {lo : Bool} (h : IvN N) (e : N 0 = nI t) (ht : t + 1 < 20000) : IvN (btN g N lo) ∧ btN g N lo 0 = nI (t + 1) := by
  unfold btN
  cases lo with
  | false =>
    have e2 : lisN g N (sngN N 9) 6 0 = nI t := by rw [lisN_off (by decide) 6 (fun l _ => ⟨by omega, by omega⟩)]; exact e
    refine ⟨IvN_all (IvN_lis hg h 6 (Nat.le_refl 6)) ht e2, ?_⟩
    show allN _ 0 = _
    unfold allN
    rw [upd_s]
    show lisN g N (sngN N 9) 6 0 + 1 = _
    rw [e2, nI_1]
  | true =>
    have hz := IvN_upz h (fgN (sngN N 9) (N 11) 9).1
    have e2 : lisN g (upd N 11 (fgN (sngN N 9) (N 11) 9).1) (fgN (sngN N 9) (N 11) 9).2 6 0 = nI t := by rw [lisN_off (by decide) 6 (fun l _ => ⟨by omega, by omega⟩), upd_n (by decide)]; exact e
    refine ⟨IvN_all (IvN_lis hg hz 6 (Nat.le_refl 6)) ht e2, ?_⟩
    show allN _ 0 = _
    unfold allN
    rw [upd_s]
    show lisN g (upd N 11 (fgN (sngN N 9) (N 11) 9).1) (fgN (sngN N 9) (N 11) 9).2 6 0 + 1 = _
    rw [e2, nI_1]
theorem IvN_go {g : bG} (hg : gB g) {N : bN} {t : Nat} {lo : Bool} (h : IvN N) (e : N 0 = nI t) : ∀ n, t + n < 20000 → IvN (goN g lo N n) ∧ goN g lo N n 0 = nI (t + n)
  | 0, _ => ⟨h, e⟩
  | n + 1, hn => by
    obtain ⟨h1, e1⟩ := IvN_go hg h e n (by omega)
    exact IvN_bt hg h1 e1 (by omega)
def btOf (N : bN) : Nat := cl (N 0)
theorem IvB.bt {N : bN} (h : IvB N) : N 0 = nI (btOf N) ∧ btOf N ≤ 9999 := by
  obtain ⟨t, ht, e⟩ := h.2
  unfold btOf
  rw [e, cl_nI (by omega)]
  exact ⟨rfl, ht⟩
def oGo (lo : Bool) (n : Int32) (A : bA) : Int32 × bA := if wj n 1 128 then (if btOf A.1.1 + cl n ≤ 9999 then (goN (gvT A.1.2.1) lo A.1.1 (cl n) 6, setN A (goN (gvT A.1.2.1) lo A.1.1 (cl n))) else refA 3 A) else refA 1 A
/-- so many beats have gone by in a Scene -/
def gon (lo : Bool) (sc : Nat) (σ : bSt) (N0 : bN) (g : bG) (k : Nat) (τ : bSt) : Prop := vw τ sc 1 = goN g lo N0 k ∧ cacheOK τ 1 ∧ offS sc 1 σ τ
theorem offS_ro {sc : Nat} {σ τ : bSt} (h : offS sc 1 σ τ) (hs : sc + 9 ≤ 77) (k : RO σ) : RO τ := k.at (fun j a b => h j (by omega) (by omega) (by omega) (by omega))
theorem RC.go {σ τ : bSt} {A : bA} {lo : Bool} {n : Nat} (h : RC σ A) (k : gon lo 10 σ A.1.1 (gvT A.1.2.1) n τ) (hn : btOf A.1.1 + n ≤ 9999) : RC τ (setN A (goN (gvT A.1.2.1) lo A.1.1 n)) := by
  obtain ⟨k1, k2, k3⟩ := k
  have hb := h.1.2.1.bt
  have hg := IvN_go (lo := lo) (gvT_B A.1.2.1) h.1.2.1.1 hb.1 n (by omega)
  exact h.num (fun j a _ _ b c d e => k3 j (by omega) (by omega) (by omega) (by omega)) k2 (offS_ro k3 (by decide) h.ro) k1 ⟨hg.1, _, hn, hg.2⟩
theorem gon_s {lo : Bool} {lv : Int32} {sc : Nat} {σ τ τ2 : bSt} {N0 : bN} {g : bG} {k : Nat} (h : gon lo sc σ N0 g k τ) (hl : decide (¬ lv = 0) = lo) (hg : gvS τ 1 = g) (k2 : vw τ2 sc 1 = btN (gvS τ 1) (vw τ sc 1) (decide (¬ lv = 0)) ∧ cacheOK τ2 1 ∧ offS sc 1 τ τ2) : gon lo sc σ N0 g (k + 1) τ2 := by
  refine ⟨?_, k2.2.1, h.2.2.trans k2.2.2⟩
  rw [k2.1, hl, hg, h.1]
  rfl
def oThenL (n l what : Int32) (A : bA) : Int32 × bA := if wj n 0 128 ∧ inN l (liN A.1.1) ∧ wj what 0 3 then (telN (gvT A.1.2.1) (goN (gvT A.1.2.1) false A.1.1 (cl n)) (cl l) what, A) else refA 1 A
theorem liN_bt {g : bG} {N : bN} {lo : Bool} : btN g N lo 8 = N 8 := by
  unfold btN
  cases lo with
  | false =>
    show allN _ 8 = _
    unfold allN
    rw [upd_n (by decide), mvN_off 9 (by omega) (by omega), lisN_off (by decide) 6 (fun l _ => ⟨by omega, by omega⟩)]
  | true =>
    show allN _ 8 = _
    unfold allN
    rw [upd_n (by decide), mvN_off 9 (by omega) (by omega), lisN_off (by decide) 6 (fun l _ => ⟨by omega, by omega⟩), upd_n (by decide)]
theorem liN_go {g : bG} {N : bN} {lo : Bool} : ∀ n, goN g lo N n 8 = N 8
  | 0 => rfl
  | n + 1 => by
    show btN g (goN g lo N n) lo 8 = _
    rw [liN_bt, liN_go n]
theorem vw_ahead {σ : bSt} : vw (blk σ 60 10 9) 60 1 = vw σ 10 1 :=
  vw_ext (fun k _ => by rw [blk_in (by omega) (by omega)]) (by rw [blk_out (by omega)]) (blk_out (by omega)) (by rw [blk_in (j := 60 + 1) (by omega) (by omega)]) (fun f h2 h9 => by rw [blk_in (by omega) (by omega)]; congr 1; omega)

set_option maxHeartbeats 4000000 in
set_option maxRecDepth 100000 in
theorem c_X9_told {w : bw} {σ : bSt} {A : bA} {k : Int32} (hs : sOpera w) (hR : RC σ A) : MV yX9_told cX9_told 2 (some .int) (rmm 1 22) w [.ref (b_ad w 0), .int k] σ (pA (oTold k A)) := by
  refine b_met (ls := [(0, .ref (b_ad w 0)), (1, .int k)]) (by decide) (Nat.le_of_ble_eq_true rfl) rfl (fun x h => ?_)
  refine v_iload_n h (i := 1) dX9_told_0 (q := 1) rfl rfl 1 rfl ?_
  refine v_iconst h (v := 1) dX9_told_1 (q := 2) rfl (by decide) ?_
  refine v_iconst h (v := 5) dX9_told_2 (q := 3) rfl (by decide) ?_
  refine v_callS h (As := [.int k, .int 1, .int 5]) (rest := []) (c_X9_within (v := k) (l := 1) (m := 5)) cal_X9_within m313 m312 ⟨rfl, rfl, Nat.le_of_ble_eq_true rfl, Nat.le_of_ble_eq_true rfl⟩ rfl rfl (Nat.le_of_ble_eq_true rfl) dX9_told_3 (q := 6) rfl (kB (fun c3 => ?_) (fun c3 => ?_))
  · refine v_if_ne h (t := 15) dX9_told_6 (by decide) (q := 9) rfl (fun _ => ?_) (fun c => absurd c (by decide))
    obtain ⟨u, hu1, hu5, rfl⟩ := wi_1 (n := 5) c3 rfl
    refine v_aload_n h (i := 0) dX9_told_15 (q := 16) rfl rfl 0 rfl ?_
    refine v_get h (k := 9) (v := .ref (b_ad w 54)) cls9 hs.1.1 hs.1.2 (Nat.le_of_ble_eq_true rfl) m274 rfl dX9_told_16 (q := 19) rfl ?_
    refine v_iload_n h (i := 1) dX9_told_19 (q := 20) rfl rfl 1 rfl ?_
    refine v_iald h (k := u) hs.2.2.2.2.2.2.2.2.2.2.1.1 hs.2.2.2.2.2.2.2.2.2.2.1.2 (vp_in_nI (by omega) (by decide)) (nI_clamp (by omega)) dX9_told_20 (q := 21) rfl ?_
    exact v_iret h dX9_told_21 (pA_of (by unfold oTold; rw [if_pos (show wj (nI u) 1 5 from c3), cl_nI (by omega), hR.er (by omega)]) hR)
  · refine v_if_ne h (t := 15) dX9_told_6 (by decide) (q := 9) rfl (fun c => absurd (by decide) c) (fun _ => ?_)
    refine v_aload_n h (i := 0) dX9_told_9 (q := 10) rfl rfl 0 rfl ?_
    refine v_iconst h (v := 1) dX9_told_10 (q := 11) rfl (by decide) ?_
    refine v_callV h (As := [.int 1]) (rest := []) (c_ref (σ := σ) hs (e := 1) (by decide) rfl) cal_X9_refuse calV_X9_refuse m315 ⟨rfl, rfl, Nat.le_of_ble_eq_true rfl, Nat.le_of_ble_eq_true rfl⟩ rfl hs.1.1 hs.1.2 ⟨_, _, rfl⟩ rfl (Nat.le_of_ble_eq_true rfl) dX9_told_11 (q := 14) rfl (kI ?_)
    exact v_iret h dX9_told_14 (pA_of (by unfold oTold; rw [if_neg (fun z => by first | exact c3 z)]; rfl) (hR.err (by decide)))

set_option maxHeartbeats 4000000 in
set_option maxRecDepth 100000 in
theorem c_X9_trace {w : bw} {σ : bSt} {A : bA} {i : Int32} (hs : sOpera w) (hR : RC σ A) : MV yX9_trace cX9_trace 2 (some .int) (rmm 1 21) w [.ref (b_ad w 0), .int i] σ (pA (oTrace i A)) := by
  refine b_met (ls := [(0, .ref (b_ad w 0)), (1, .int i)]) (by decide) (Nat.le_of_ble_eq_true rfl) rfl (fun x h => ?_)
  refine v_iload_n h (i := 1) dX9_trace_0 (q := 1) rfl rfl 1 rfl ?_
  refine v_if_lt h (t := 27) dX9_trace_1 (by decide) (q := 4) rfl (fun c1 => ?_) (fun c1 => ?_)
  · refine v_aload_n h (i := 0) dX9_trace_27 (q := 28) rfl rfl 0 rfl ?_
    refine v_iconst h (v := 2) dX9_trace_28 (q := 29) rfl (by decide) ?_
    refine v_callV h (As := [.int 2]) (rest := []) (c_ref (σ := σ) hs (e := 2) (by decide) rfl) cal_X9_refuse calV_X9_refuse m315 ⟨rfl, rfl, Nat.le_of_ble_eq_true rfl, Nat.le_of_ble_eq_true rfl⟩ rfl hs.1.1 hs.1.2 ⟨_, _, rfl⟩ rfl (Nat.le_of_ble_eq_true rfl) dX9_trace_29 (q := 32) rfl (kI ?_)
    exact v_iret h dX9_trace_32 (pA_of (by unfold oTrace; rw [if_neg (fun z => by first | exact absurd z.1 (by rw [i_lt] at c1; have : (0 : Int32).toInt = 0 := rfl; omega) | exact absurd z.2 (by rw [i_le, nI_toInt (by have := hR.tr.2.1; omega)] at c12; omega))]; rfl) (hR.err (by decide)))
  · refine v_iload_n h (i := 1) dX9_trace_4 (q := 5) rfl rfl 1 rfl ?_
    refine v_aload_n h (i := 0) dX9_trace_5 (q := 6) rfl rfl 0 rfl ?_
    refine v_get h (k := 8) (v := .ref (b_ad w 52)) cls9 hs.1.1 hs.1.2 (Nat.le_of_ble_eq_true rfl) m273 rfl dX9_trace_6 (q := 9) rfl ?_
    refine v_getN h (k := 1) (v := .int (σ 52 1)) cls8 hs.2.2.2.2.2.2.2.2.2.1.1.1 hs.2.2.2.2.2.2.2.2.2.1.1.2 (Nat.le_of_ble_eq_true rfl) m197 rfl dX9_trace_9 (q := 12) rfl ?_
    rw [show (σ 52 1 : Int32) = nI A.2.2.2.2.1.1 from hR.tr.1]
    refine v_icmp_ge h (t := 27) dX9_trace_12 (by decide) (q := 15) rfl (fun c12 => ?_) (fun c12 => ?_)
    · refine v_aload_n h (i := 0) dX9_trace_27 (q := 28) rfl rfl 0 rfl ?_
      refine v_iconst h (v := 2) dX9_trace_28 (q := 29) rfl (by decide) ?_
      refine v_callV h (As := [.int 2]) (rest := []) (c_ref (σ := σ) hs (e := 2) (by decide) rfl) cal_X9_refuse calV_X9_refuse m315 ⟨rfl, rfl, Nat.le_of_ble_eq_true rfl, Nat.le_of_ble_eq_true rfl⟩ rfl hs.1.1 hs.1.2 ⟨_, _, rfl⟩ rfl (Nat.le_of_ble_eq_true rfl) dX9_trace_29 (q := 32) rfl (kI ?_)
      exact v_iret h dX9_trace_32 (pA_of (by unfold oTrace; rw [if_neg (fun z => by first | exact absurd z.1 (by rw [i_lt] at c1; have : (0 : Int32).toInt = 0 := rfl; omega) | exact absurd z.2 (by rw [i_le, nI_toInt (by have := hR.tr.2.1; omega)] at c12; omega))]; rfl) (hR.err (by decide)))
    · have hin : inN i A.2.2.2.2.1.1 := ⟨by rw [i_lt] at c1; have : (0 : Int32).toInt = 0 := rfl; omega, by rw [i_le, nI_toInt (by have := hR.tr.2.1; omega)] at c12; omega⟩
      refine v_iload_n h (i := 1) dX9_trace_15 (q := 16) rfl rfl 1 rfl ?_
      refine v_aload_n h (i := 0) dX9_trace_16 (q := 17) rfl rfl 0 rfl ?_
      refine v_get h (k := 8) (v := .ref (b_ad w 52)) cls9 hs.1.1 hs.1.2 (Nat.le_of_ble_eq_true rfl) m273 rfl dX9_trace_17 (q := 20) rfl ?_
      refine v_getN h (k := 0) (v := .ref (b_ad w 53)) cls8 hs.2.2.2.2.2.2.2.2.2.1.1.1 hs.2.2.2.2.2.2.2.2.2.1.1.2 (Nat.le_of_ble_eq_true rfl) m195 rfl dX9_trace_20 (q := 23) rfl ?_
      refine v_aleni h (v := 40) hs.2.2.2.2.2.2.2.2.2.1.2.1 hs.2.2.2.2.2.2.2.2.2.1.2.2 rfl dX9_trace_23 (q := 24) rfl ?_
      refine v_icmp_lt h (t := 33) dX9_trace_24 (by decide) (q := 27) rfl (fun c24 => ?_) (fun c24 => absurd (by obtain ⟨u, hu, e⟩ := inN_nI hin; rw [e]; exact nltl (k := 40) rfl (by have := hR.tr.2.1; omega) (by decide)) c24)
      obtain ⟨u, hu, rfl⟩ := inN_nI hin
      refine v_aload_n h (i := 0) dX9_trace_33 (q := 34) rfl rfl 0 rfl ?_
      refine v_get h (k := 8) (v := .ref (b_ad w 52)) cls9 hs.1.1 hs.1.2 (Nat.le_of_ble_eq_true rfl) m273 rfl dX9_trace_34 (q := 37) rfl ?_
      refine v_getN h (k := 0) (v := .ref (b_ad w 53)) cls8 hs.2.2.2.2.2.2.2.2.2.1.1.1 hs.2.2.2.2.2.2.2.2.2.1.1.2 (Nat.le_of_ble_eq_true rfl) m195 rfl dX9_trace_37 (q := 40) rfl ?_
      refine v_iload_n h (i := 1) dX9_trace_40 (q := 41) rfl rfl 1 rfl ?_
      refine v_iald h (k := u) hs.2.2.2.2.2.2.2.2.2.1.2.1 hs.2.2.2.2.2.2.2.2.2.1.2.2 (vp_in_nI (by have := hR.tr.2.1; omega) (by decide)) (nI_clamp (by have := hR.tr.2.1; omega)) dX9_trace_41 (q := 42) rfl ?_
      exact v_iret h dX9_trace_42 (pA_of (by unfold oTrace; rw [if_pos hin, cl_nI (by have := hR.tr.2.1; omega), hR.tr.2.2 u (by have := hR.tr.2.1; omega)]) hR)

set_option maxHeartbeats 4000000 in
set_option maxRecDepth 100000 in
theorem c_X9_count {w : bw} {σ : bSt} {A : bA} {what : Int32} (hs : sOpera w) (hR : RC σ A) : MV yX9_count cX9_count 2 (some .int) (rmm 3 66) w [.ref (b_ad w 0), .int what] σ (pA (oCount what A)) := by
  refine b_met (ls := [(0, .ref (b_ad w 0)), (1, .int what)]) (by decide) (Nat.le_of_ble_eq_true rfl) rfl (fun x h => ?_)
  refine v_iload_n h (i := 1) dX9_count_0 (q := 1) rfl rfl 1 rfl ?_
  by_cases e1_0 : what = (0 : Int32)
  · refine v_tableIn h (off := 59) (t := 60) dX9_count_1 (by rw [e1_0]; decide) (by rw [e1_0]; decide) (by rw [e1_0]; rfl) (by decide) ?_
    refine v_aload_n h (i := 0) dX9_count_60 (q := 61) rfl rfl 0 rfl ?_
    refine v_get h (k := 1) (v := .ref (b_ad w 10)) cls9 hs.1.1 hs.1.2 (Nat.le_of_ble_eq_true rfl) m266 rfl dX9_count_61 (q := 64) rfl ?_
    refine v_getN h (k := 0) (v := .int (σ 10 0)) cls6 hs.2.2.1.1.1 hs.2.2.1.1.2 (Nat.le_of_ble_eq_true rfl) m113 rfl dX9_count_64 (q := 67) rfl ?_
    exact v_iret h dX9_count_67 (pA_of (by unfold oCount; rw [if_pos e1_0, ← hR.vwE]; rfl) hR)
  by_cases e1_1 : what = (1 : Int32)
  · refine v_tableIn h (off := 67) (t := 68) dX9_count_1 (by rw [e1_1]; decide) (by rw [e1_1]; decide) (by rw [e1_1]; rfl) (by decide) ?_
    refine v_aload_n h (i := 0) dX9_count_68 (q := 69) rfl rfl 0 rfl ?_
    refine v_get h (k := 1) (v := .ref (b_ad w 10)) cls9 hs.1.1 hs.1.2 (Nat.le_of_ble_eq_true rfl) m266 rfl dX9_count_69 (q := 72) rfl ?_
    refine v_getN h (k := 3) (v := .ref (b_ad w 11)) cls6 hs.2.2.1.1.1 hs.2.2.1.1.2 (Nat.le_of_ble_eq_true rfl) m120 rfl dX9_count_72 (q := 75) rfl ?_
    refine v_getN h (k := 0) (v := .int (σ 11 0)) cls0 hs.2.2.1.2.1.1.1 hs.2.2.1.2.1.1.2 (Nat.le_of_ble_eq_true rfl) m88 rfl dX9_count_75 (q := 78) rfl ?_
    exact v_iret h dX9_count_78 (pA_of (by unfold oCount; rw [if_neg e1_0, if_pos e1_1, ← hR.vwE]; rfl) hR)
  by_cases e1_2 : what = (2 : Int32)
  · refine v_tableIn h (off := 78) (t := 79) dX9_count_1 (by rw [e1_2]; decide) (by rw [e1_2]; decide) (by rw [e1_2]; rfl) (by decide) ?_
    refine v_aload_n h (i := 0) dX9_count_79 (q := 80) rfl rfl 0 rfl ?_
    refine v_get h (k := 1) (v := .ref (b_ad w 10)) cls9 hs.1.1 hs.1.2 (Nat.le_of_ble_eq_true rfl) m266 rfl dX9_count_80 (q := 83) rfl ?_
    refine v_getN h (k := 4) (v := .int (σ 10 4)) cls6 hs.2.2.1.1.1 hs.2.2.1.1.2 (Nat.le_of_ble_eq_true rfl) m122 rfl dX9_count_83 (q := 86) rfl ?_
    exact v_iret h dX9_count_86 (pA_of (by unfold oCount; rw [if_neg e1_0, if_neg e1_1, if_pos e1_2, ← hR.vwE]; rfl) hR)
  by_cases e1_3 : what = (3 : Int32)
  · refine v_tableIn h (off := 86) (t := 87) dX9_count_1 (by rw [e1_3]; decide) (by rw [e1_3]; decide) (by rw [e1_3]; rfl) (by decide) ?_
    refine v_aload_n h (i := 0) dX9_count_87 (q := 88) rfl rfl 0 rfl ?_
    refine v_get h (k := 1) (v := .ref (b_ad w 10)) cls9 hs.1.1 hs.1.2 (Nat.le_of_ble_eq_true rfl) m266 rfl dX9_count_88 (q := 91) rfl ?_
    refine v_getN h (k := 3) (v := .ref (b_ad w 11)) cls6 hs.2.2.1.1.1 hs.2.2.1.1.2 (Nat.le_of_ble_eq_true rfl) m120 rfl dX9_count_91 (q := 94) rfl ?_
    refine v_aload_n h (i := 0) dX9_count_94 (q := 95) rfl rfl 0 rfl ?_
    refine v_get h (k := 1) (v := .ref (b_ad w 10)) cls9 hs.1.1 hs.1.2 (Nat.le_of_ble_eq_true rfl) m266 rfl dX9_count_95 (q := 98) rfl ?_
    refine v_callV h (As := []) (rest := [.ref (b_ad w 11)]) (c_X6_pieceBeat (me := 10) (σ := σ) hs.2.2.1 ) cal_X6_pieceBeat calV_X6_pieceBeat m346 ⟨rfl, rfl, Nat.le_of_ble_eq_true rfl, Nat.le_of_ble_eq_true rfl⟩ rfl hs.2.2.1.1.1 hs.2.2.1.1.2 ⟨_, _, rfl⟩ rfl (Nat.le_of_ble_eq_true rfl) dX9_count_98 (q := 101) rfl (kI ?_)
    refine v_callV h (As := [.int (σ 10 0 &&& 31)]) (rest := []) (c_X0_singers (me := 11) (σ := σ) (t := σ 10 0 &&& 31) hs.2.2.1.2.1) cal_X0_singers calV_X0_singers m830 ⟨rfl, rfl, Nat.le_of_ble_eq_true rfl, Nat.le_of_ble_eq_true rfl⟩ rfl hs.2.2.1.2.1.1.1 hs.2.2.1.2.1.1.2 ⟨_, _, rfl⟩ rfl (Nat.le_of_ble_eq_true rfl) dX9_count_101 (q := 104) rfl (kI ?_)
    refine v_callS h (As := [.int (sngF σ 11 (σ 10 0 &&& 31) 9)]) (rest := []) (c_J6_bitCount_0f7a4 (v := sngF σ 11 (σ 10 0 &&& 31) 9)) cal_J6_bitCount_0f7a4 m450 m791 ⟨rfl, rfl, Nat.le_of_ble_eq_true rfl, Nat.le_of_ble_eq_true rfl⟩ rfl rfl (Nat.le_of_ble_eq_true rfl) dX9_count_104 (q := 107) rfl (kI ?_)
    exact v_iret h dX9_count_107 (pA_of (by unfold oCount; rw [if_neg e1_0, if_neg e1_1, if_neg e1_2, if_pos e1_3, sng_eq hR]) hR)
  by_cases e1_4 : what = (4 : Int32)
  · refine v_tableIn h (off := 107) (t := 108) dX9_count_1 (by rw [e1_4]; decide) (by rw [e1_4]; decide) (by rw [e1_4]; rfl) (by decide) ?_
    refine v_aload_n h (i := 0) dX9_count_108 (q := 109) rfl rfl 0 rfl ?_
    refine v_get h (k := 1) (v := .ref (b_ad w 10)) cls9 hs.1.1 hs.1.2 (Nat.le_of_ble_eq_true rfl) m266 rfl dX9_count_109 (q := 112) rfl ?_
    refine v_getN h (k := 1) (v := .int (σ 10 1)) cls6 hs.2.2.1.1.1 hs.2.2.1.1.2 (Nat.le_of_ble_eq_true rfl) m115 rfl dX9_count_112 (q := 115) rfl ?_
    exact v_iret h dX9_count_115 (pA_of (by unfold oCount; rw [if_neg e1_0, if_neg e1_1, if_neg e1_2, if_neg e1_3, if_pos e1_4, ← hR.vwE]; rfl) hR)
  by_cases e1_5 : what = (5 : Int32)
  · refine v_tableIn h (off := 115) (t := 116) dX9_count_1 (by rw [e1_5]; decide) (by rw [e1_5]; decide) (by rw [e1_5]; rfl) (by decide) ?_
    refine v_aload_n h (i := 0) dX9_count_116 (q := 117) rfl rfl 0 rfl ?_
    refine v_get h (k := 1) (v := .ref (b_ad w 10)) cls9 hs.1.1 hs.1.2 (Nat.le_of_ble_eq_true rfl) m266 rfl dX9_count_117 (q := 120) rfl ?_
    refine v_callV h (As := []) (rest := []) (c_X6_allCoins (me := 10) (σ := σ) hs.2.2.1 ) cal_X6_allCoins calV_X6_allCoins m831 ⟨rfl, rfl, Nat.le_of_ble_eq_true rfl, Nat.le_of_ble_eq_true rfl⟩ rfl hs.2.2.1.1.1 hs.2.2.1.1.2 ⟨_, _, rfl⟩ rfl (Nat.le_of_ble_eq_true rfl) dX9_count_120 (q := 123) rfl (kI ?_)
    exact v_iret h dX9_count_123 (pA_of (by unfold oCount; rw [if_neg e1_0, if_neg e1_1, if_neg e1_2, if_neg e1_3, if_neg e1_4, if_pos e1_5, coN_eq hR 6 (by omega)]) hR)
  by_cases e1_6 : what = (6 : Int32)
  · refine v_tableIn h (off := 123) (t := 124) dX9_count_1 (by rw [e1_6]; decide) (by rw [e1_6]; decide) (by rw [e1_6]; rfl) (by decide) ?_
    refine v_aload_n h (i := 0) dX9_count_124 (q := 125) rfl rfl 0 rfl ?_
    refine v_get h (k := 0) (v := .ref (b_ad w 1)) cls9 hs.1.1 hs.1.2 (Nat.le_of_ble_eq_true rfl) m265 rfl dX9_count_125 (q := 128) rfl ?_
    refine v_getN h (k := 0) (v := .int (σ 1 0)) cls3 hs.2.1.1.1 hs.2.1.1.2 (Nat.le_of_ble_eq_true rfl) m57 rfl dX9_count_128 (q := 131) rfl ?_
    exact v_iret h dX9_count_131 (pA_of (by unfold oCount; rw [if_neg e1_0, if_neg e1_1, if_neg e1_2, if_neg e1_3, if_neg e1_4, if_neg e1_5, if_pos e1_6, ← hR.vwE]; rfl) hR)
  by_cases e1_7 : what = (7 : Int32)
  · refine v_tableIn h (off := 131) (t := 132) dX9_count_1 (by rw [e1_7]; decide) (by rw [e1_7]; decide) (by rw [e1_7]; rfl) (by decide) ?_
    refine v_aload_n h (i := 0) dX9_count_132 (q := 133) rfl rfl 0 rfl ?_
    refine v_get h (k := 2) (v := .ref (b_ad w 19)) cls9 hs.1.1 hs.1.2 (Nat.le_of_ble_eq_true rfl) m267 rfl dX9_count_133 (q := 136) rfl ?_
    refine v_getN h (k := 1) (v := .int (σ 19 1)) cls1 hs.2.2.2.1.1.1 hs.2.2.2.1.1.2 (Nat.le_of_ble_eq_true rfl) m154 rfl dX9_count_136 (q := 139) rfl ?_
    exact v_iret h dX9_count_139 (pA_of (by unfold oCount; rw [if_neg e1_0, if_neg e1_1, if_neg e1_2, if_neg e1_3, if_neg e1_4, if_neg e1_5, if_neg e1_6, if_pos e1_7, hR.fed.1]) hR)
  by_cases e1_8 : what = (8 : Int32)
  · refine v_tableIn h (off := 139) (t := 140) dX9_count_1 (by rw [e1_8]; decide) (by rw [e1_8]; decide) (by rw [e1_8]; rfl) (by decide) ?_
    refine v_aload_n h (i := 0) dX9_count_140 (q := 141) rfl rfl 0 rfl ?_
    refine v_get h (k := 2) (v := .ref (b_ad w 19)) cls9 hs.1.1 hs.1.2 (Nat.le_of_ble_eq_true rfl) m267 rfl dX9_count_141 (q := 144) rfl ?_
    refine v_getN h (k := 3) (v := .int (σ 19 3)) cls1 hs.2.2.2.1.1.1 hs.2.2.2.1.1.2 (Nat.le_of_ble_eq_true rfl) m158 rfl dX9_count_144 (q := 147) rfl ?_
    exact v_iret h dX9_count_147 (pA_of (by unfold oCount; rw [if_neg e1_0, if_neg e1_1, if_neg e1_2, if_neg e1_3, if_neg e1_4, if_neg e1_5, if_neg e1_6, if_neg e1_7, if_pos e1_8, hR.wt.1]) hR)
  by_cases e1_9 : what = (9 : Int32)
  · refine v_tableIn h (off := 147) (t := 148) dX9_count_1 (by rw [e1_9]; decide) (by rw [e1_9]; decide) (by rw [e1_9]; rfl) (by decide) ?_
    refine v_aload_n h (i := 0) dX9_count_148 (q := 149) rfl rfl 0 rfl ?_
    refine v_get h (k := 8) (v := .ref (b_ad w 52)) cls9 hs.1.1 hs.1.2 (Nat.le_of_ble_eq_true rfl) m273 rfl dX9_count_149 (q := 152) rfl ?_
    refine v_getN h (k := 1) (v := .int (σ 52 1)) cls8 hs.2.2.2.2.2.2.2.2.2.1.1.1 hs.2.2.2.2.2.2.2.2.2.1.1.2 (Nat.le_of_ble_eq_true rfl) m197 rfl dX9_count_152 (q := 155) rfl ?_
    exact v_iret h dX9_count_155 (pA_of (by unfold oCount; rw [if_neg e1_0, if_neg e1_1, if_neg e1_2, if_neg e1_3, if_neg e1_4, if_neg e1_5, if_neg e1_6, if_neg e1_7, if_neg e1_8, if_pos e1_9, hR.tr.1]) hR)
  by_cases e1_10 : what = (10 : Int32)
  · refine v_tableIn h (off := 155) (t := 156) dX9_count_1 (by rw [e1_10]; decide) (by rw [e1_10]; decide) (by rw [e1_10]; rfl) (by decide) ?_
    refine v_aload_n h (i := 0) dX9_count_156 (q := 157) rfl rfl 0 rfl ?_
    refine v_get h (k := 1) (v := .ref (b_ad w 10)) cls9 hs.1.1 hs.1.2 (Nat.le_of_ble_eq_true rfl) m266 rfl dX9_count_157 (q := 160) rfl ?_
    refine v_getN h (k := 2) (v := .int (σ 10 2)) cls6 hs.2.2.1.1.1 hs.2.2.1.1.2 (Nat.le_of_ble_eq_true rfl) m117 rfl dX9_count_160 (q := 163) rfl ?_
    exact v_iret h dX9_count_163 (pA_of (by unfold oCount; rw [if_neg e1_0, if_neg e1_1, if_neg e1_2, if_neg e1_3, if_neg e1_4, if_neg e1_5, if_neg e1_6, if_neg e1_7, if_neg e1_8, if_neg e1_9, if_pos e1_10, ← hR.vwE]; rfl) hR)
  have e1_0i := sw_ne e1_0 (z := 0) (by decide)
  have e1_1i := sw_ne e1_1 (z := 1) (by decide)
  have e1_2i := sw_ne e1_2 (z := 2) (by decide)
  have e1_3i := sw_ne e1_3 (z := 3) (by decide)
  have e1_4i := sw_ne e1_4 (z := 4) (by decide)
  have e1_5i := sw_ne e1_5 (z := 5) (by decide)
  have e1_6i := sw_ne e1_6 (z := 6) (by decide)
  have e1_7i := sw_ne e1_7 (z := 7) (by decide)
  have e1_8i := sw_ne e1_8 (z := 8) (by decide)
  have e1_9i := sw_ne e1_9 (z := 9) (by decide)
  have e1_10i := sw_ne e1_10 (z := 10) (by decide)
  refine v_tableOut h (t := 164) dX9_count_1 (by omega) (by decide) ?_
  refine v_aload_n h (i := 0) dX9_count_164 (q := 165) rfl rfl 0 rfl ?_
  refine v_iconst h (v := 1) dX9_count_165 (q := 166) rfl (by decide) ?_
  refine v_callV h (As := [.int 1]) (rest := []) (c_ref (σ := σ) hs (e := 1) (by decide) rfl) cal_X9_refuse calV_X9_refuse m315 ⟨rfl, rfl, Nat.le_of_ble_eq_true rfl, Nat.le_of_ble_eq_true rfl⟩ rfl hs.1.1 hs.1.2 ⟨_, _, rfl⟩ rfl (Nat.le_of_ble_eq_true rfl) dX9_count_166 (q := 169) rfl (kI ?_)
  exact v_iret h dX9_count_169 (pA_of (by unfold oCount; rw [if_neg e1_0, if_neg e1_1, if_neg e1_2, if_neg e1_3, if_neg e1_4, if_neg e1_5, if_neg e1_6, if_neg e1_7, if_neg e1_8, if_neg e1_9, if_neg e1_10]; rfl) (hR.err (by decide)))

set_option maxHeartbeats 4000000 in
set_option maxRecDepth 100000 in
theorem lX9_goOn_40 {w : bw} {σ : bSt} {A : bA} {lo : Bool} {lv n : Int32} (hs : sOpera w) (hR : RC σ A) (hlo : decide (¬ lv = 0) = lo) {x : bX} (h : Cx x w cX9_goOn RX9 4 (some .int) (rmm 6 155)) : ∀ k : Nat, btOf A.1.1 + k ≤ 9999 → wj n 1 128 → n = nI k → ∀ m i : Nat, i + m = k → ∀ τ : bSt, gon lo 10 σ A.1.1 (gvT A.1.2.1) i τ → V x w 4 (pA (oGo lo n A)) 40 [(3, .int (nI i)), (0, .ref (b_ad w 0)), (1, .int (nI k)), (2, .int lv)] [] τ := by
  intro k hbn hwn hnk
  have hbt := hR.1.2.1.bt
  refine b_ind (fun m ih => ?_)
  intro i him τ hg
  have hiv := IvN_go (lo := lo) (gvT_B A.1.2.1) hR.1.2.1.1 hbt.1 i (by omega)
  have hgv : gvS τ 1 = gvT A.1.2.1 := by rw [gvS_off hg.2.2 (by decide)]; exact hR.gv
  refine v_iload_n h (i := 3) dX9_goOn_40 (q := 41) rfl rfl 0 rfl ?_
  refine v_iload_n h (i := 1) dX9_goOn_41 (q := 42) rfl rfl 2 rfl ?_
  refine v_icmp_ge h (t := 63) dX9_goOn_42 (by decide) (q := 45) rfl (fun c42 => ?_) (fun c42 => ?_)
  · refine v_aload_n h (i := 0) dX9_goOn_63 (q := 64) rfl rfl 1 rfl ?_
    refine v_get h (k := 1) (v := .ref (b_ad w 10)) cls9 hs.1.1 hs.1.2 (Nat.le_of_ble_eq_true rfl) m266 rfl dX9_goOn_64 (q := 67) rfl ?_
    refine v_getN h (k := 1) (v := .int (τ 10 1)) cls6 hs.2.2.1.1.1 hs.2.2.1.1.2 (Nat.le_of_ble_eq_true rfl) m115 rfl dX9_goOn_67 (q := 70) rfl ?_
    exact v_iret h dX9_goOn_70 (pA_of (by subst hnk; unfold oGo; rw [if_pos hwn, cl_nI (by omega), if_pos hbn, show τ 10 1 = vw τ 10 1 6 from rfl, hg.1, show i = k by have := nge (k := k) (nI_toInt (by omega)) (by omega) c42; omega]) (hR.go (show gon lo 10 σ A.1.1 (gvT A.1.2.1) k τ by rw [show k = i by have := nge (k := k) (nI_toInt (by omega)) (by omega) c42; omega]; exact hg) hbn))
  · have hik : i < k := nlt (nI_toInt (by omega)) (by omega) c42
    refine v_aload_n h (i := 0) dX9_goOn_45 (q := 46) rfl rfl 1 rfl ?_
    refine v_get h (k := 1) (v := .ref (b_ad w 10)) cls9 hs.1.1 hs.1.2 (Nat.le_of_ble_eq_true rfl) m266 rfl dX9_goOn_46 (q := 49) rfl ?_
    refine v_aload_n h (i := 0) dX9_goOn_49 (q := 50) rfl rfl 1 rfl ?_
    refine v_get h (k := 0) (v := .ref (b_ad w 1)) cls9 hs.1.1 hs.1.2 (Nat.le_of_ble_eq_true rfl) m265 rfl dX9_goOn_50 (q := 53) rfl ?_
    refine v_iload_n h (i := 2) dX9_goOn_53 (q := 54) rfl rfl 3 rfl ?_
    refine v_callV h (As := [.ref (b_ad w 1), .int lv]) (rest := []) (c_X6_goBy (me := 10) (L := 1) (lo := lv) (σ := τ) hs.2.2.1 hs.2.1 (okL_off hg.2.2 (by decide) hR.ok) hg.2.1 (by rw [hg.1]; exact hiv.1) (by decide) ⟨btOf A.1.1 + i, by omega, by rw [← hiv.2, ← hg.1]; rfl⟩) cal_X6_goBy calV_X6_goBy m554 ⟨rfl, rfl, Nat.le_of_ble_eq_true rfl, Nat.le_of_ble_eq_true rfl⟩ rfl hs.2.2.1.1.1 hs.2.2.1.1.2 ⟨_, _, rfl⟩ rfl (Nat.le_of_ble_eq_true rfl) dX9_goOn_54 (q := 57) rfl (kV (fun σ54 h54 => ?_))
    refine v_iinc h (p := 0) (u := nI (i + 1)) (ls1 := [(3, .int (nI (i + 1))), (0, .ref (b_ad w 0)), (1, .int (nI k)), (2, .int lv)]) dX9_goOn_57 (q := 60) rfl rfl (nI_1 i) (Nat.le_of_ble_eq_true rfl) rfl ?_
    refine v_goto h (t := 40) dX9_goOn_60 (by decide) ?_
    exact ih (m - 1) (by omega) (i + 1) (by omega) σ54 (gon_s hg hlo hgv h54)
set_option maxHeartbeats 4000000 in
set_option maxRecDepth 100000 in
theorem c_X9_goOn {w : bw} {σ : bSt} {A : bA} {lo : Bool} {lv n : Int32} (hs : sOpera w) (hR : RC σ A) (hlo : decide (¬ lv = 0) = lo) : MV yX9_goOn cX9_goOn 4 (some .int) (rmm 6 155) w [.ref (b_ad w 0), .int n, .int lv] σ (pA (oGo lo n A)) := by
  refine b_met (ls := [(0, .ref (b_ad w 0)), (1, .int n), (2, .int lv)]) (by decide) (Nat.le_of_ble_eq_true rfl) rfl (fun x h => ?_)
  refine v_iload_n h (i := 1) dX9_goOn_0 (q := 1) rfl rfl 1 rfl ?_
  refine v_iconst h (v := 1) dX9_goOn_1 (q := 2) rfl (by decide) ?_
  refine v_sipush h (v := 128) dX9_goOn_2 (q := 5) rfl (by decide) ?_
  refine v_callS h (As := [.int n, .int 1, .int 128]) (rest := []) (c_X9_within (v := n) (l := 1) (m := 128)) cal_X9_within m313 m312 ⟨rfl, rfl, Nat.le_of_ble_eq_true rfl, Nat.le_of_ble_eq_true rfl⟩ rfl rfl (Nat.le_of_ble_eq_true rfl) dX9_goOn_5 (q := 8) rfl (kB (fun c5 => ?_) (fun c5 => ?_))
  · refine v_if_ne h (t := 17) dX9_goOn_8 (by decide) (q := 11) rfl (fun _ => ?_) (fun c => absurd c (by decide))
    obtain ⟨k, hk1, hk8, rfl⟩ := wi_1 (n := 128) c5 rfl
    have hbt := hR.1.2.1.bt
    refine v_aload_n h (i := 0) dX9_goOn_17 (q := 18) rfl rfl 0 rfl ?_
    refine v_get h (k := 1) (v := .ref (b_ad w 10)) cls9 hs.1.1 hs.1.2 (Nat.le_of_ble_eq_true rfl) m266 rfl dX9_goOn_18 (q := 21) rfl ?_
    refine v_getN h (k := 0) (v := .int (σ 10 0)) cls6 hs.2.2.1.1.1 hs.2.2.1.1.2 (Nat.le_of_ble_eq_true rfl) m113 rfl dX9_goOn_21 (q := 24) rfl ?_
    rw [show (σ 10 0 : Int32) = nI (btOf A.1.1) from (by rw [← hbt.1, ← hR.vwE]; rfl)]
    refine v_iload_n h (i := 1) dX9_goOn_24 (q := 25) rfl rfl 1 rfl ?_
    refine v_iadd h dX9_goOn_25 (q := 26) rfl ?_
    rw [show ((nI (btOf A.1.1)) + (nI k) : Int32) = nI (btOf A.1.1 + k) from (nI_add _ k)]
    refine v_sipush h (v := 9999) dX9_goOn_26 (q := 29) rfl (by decide) ?_
    refine v_icmp_le h (t := 38) dX9_goOn_29 (by decide) (q := 32) rfl (fun c29 => ?_) (fun c29 => ?_)
    · have hbn : btOf A.1.1 + k ≤ 9999 := (nI_leI (by omega) (by decide)).mp c29
      refine v_iconst h (v := 0) dX9_goOn_38 (q := 39) rfl (by decide) ?_
      refine v_istore_n h (i := 3) (ls1 := [(3, .int 0), (0, .ref (b_ad w 0)), (1, .int (nI k)), (2, .int lv)]) dX9_goOn_39 (q := 40) rfl rfl (Nat.le_of_ble_eq_true rfl) rfl ?_
      exact lX9_goOn_40 hs hR hlo h k hbn c5 rfl k 0 (by omega) σ ⟨hR.vwE, hR.ca, offS_rfl⟩
    · refine v_aload_n h (i := 0) dX9_goOn_32 (q := 33) rfl rfl 0 rfl ?_
      refine v_iconst h (v := 3) dX9_goOn_33 (q := 34) rfl (by decide) ?_
      refine v_callV h (As := [.int 3]) (rest := []) (c_ref (σ := σ) hs (e := 3) (by decide) rfl) cal_X9_refuse calV_X9_refuse m315 ⟨rfl, rfl, Nat.le_of_ble_eq_true rfl, Nat.le_of_ble_eq_true rfl⟩ rfl hs.1.1 hs.1.2 ⟨_, _, rfl⟩ rfl (Nat.le_of_ble_eq_true rfl) dX9_goOn_34 (q := 37) rfl (kI ?_)
      exact v_iret h dX9_goOn_37 (pA_of (by unfold oGo; rw [if_pos (show wj (nI k) 1 128 from c5), if_neg (fun z => by first | exact c29 ((nI_leI (b := 9999) (by omega) (by decide)).mpr (by rw [cl_nI (by omega)] at z; exact z)))]; rfl) (hR.err (by decide)))
  · refine v_if_ne h (t := 17) dX9_goOn_8 (by decide) (q := 11) rfl (fun c => absurd (by decide) c) (fun _ => ?_)
    refine v_aload_n h (i := 0) dX9_goOn_11 (q := 12) rfl rfl 0 rfl ?_
    refine v_iconst h (v := 1) dX9_goOn_12 (q := 13) rfl (by decide) ?_
    refine v_callV h (As := [.int 1]) (rest := []) (c_ref (σ := σ) hs (e := 1) (by decide) rfl) cal_X9_refuse calV_X9_refuse m315 ⟨rfl, rfl, Nat.le_of_ble_eq_true rfl, Nat.le_of_ble_eq_true rfl⟩ rfl hs.1.1 hs.1.2 ⟨_, _, rfl⟩ rfl (Nat.le_of_ble_eq_true rfl) dX9_goOn_13 (q := 16) rfl (kI ?_)
    exact v_iret h dX9_goOn_16 (pA_of (by unfold oGo; rw [if_neg (fun z => by first | exact c5 z)]; rfl) (hR.err (by decide)))

set_option maxHeartbeats 4000000 in
set_option maxRecDepth 100000 in
theorem c_X9_beats {w : bw} {σ : bSt} {A : bA} {n : Int32} (hs : sOpera w) (hR : RC σ A) : MV yX9_beats cX9_beats 2 (some .int) (rmm 7 178) w [.ref (b_ad w 0), .int n] σ (pA (oGo false n A)) := by
  refine b_met (ls := [(0, .ref (b_ad w 0)), (1, .int n)]) (by decide) (Nat.le_of_ble_eq_true rfl) rfl (fun x h => ?_)
  refine v_aload_n h (i := 0) dX9_beats_0 (q := 1) rfl rfl 0 rfl ?_
  refine v_iload_n h (i := 1) dX9_beats_1 (q := 2) rfl rfl 1 rfl ?_
  refine v_iconst h (v := 0) dX9_beats_2 (q := 3) rfl (by decide) ?_
  refine v_callV h (As := [.int n, .int 0]) (rest := []) (c_X9_goOn (A := A) (lo := false) (lv := 0) (n := n) (σ := σ) hs hR (by decide)) cal_X9_goOn calV_X9_goOn m550 ⟨rfl, rfl, Nat.le_of_ble_eq_true rfl, Nat.le_of_ble_eq_true rfl⟩ rfl hs.1.1 hs.1.2 ⟨_, _, rfl⟩ rfl (Nat.le_of_ble_eq_true rfl) dX9_beats_3 (q := 6) rfl (kA (fun σ3 h3 => ?_))
  exact v_iret h dX9_beats_6 ⟨rfl, h3⟩

set_option maxHeartbeats 4000000 in
set_option maxRecDepth 100000 in
theorem c_X9_loose {w : bw} {σ : bSt} {A : bA} {n : Int32} (hs : sOpera w) (hR : RC σ A) : MV yX9_loose cX9_loose 2 (some .int) (rmm 7 178) w [.ref (b_ad w 0), .int n] σ (pA (oGo true n A)) := by
  refine b_met (ls := [(0, .ref (b_ad w 0)), (1, .int n)]) (by decide) (Nat.le_of_ble_eq_true rfl) rfl (fun x h => ?_)
  refine v_aload_n h (i := 0) dX9_loose_0 (q := 1) rfl rfl 0 rfl ?_
  refine v_iload_n h (i := 1) dX9_loose_1 (q := 2) rfl rfl 1 rfl ?_
  refine v_iconst h (v := 1) dX9_loose_2 (q := 3) rfl (by decide) ?_
  refine v_callV h (As := [.int n, .int 1]) (rest := []) (c_X9_goOn (A := A) (lo := true) (lv := 1) (n := n) (σ := σ) hs hR (by decide)) cal_X9_goOn calV_X9_goOn m550 ⟨rfl, rfl, Nat.le_of_ble_eq_true rfl, Nat.le_of_ble_eq_true rfl⟩ rfl hs.1.1 hs.1.2 ⟨_, _, rfl⟩ rfl (Nat.le_of_ble_eq_true rfl) dX9_loose_3 (q := 6) rfl (kA (fun σ3 h3 => ?_))
  exact v_iret h dX9_loose_6 ⟨rfl, h3⟩
