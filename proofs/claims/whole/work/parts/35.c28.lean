/-! what is in time, out of a look out -/
theorem WT.hb2 {A : bA} {N : bN} {n m : Nat} {τ : bSt} (h : WT A N n m τ) (hI : IvB N) : τ 69 1 = nI (btOf N) ∧ btOf N + 128 < 20000 ∧ τ 69 2 = nI n := by
  have := hI.bt
  exact ⟨by rw [h.2.1.1]; exact this.1, by omega, h.2.1.2.1⟩
theorem sc_val {A : bA} {M : bN} {n y vn : Nat} {τ : bSt} {r : Int32} (h : WT A M n 9 τ) (hI : IvB M) (e1 : M 1 = nI vn) (hn : n ≤ 128) (hr : r = nI (itF (fun k => lagC τ 1 (69 + 1) (69 + 8 + k) (nI y) (nI vn) (nI ((btOf M + k) % 32))) (τ (69 + 6)) n)) : r = nI (scN (gvT A.1.2.1) M (nI y) n) :=
  hr.trans (congrArg nI (it_sc h.2.1 h.2.2 hI.bt.1 e1 (by have := hI.bt.2; omega) hn h.1.gv hI.1.af n (Nat.le_refl n)))
theorem btOf_up {N : bN} {k : Nat} {v : Int32} (hk : k ≠ 0) : btOf (upd N k v) = btOf N := by unfold btOf; rw [upd_n (fun e => hk e.symm)]
theorem OB_up {τ : bSt} {N : bN} {n f d : Nat} {v : Int32} (h : OB τ N n) (hf : f < 4) (hd : d < 9) : OB (b_up τ (71 + f) d v) (upd N (12 + f + 4 * d) v) n := by
  obtain ⟨h1, h2, h3, h4, h5⟩ := h
  refine ⟨by rw [b_up_n (by omega), upd_n (by omega)]; exact h1, by rw [b_up_n (by omega)]; exact h2, by rw [b_up_n (by omega), upd_n (by omega)]; exact h3, fun g hg b hb => ?_, fun p hp => by rw [b_up_n (by omega), upd_n (by omega)]; exact h5 p hp⟩
  by_cases e : g = f
  · subst e
    rw [b_up_s]
    by_cases e2 : b = d
    · subst e2
      rw [upd_s, upd_s]
    · rw [upd_n e2, upd_n (by omega)]
      exact h4 g hg b hb
  · rw [b_up_n (by omega), upd_n (by omega)]
    exact h4 g hg b hb
section WTR
variable {A : bA} {N : bN} {n d f : Nat} {τ τ' : bSt} {v : Int32}
theorem WT_put (h : WT A N n 9 τ) (hf : f < 4) : RC (b_up τ (71 + f) d v) A :=
  h.1.scrE (fun j _ _ _ hj => b_up_n (by omega)) (cacheOK_at h.1.ca (fun j a c _ _ => b_up_n (by omega))) (h.1.ro.at (fun j a b => b_up_n (by omega)))
theorem WT_re (h : WT A N n 9 τ) (hn : n ≤ 128) (hd : d < 9) (hda : d < afN N) (hf : f = 2 ∨ f = 3) (hI : IvN (upd N (12 + f + 4 * d) v)) (s : slR 69 1 d (btOf N) (n + 1) (b_up τ (71 + f) d v) τ') : WT A (upd N (12 + f + 4 * d) v) n 9 τ' := by
  have hob := OB_up (v := v) h.2.1 (f := f) (d := d) (by omega) hd
  refine ⟨RC_sl (WT_put h (by omega)) hob hI hd s, slR_ob hob s, ?_⟩
  rw [btOf_up (by omega)]
  exact SL_re (h.2.2.at hn (fun j a b => b_up_n (by omega))) hob hd hda (fun j a b => upd_n (by omega)) s
theorem WT_sp (h : WT A N n 9 τ) : WT A (upd N 1 v) n 9 τ := by
  refine ⟨h.1, ?_, ?_⟩
  · obtain ⟨h1, h2, h3, h4, h5⟩ := h.2.1
    exact ⟨by rw [upd_n (by omega)]; exact h1, h2, by rw [upd_n (by omega)]; exact h3, fun g hg b hb => by rw [upd_n (by omega)]; exact h4 g hg b hb, fun p hp => by rw [upd_n (by omega)]; exact h5 p hp⟩
  · rw [btOf_up (by omega)]
    exact SL_cg h.2.2 (upd_n (by omega)) (fun p hp => upd_n (by omega)) (fun b hb f hf => upd_n (by omega))
end WTR
theorem upd_upd {N : bN} {k : Nat} {x v : Int32} : upd (upd N k x) k v = upd N k v := by
  funext j
  unfold upd
  by_cases e : j = k
  · rw [if_pos e, if_pos e]
  · rw [if_neg e, if_neg e, if_neg e]
/-- the first of the greatest of the first n numbers -/
def fmN (f : Nat → Int32) : Nat → Nat
  | 0 => 0
  | n + 1 => if f (fmN f n) < f n then n else fmN f n
theorem fm_le {f : Nat → Int32} : ∀ n, fmN f n ≤ n
  | 0 => Nat.le_refl _
  | n + 1 => by
    have := fm_le (f := f) n
    rw [fmN]
    split <;> omega
theorem fm_lt {f : Nat → Int32} {n : Nat} (h : 0 < n) : fmN f n < n := by
  obtain ⟨m, rfl⟩ : ∃ m, n = m + 1 := ⟨n - 1, by omega⟩
  have := fm_le (f := f) m
  rw [fmN]
  split <;> omega
theorem fm_1 {f : Nat → Int32} : fmN f 1 = 0 := by
  have := fm_lt (f := f) (n := 1) (by decide)
  omega
theorem fm_cg {f g : Nat → Int32} : ∀ n, (∀ k, k < n → f k = g k) → fmN f n = fmN g n
  | 0, _ => rfl
  | n + 1, h => by
    have hl := fm_le (f := g) n
    rw [fmN, fmN, fm_cg n (fun k hk => h k (by omega)), h n (by omega), h _ (by omega)]
def spF (A : bA) (n : Nat) : Nat → Int32 := fun c => nI (scN (gvT A.1.2.1) A.1.1 (nI c) n)
def oPlace (n : Int32) (A : bA) : Int32 × bA := if wj n 0 128 then (nI (fmN (spF A (cl n)) 64), A) else refA 1 A
/-- the cells that score so much -/
def fhN (f : Nat → Int32) (most : Int32) : Nat → Int64
  | 0 => 0
  | c + 1 => if f c = most then fhN f most c ||| ((1 : Int64) <<< ((nI c).toInt64 &&& 63)) else fhN f most c
theorem fh_cg {f g : Nat → Int32} {m : Int32} : ∀ n, (∀ k, k < n → f k = g k) → fhN f m n = fhN g m n
  | 0, _ => rfl
  | n + 1, h => by rw [fhN, fhN, fh_cg n (fun k hk => h k (by omega)), h n (by omega)]
def oFromHere (n : Int32) (A : bA) : Int64 × bA := if wj n 0 128 then (fhN (spF A (cl n)) (spF A (cl n) (fmN (spF A (cl n)) 64)) 64, A) else ((refA 1 A).1.toInt64, (refA 1 A).2)
theorem fh_all {f g : Nat → Int32} (h : ∀ k, k < 64 → f k = g k) : fhN f (f (fmN f 64)) 64 = fhN g (g (fmN g 64)) 64 := by
  have e := fm_cg 64 h
  rw [e, h _ (fm_lt (by decide)), fh_cg 64 h]
def oMooring (b cell n : Int32) (A : bA) : Int32 × bA := if inN b (afN A.1.1) ∧ wj cell 0 63 ∧ wj n 0 128 then (nI (fmN (fun c => nI (scN (gvT A.1.2.1) (upd A.1.1 (14 + 4 * cl b) (nI c)) cell (cl n))) 64), A) else refA 1 A
def oSooner (b cell n : Int32) (A : bA) : Int32 × bA := if inN b (afN A.1.1) ∧ wj cell 0 63 ∧ wj n 0 128 then (nI (fmN (fun c => nI (scN (gvT A.1.2.1) (upd A.1.1 (15 + 4 * cl b) (rotR (A.1.1 (15 + 4 * cl b)) (nI c))) cell (cl n))) 32), A) else refA 1 A
def oFit (cell n : Int32) (A : bA) : Int32 × bA := if wj cell 0 63 ∧ wj n 0 128 then (nI (fmN (fun c => nI (scN (gvT A.1.2.1) (upd A.1.1 1 (nI (c + 1))) cell (cl n))) 9 + 1), A) else refA 1 A
theorem fm_leaf {f g : Nat → Int32} {k : Nat} {A : bA} (h : ∀ c, c < k → f c = g c) : (nI (fmN g k), A) = (nI (fmN f k), A) := by rw [fm_cg k h]
/-- one more score is set down -/
theorem scs_up {τ τ2 : bSt} {g : Nat → Int32} {i : Nat} {r : Int32} (h : ∀ c, c < i → τ 206 c = g c) (e : τ2 206 = τ 206) (hr : r = g i) : ∀ c, c < i + 1 → b_up τ2 206 i r 206 c = g c := by
  intro c hc
  rw [b_up_s]
  by_cases q : c = i
  · subst q
    rw [upd_s, hr]
  · rw [upd_n q, e]
    exact h c (by omega)

set_option maxHeartbeats 4000000 in
set_option maxRecDepth 100000 in
theorem lX9_watchAll_14 {w : bw} {σ : bSt} {A : bA} {n : Nat} (hs : sOpera w) (hR : RC σ A) (hn : n ≤ 128) {x : bX} (h : Cx x w cX9_watchAll RX9 3 none (rmm 5 118)) : ∀ m i : Nat, i + m = 9 → ∀ τ : bSt, WT A A.1.1 n i τ → V x w 3 (pV (fun τ => WT A A.1.1 n 9 τ)) 14 [(2, .int (nI i)), (0, .ref (b_ad w 0)), (1, .int (nI n))] [] τ := by
  refine b_ind (fun m ih => ?_)
  intro i him τ hW
  have h7 := hR.1.2.1.1.af
  refine v_iload_n h (i := 2) dX9_watchAll_14 (q := 15) rfl rfl 0 rfl ?_
  refine v_bipush h (v := 9) dX9_watchAll_15 (q := 17) rfl (by decide) ?_
  refine v_icmp_ge h (t := 52) dX9_watchAll_17 (by decide) (q := 20) rfl (fun c17 => ?_) (fun c17 => ?_)
  · exact v_vret h dX9_watchAll_52 ⟨rfl, by rw [show (9 : Nat) = i by have := nge (k := 9) rfl (by omega) c17; omega]; exact hW⟩
  · have hb9 : i < 9 := nlt rfl (by omega) c17
    refine v_aload_n h (i := 0) dX9_watchAll_20 (q := 21) rfl rfl 1 rfl ?_
    refine v_get h (k := 1) (v := .ref (b_ad w 10)) cls9 hs.1.1 hs.1.2 (Nat.le_of_ble_eq_true rfl) m266 rfl dX9_watchAll_21 (q := 24) rfl ?_
    refine v_getN h (k := 3) (v := .ref (b_ad w 11)) cls6 hs.2.2.1.1.1 hs.2.2.1.1.2 (Nat.le_of_ble_eq_true rfl) m120 rfl dX9_watchAll_24 (q := 27) rfl ?_
    refine v_iload_n h (i := 2) dX9_watchAll_27 (q := 28) rfl rfl 0 rfl ?_
    refine v_callV h (As := [.int (nI i)]) (rest := []) (c_X0_hold (me := 11) (σ := τ) (b := nI i) hs.2.2.1.2.1) cal_X0_hold calV_X0_hold m342 ⟨rfl, rfl, Nat.le_of_ble_eq_true rfl, Nat.le_of_ble_eq_true rfl⟩ rfl hs.2.2.1.2.1.1.1 hs.2.2.1.2.1.1.2 ⟨_, _, rfl⟩ rfl (Nat.le_of_ble_eq_true rfl) dX9_watchAll_28 (q := 31) rfl (kB (fun c28 => ?_) (fun c28 => ?_))
    · refine v_if_eq h (t := 46) dX9_watchAll_31 (by decide) (q := 34) rfl (fun c => absurd c (by decide)) (fun _ => ?_)
      have hia : i < afN A.1.1 := inN_lt ((hold_iff hW.1).mp c28) (by omega)
      have hhB := (hB_ob hW.2.1 h7 hb9).mpr hia
      have hw2 := hW.hb2 hR.1.2.1
      refine v_aload_n h (i := 0) dX9_watchAll_34 (q := 35) rfl rfl 1 rfl ?_
      refine v_get h (k := 12) (v := .ref (b_ad w 69)) cls9 hs.1.1 hs.1.2 (Nat.le_of_ble_eq_true rfl) m277 rfl dX9_watchAll_35 (q := 38) rfl ?_
      refine v_aload_n h (i := 0) dX9_watchAll_38 (q := 39) rfl rfl 1 rfl ?_
      refine v_get h (k := 0) (v := .ref (b_ad w 1)) cls9 hs.1.1 hs.1.2 (Nat.le_of_ble_eq_true rfl) m265 rfl dX9_watchAll_39 (q := 42) rfl ?_
      refine v_iload_n h (i := 2) dX9_watchAll_42 (q := 43) rfl rfl 0 rfl ?_
      refine v_callV h (As := [.ref (b_ad w 1), .int (nI i)]) (rest := []) (c_X4_sail (me := 69) (L := 1) (b := i) (bt := btOf A.1.1) (n := n) (σ := τ) hs.2.2.2.2.2.2.2.2.2.2.2.2.2.1 hs.2.1 (by omega) hb9 hhB hw2.1 hw2.2.1 hw2.2.2 hn) cal_X4_sail calV_X4_sail m608 ⟨rfl, rfl, Nat.le_of_ble_eq_true rfl, Nat.le_of_ble_eq_true rfl⟩ rfl hs.2.2.2.2.2.2.2.2.2.2.2.2.2.1.1.1 hs.2.2.2.2.2.2.2.2.2.2.2.2.2.1.1.2 ⟨_, _, rfl⟩ rfl (Nat.le_of_ble_eq_true rfl) dX9_watchAll_43 (q := 46) rfl (kV (fun σ43 h43 => ?_))
      refine v_iinc h (p := 0) (u := nI (i + 1)) (ls1 := [(2, .int (nI (i + 1))), (0, .ref (b_ad w 0)), (1, .int (nI n))]) dX9_watchAll_46 (q := 49) rfl rfl (nI_1 i) (Nat.le_of_ble_eq_true rfl) rfl ?_
      refine v_goto h (t := 14) dX9_watchAll_49 (by decide) ?_
      exact ih (m - 1) (by omega) (i + 1) (by omega) σ43 (WT_up hW hR.1.2.1.1 hb9 hia h43)
    · refine v_if_eq h (t := 46) dX9_watchAll_31 (by decide) (q := 34) rfl (fun _ => ?_) (fun c => absurd (by decide) c)
      refine v_iinc h (p := 0) (u := nI (i + 1)) (ls1 := [(2, .int (nI (i + 1))), (0, .ref (b_ad w 0)), (1, .int (nI n))]) dX9_watchAll_46 (q := 49) rfl rfl (nI_1 i) (Nat.le_of_ble_eq_true rfl) rfl ?_
      refine v_goto h (t := 14) dX9_watchAll_49 (by decide) ?_
      exact ih (m - 1) (by omega) (i + 1) (by omega) τ ⟨hW.1, hW.2.1, SL_skip hW.2.2 (fun z => c28 ((hold_iff hW.1).mpr (inN_of z (by omega))))⟩
set_option maxHeartbeats 4000000 in
set_option maxRecDepth 100000 in
theorem c_X9_watchAll {w : bw} {σ : bSt} {A : bA} {n : Nat} (hs : sOpera w) (hR : RC σ A) (hn : n ≤ 128) : MV yX9_watchAll cX9_watchAll 3 none (rmm 5 118) w [.ref (b_ad w 0), .int (nI n)] σ (pV (fun τ => WT A A.1.1 n 9 τ)) := by
  refine b_met (ls := [(0, .ref (b_ad w 0)), (1, .int (nI n))]) (by decide) (Nat.le_of_ble_eq_true rfl) rfl (fun x h => ?_)
  refine v_aload_n h (i := 0) dX9_watchAll_0 (q := 1) rfl rfl 0 rfl ?_
  refine v_get h (k := 12) (v := .ref (b_ad w 69)) cls9 hs.1.1 hs.1.2 (Nat.le_of_ble_eq_true rfl) m277 rfl dX9_watchAll_1 (q := 4) rfl ?_
  refine v_aload_n h (i := 0) dX9_watchAll_4 (q := 5) rfl rfl 0 rfl ?_
  refine v_get h (k := 1) (v := .ref (b_ad w 10)) cls9 hs.1.1 hs.1.2 (Nat.le_of_ble_eq_true rfl) m266 rfl dX9_watchAll_5 (q := 8) rfl ?_
  refine v_iload_n h (i := 1) dX9_watchAll_8 (q := 9) rfl rfl 1 rfl ?_
  refine v_callV h (As := [.ref (b_ad w 10), .int (nI n)]) (rest := []) (c_X4_watch (me := 69) (o := 10) (n := n) (σ := σ) hs.2.2.2.2.2.2.2.2.2.2.2.2.2.1 hs.2.2.1 (by omega) hn) cal_X4_watch calV_X4_watch m596 ⟨rfl, rfl, Nat.le_of_ble_eq_true rfl, Nat.le_of_ble_eq_true rfl⟩ rfl hs.2.2.2.2.2.2.2.2.2.2.2.2.2.1.1.1 hs.2.2.2.2.2.2.2.2.2.2.2.2.2.1.1.2 ⟨_, _, rfl⟩ rfl (Nat.le_of_ble_eq_true rfl) dX9_watchAll_9 (q := 12) rfl (kU ?_)
  refine v_iconst h (v := 0) dX9_watchAll_12 (q := 13) rfl (by decide) ?_
  refine v_istore_n h (i := 2) (ls1 := [(2, .int 0), (0, .ref (b_ad w 0)), (1, .int (nI n))]) dX9_watchAll_13 (q := 14) rfl rfl (Nat.le_of_ble_eq_true rfl) rfl ?_
  exact lX9_watchAll_14 hs hR hn h 9 0 rfl _ (WT_0 hR hn)

set_option maxHeartbeats 4000000 in
set_option maxRecDepth 100000 in
theorem c_X9_score {w : bw} {σ : bSt} {A : bA} {cell n0 : Int32} (hs : sOpera w) (hR : RC σ A) : MV yX9_score cX9_score 3 (some .int) (rmm 6 152) w [.ref (b_ad w 0), .int cell, .int n0] σ (pA (oScore cell n0 A)) := by
  refine b_met (ls := [(0, .ref (b_ad w 0)), (1, .int cell), (2, .int n0)]) (by decide) (Nat.le_of_ble_eq_true rfl) rfl (fun x h => ?_)
  refine v_iload_n h (i := 1) dX9_score_0 (q := 1) rfl rfl 1 rfl ?_
  refine v_callS h (As := [.int cell]) (rest := []) (c_X9_isCell (v := cell)) cal_X9_isCell m332 m331 ⟨rfl, rfl, Nat.le_of_ble_eq_true rfl, Nat.le_of_ble_eq_true rfl⟩ rfl rfl (Nat.le_of_ble_eq_true rfl) dX9_score_1 (q := 4) rfl (kB (fun c1 => ?_) (fun c1 => ?_))
  · refine v_if_eq h (t := 14) dX9_score_4 (by decide) (q := 7) rfl (fun c => absurd c (by decide)) (fun _ => ?_)
    refine v_iload_n h (i := 2) dX9_score_7 (q := 8) rfl rfl 2 rfl ?_
    refine v_callS h (As := [.int n0]) (rest := []) (c_X9_isAhead (v := n0)) cal_X9_isAhead m594 m593 ⟨rfl, rfl, Nat.le_of_ble_eq_true rfl, Nat.le_of_ble_eq_true rfl⟩ rfl rfl (Nat.le_of_ble_eq_true rfl) dX9_score_8 (q := 11) rfl (kB (fun c8 => ?_) (fun c8 => ?_))
    · refine v_if_ne h (t := 20) dX9_score_11 (by decide) (q := 14) rfl (fun _ => ?_) (fun c => absurd c (by decide))
      obtain ⟨y, hy, rfl⟩ := cell_w c1
      obtain ⟨n, hn, rfl⟩ := wi_0 (n := 128) c8 rfl
      obtain ⟨vn, hv1, hv9, ev⟩ := hR.1.2.1.1.2.1
      refine v_aload_n h (i := 0) dX9_score_20 (q := 21) rfl rfl 0 rfl ?_
      refine v_iload_n h (i := 2) dX9_score_21 (q := 22) rfl rfl 2 rfl ?_
      refine v_callV h (As := [.int (nI n)]) (rest := []) (c_X9_watchAll (A := A) (σ := σ) (n := n) hs hR hn) cal_X9_watchAll calV_X9_watchAll m634 ⟨rfl, rfl, Nat.le_of_ble_eq_true rfl, Nat.le_of_ble_eq_true rfl⟩ rfl hs.1.1 hs.1.2 ⟨_, _, rfl⟩ rfl (Nat.le_of_ble_eq_true rfl) dX9_score_22 (q := 25) rfl (kV (fun σ22 h22 => ?_))
      have hw2 := h22.hb2 hR.1.2.1
      refine v_aload_n h (i := 0) dX9_score_25 (q := 26) rfl rfl 0 rfl ?_
      refine v_get h (k := 12) (v := .ref (b_ad w 69)) cls9 hs.1.1 hs.1.2 (Nat.le_of_ble_eq_true rfl) m277 rfl dX9_score_26 (q := 29) rfl ?_
      refine v_aload_n h (i := 0) dX9_score_29 (q := 30) rfl rfl 0 rfl ?_
      refine v_get h (k := 0) (v := .ref (b_ad w 1)) cls9 hs.1.1 hs.1.2 (Nat.le_of_ble_eq_true rfl) m265 rfl dX9_score_30 (q := 33) rfl ?_
      refine v_iload_n h (i := 1) dX9_score_33 (q := 34) rfl rfl 1 rfl ?_
      refine v_aload_n h (i := 0) dX9_score_34 (q := 35) rfl rfl 0 rfl ?_
      refine v_get h (k := 0) (v := .ref (b_ad w 1)) cls9 hs.1.1 hs.1.2 (Nat.le_of_ble_eq_true rfl) m265 rfl dX9_score_35 (q := 38) rfl ?_
      refine v_getN h (k := 0) (v := .int (σ22 1 0)) cls3 hs.2.1.1.1 hs.2.1.1.2 (Nat.le_of_ble_eq_true rfl) m57 rfl dX9_score_38 (q := 41) rfl ?_
      rw [show (σ22 1 0 : Int32) = nI vn from (by rw [← ev, ← h22.1.vwE]; rfl)]
      refine v_callV h (As := [.ref (b_ad w 1), .int (nI y), .int (nI vn)]) (rest := []) (c_X4_inTime (me := 69) (L := 1) (bt := btOf A.1.1) (n := n) (y := y) (vn := vn) (σ := σ22) hs.2.2.2.2.2.2.2.2.2.2.2.2.2.1 hs.2.1 (by omega) h22.1.ok h22.1.ca hv1 hv9 hy hw2.1 hw2.2.1 hw2.2.2 hn (fun k hk b hb => h22.1.ro (69 + 8 + k) (by omega) (by omega) b hb)) cal_X4_inTime calV_X4_inTime m638 ⟨rfl, rfl, Nat.le_of_ble_eq_true rfl, Nat.le_of_ble_eq_true rfl⟩ rfl hs.2.2.2.2.2.2.2.2.2.2.2.2.2.1.1.1 hs.2.2.2.2.2.2.2.2.2.2.2.2.2.1.1.2 ⟨_, _, rfl⟩ rfl (Nat.le_of_ble_eq_true rfl) dX9_score_41 (q := 44) rfl (kR (fun r41 σ41 h41 => ?_))
      exact v_iret h dX9_score_44 (pA_of (by unfold oScore; rw [if_pos ⟨c1, c8⟩, cl_nI (n := n) (by omega), ← sc_val h22 hR.1.2.1 ev hn h41.1]) (h22.1.scr h41.2.1 h41.2.2))
    · refine v_if_ne h (t := 20) dX9_score_11 (by decide) (q := 14) rfl (fun c => absurd (by decide) c) (fun _ => ?_)
      refine v_aload_n h (i := 0) dX9_score_14 (q := 15) rfl rfl 0 rfl ?_
      refine v_iconst h (v := 1) dX9_score_15 (q := 16) rfl (by decide) ?_
      refine v_callV h (As := [.int 1]) (rest := []) (c_ref (σ := σ) hs (e := 1) (by decide) rfl) cal_X9_refuse calV_X9_refuse m315 ⟨rfl, rfl, Nat.le_of_ble_eq_true rfl, Nat.le_of_ble_eq_true rfl⟩ rfl hs.1.1 hs.1.2 ⟨_, _, rfl⟩ rfl (Nat.le_of_ble_eq_true rfl) dX9_score_16 (q := 19) rfl (kI ?_)
      exact v_iret h dX9_score_19 (pA_of (by unfold oScore; rw [if_neg (fun z => by first | exact c1 z.1 | exact c8 z.2)]; rfl) (hR.err (by decide)))
  · refine v_if_eq h (t := 14) dX9_score_4 (by decide) (q := 7) rfl (fun _ => ?_) (fun c => absurd (by decide) c)
    refine v_aload_n h (i := 0) dX9_score_14 (q := 15) rfl rfl 0 rfl ?_
    refine v_iconst h (v := 1) dX9_score_15 (q := 16) rfl (by decide) ?_
    refine v_callV h (As := [.int 1]) (rest := []) (c_ref (σ := σ) hs (e := 1) (by decide) rfl) cal_X9_refuse calV_X9_refuse m315 ⟨rfl, rfl, Nat.le_of_ble_eq_true rfl, Nat.le_of_ble_eq_true rfl⟩ rfl hs.1.1 hs.1.2 ⟨_, _, rfl⟩ rfl (Nat.le_of_ble_eq_true rfl) dX9_score_16 (q := 19) rfl (kI ?_)
    exact v_iret h dX9_score_19 (pA_of (by unfold oScore; rw [if_neg (fun z => by first | exact c1 z.1 | exact c8 z.2)]; rfl) (hR.err (by decide)))

set_option maxHeartbeats 4000000 in
set_option maxRecDepth 100000 in
theorem lX9_scoreAll_7 {w : bw} {σ : bSt} {A : bA} {n : Nat} (hs : sOpera w) (hR : RC σ A) (hn : n ≤ 128) {x : bX} (h : Cx x w cX9_scoreAll RX9 3 none (rmm 6 152)) : ∀ m i : Nat, i + m = 64 → ∀ τ : bSt, WT A A.1.1 n 9 τ → (∀ c, c < i → τ 206 c = spF A n c) → V x w 3 (pV (fun τ => WT A A.1.1 n 9 τ ∧ ∀ c, c < 64 → τ 206 c = spF A n c)) 7 [(2, .int (nI i)), (0, .ref (b_ad w 0)), (1, .int (nI n))] [] τ := by
  refine b_ind (fun m ih => ?_)
  intro i him τ hW hsc
  have hw2 := hW.hb2 hR.1.2.1
  obtain ⟨vn, hv1, hv9, ev⟩ := hR.1.2.1.1.2.1
  refine v_iload_n h (i := 2) dX9_scoreAll_7 (q := 8) rfl rfl 0 rfl ?_
  refine v_bipush h (v := 64) dX9_scoreAll_8 (q := 10) rfl (by decide) ?_
  refine v_icmp_ge h (t := 44) dX9_scoreAll_10 (by decide) (q := 13) rfl (fun c10 => ?_) (fun c10 => ?_)
  · exact v_vret h dX9_scoreAll_44 ⟨rfl, hW, fun c hc => hsc c (by have := nge (k := 64) rfl (by omega) c10; omega)⟩
  · have hy : i < 64 := nlt rfl (by omega) c10
    refine v_aload_n h (i := 0) dX9_scoreAll_13 (q := 14) rfl rfl 1 rfl ?_
    refine v_get h (k := 13) (v := .ref (b_ad w 206)) cls9 hs.1.1 hs.1.2 (Nat.le_of_ble_eq_true rfl) m278 rfl dX9_scoreAll_14 (q := 17) rfl ?_
    refine v_iload_n h (i := 2) dX9_scoreAll_17 (q := 18) rfl rfl 0 rfl ?_
    refine v_aload_n h (i := 0) dX9_scoreAll_18 (q := 19) rfl rfl 1 rfl ?_
    refine v_get h (k := 12) (v := .ref (b_ad w 69)) cls9 hs.1.1 hs.1.2 (Nat.le_of_ble_eq_true rfl) m277 rfl dX9_scoreAll_19 (q := 22) rfl ?_
    refine v_aload_n h (i := 0) dX9_scoreAll_22 (q := 23) rfl rfl 1 rfl ?_
    refine v_get h (k := 0) (v := .ref (b_ad w 1)) cls9 hs.1.1 hs.1.2 (Nat.le_of_ble_eq_true rfl) m265 rfl dX9_scoreAll_23 (q := 26) rfl ?_
    refine v_iload_n h (i := 2) dX9_scoreAll_26 (q := 27) rfl rfl 0 rfl ?_
    refine v_aload_n h (i := 0) dX9_scoreAll_27 (q := 28) rfl rfl 1 rfl ?_
    refine v_get h (k := 0) (v := .ref (b_ad w 1)) cls9 hs.1.1 hs.1.2 (Nat.le_of_ble_eq_true rfl) m265 rfl dX9_scoreAll_28 (q := 31) rfl ?_
    refine v_getN h (k := 0) (v := .int (τ 1 0)) cls3 hs.2.1.1.1 hs.2.1.1.2 (Nat.le_of_ble_eq_true rfl) m57 rfl dX9_scoreAll_31 (q := 34) rfl ?_
    rw [show (τ 1 0 : Int32) = nI vn from (by rw [← ev, ← hW.1.vwE]; rfl)]
    refine v_callV h (As := [.ref (b_ad w 1), .int (nI i), .int (nI vn)]) (rest := [.int (nI i), .ref (b_ad w 206)]) (c_X4_inTime (me := 69) (L := 1) (bt := btOf A.1.1) (n := n) (y := i) (vn := vn) (σ := τ) hs.2.2.2.2.2.2.2.2.2.2.2.2.2.1 hs.2.1 (by omega) hW.1.ok hW.1.ca hv1 hv9 hy hw2.1 hw2.2.1 hw2.2.2 hn (fun k hk b hb => hW.1.ro (69 + 8 + k) (by omega) (by omega) b hb)) cal_X4_inTime calV_X4_inTime m638 ⟨rfl, rfl, Nat.le_of_ble_eq_true rfl, Nat.le_of_ble_eq_true rfl⟩ rfl hs.2.2.2.2.2.2.2.2.2.2.2.2.2.1.1.1 hs.2.2.2.2.2.2.2.2.2.2.2.2.2.1.1.2 ⟨_, _, rfl⟩ rfl (Nat.le_of_ble_eq_true rfl) dX9_scoreAll_34 (q := 37) rfl (kR (fun r34 σ34 h34 => ?_))
    refine v_iast h (k := i) hs.2.2.2.2.2.2.2.2.2.2.2.2.2.2.1 hs.2.2.2.2.2.2.2.2.2.2.2.2.2.2.2 (vp_in_nI hy (by decide)) (nI_clamp (by omega)) dX9_scoreAll_37 (q := 38) rfl ?_
    refine v_iinc h (p := 0) (u := nI (i + 1)) (ls1 := [(2, .int (nI (i + 1))), (0, .ref (b_ad w 0)), (1, .int (nI n))]) dX9_scoreAll_38 (q := 41) rfl rfl (nI_1 i) (Nat.le_of_ble_eq_true rfl) rfl ?_
    refine v_goto h (t := 7) dX9_scoreAll_41 (by decide) ?_
    exact ih (m - 1) (by omega) (i + 1) (by omega) _ ((hW.scr hn h34.2.1 h34.2.2).big hn (Nat.le_refl 206)) (scs_up hsc (h34.2.1 206 (by decide) (by decide) (by decide)) (sc_val hW hR.1.2.1 ev hn h34.1))
set_option maxHeartbeats 4000000 in
set_option maxRecDepth 100000 in
theorem c_X9_scoreAll {w : bw} {σ : bSt} {A : bA} {n : Nat} (hs : sOpera w) (hR : RC σ A) (hn : n ≤ 128) : MV yX9_scoreAll cX9_scoreAll 3 none (rmm 6 152) w [.ref (b_ad w 0), .int (nI n)] σ (pV (fun τ => WT A A.1.1 n 9 τ ∧ ∀ c, c < 64 → τ 206 c = spF A n c)) := by
  refine b_met (ls := [(0, .ref (b_ad w 0)), (1, .int (nI n))]) (by decide) (Nat.le_of_ble_eq_true rfl) rfl (fun x h => ?_)
  refine v_aload_n h (i := 0) dX9_scoreAll_0 (q := 1) rfl rfl 0 rfl ?_
  refine v_iload_n h (i := 1) dX9_scoreAll_1 (q := 2) rfl rfl 1 rfl ?_
  refine v_callV h (As := [.int (nI n)]) (rest := []) (c_X9_watchAll (A := A) (σ := σ) (n := n) hs hR hn) cal_X9_watchAll calV_X9_watchAll m634 ⟨rfl, rfl, Nat.le_of_ble_eq_true rfl, Nat.le_of_ble_eq_true rfl⟩ rfl hs.1.1 hs.1.2 ⟨_, _, rfl⟩ rfl (Nat.le_of_ble_eq_true rfl) dX9_scoreAll_2 (q := 5) rfl (kV (fun σ2 h2 => ?_))
  refine v_iconst h (v := 0) dX9_scoreAll_5 (q := 6) rfl (by decide) ?_
  refine v_istore_n h (i := 2) (ls1 := [(2, .int 0), (0, .ref (b_ad w 0)), (1, .int (nI n))]) dX9_scoreAll_6 (q := 7) rfl rfl (Nat.le_of_ble_eq_true rfl) rfl ?_
  exact lX9_scoreAll_7 hs hR hn h 64 0 rfl _ h2 (fun c hc => absurd hc (Nat.not_lt_zero c))

set_option maxHeartbeats 4000000 in
set_option maxRecDepth 100000 in
theorem lX9_firstOfMost_4 {w : bw} {σ : bSt} {j n0 n : Nat} (ha : sI w j n0) (hn1 : 1 ≤ n) (hn2 : n ≤ n0) (hn0 : n0 < 2 ^ 31) {x : bX} (h : Cx x w cX9_firstOfMost RX9 4 (some .int) (rmm 0 0)) : ∀ m i : Nat, i + m = n → 1 ≤ i → V x w 4 (pI (nI (fmN (σ j) n)) σ) 4 [(3, .int (nI i)), (2, .int (nI (fmN (σ j) i))), (0, .ref (b_ad w j)), (1, .int (nI n))] [] σ := by
  refine b_ind (fun m ih => ?_)
  intro i him hi1
  refine v_iload_n h (i := 3) dX9_firstOfMost_4 (q := 5) rfl rfl 0 rfl ?_
  refine v_iload_n h (i := 1) dX9_firstOfMost_5 (q := 6) rfl rfl 3 rfl ?_
  refine v_icmp_ge h (t := 32) dX9_firstOfMost_6 (by decide) (q := 9) rfl (fun c6 => ?_) (fun c6 => ?_)
  · refine v_iload_n h (i := 2) dX9_firstOfMost_32 (q := 33) rfl rfl 1 rfl ?_
    exact v_iret h dX9_firstOfMost_33 ⟨by rw [show n = i by have := nge (k := n) (nI_toInt (by omega)) (by omega) c6; omega], rfl⟩
  · have hin : i < n := nlt (nI_toInt (by omega)) (by omega) c6
    have hfl := fm_lt (f := σ j) (n := i) (by omega)
    refine v_iload_n h (i := 3) dX9_firstOfMost_9 (q := 10) rfl rfl 0 rfl ?_
    refine v_aload_n h (i := 0) dX9_firstOfMost_10 (q := 11) rfl rfl 2 rfl ?_
    refine v_aleni h (v := nI n0) ha.1 ha.2 rfl dX9_firstOfMost_11 (q := 12) rfl ?_
    refine v_icmp_ge h (t := 32) dX9_firstOfMost_12 (by decide) (q := 15) rfl (fun c12 => absurd c12 (nnle (k := n0) (nI_toInt (by omega)) (by omega) (by omega))) (fun c12 => ?_)
    refine v_aload_n h (i := 0) dX9_firstOfMost_15 (q := 16) rfl rfl 2 rfl ?_
    refine v_iload_n h (i := 3) dX9_firstOfMost_16 (q := 17) rfl rfl 0 rfl ?_
    refine v_iald h (k := i) ha.1 ha.2 (vp_in_nI (by omega) (by omega)) (nI_clamp (by omega)) dX9_firstOfMost_17 (q := 18) rfl ?_
    refine v_aload_n h (i := 0) dX9_firstOfMost_18 (q := 19) rfl rfl 2 rfl ?_
    refine v_iload_n h (i := 2) dX9_firstOfMost_19 (q := 20) rfl rfl 1 rfl ?_
    refine v_iald h (k := (fmN (σ j) i)) ha.1 ha.2 (vp_in_nI (by omega) (by omega)) (nI_clamp (by omega)) dX9_firstOfMost_20 (q := 21) rfl ?_
    refine v_icmp_le h (t := 26) dX9_firstOfMost_21 (by decide) (q := 24) rfl (fun c21 => ?_) (fun c21 => ?_)
    · refine v_iinc h (p := 0) (u := nI (i + 1)) (ls1 := [(3, .int (nI (i + 1))), (2, .int (nI (fmN (σ j) i))), (0, .ref (b_ad w j)), (1, .int (nI n))]) dX9_firstOfMost_26 (q := 29) rfl rfl (nI_1 i) (Nat.le_of_ble_eq_true rfl) rfl ?_
      refine v_goto h (t := 4) dX9_firstOfMost_29 (by decide) ?_
      have es : fmN (σ j) (i + 1) = fmN (σ j) i := by rw [fmN, if_neg (Int32.not_lt.mpr (by assumption))]
      have z := ih (m - 1) (by omega) (i + 1) (by omega) (by omega)
      rw [es] at z
      exact z
    · refine v_iload_n h (i := 3) dX9_firstOfMost_24 (q := 25) rfl rfl 0 rfl ?_
      refine v_istore_n h (i := 2) (ls1 := [(2, .int (nI i)), (3, .int (nI i)), (0, .ref (b_ad w j)), (1, .int (nI n))]) dX9_firstOfMost_25 (q := 26) rfl rfl (Nat.le_of_ble_eq_true rfl) rfl ?_
      refine v_iinc h (p := 1) (u := nI (i + 1)) (ls1 := [(3, .int (nI (i + 1))), (2, .int (nI i)), (0, .ref (b_ad w j)), (1, .int (nI n))]) dX9_firstOfMost_26 (q := 29) rfl rfl (nI_1 i) (Nat.le_of_ble_eq_true rfl) rfl ?_
      refine v_goto h (t := 4) dX9_firstOfMost_29 (by decide) ?_
      have es : fmN (σ j) (i + 1) = i := by rw [fmN, if_pos (Int32.not_le.mp (by assumption))]
      have z := ih (m - 1) (by omega) (i + 1) (by omega) (by omega)
      rw [es] at z
      exact z
set_option maxHeartbeats 4000000 in
set_option maxRecDepth 100000 in
theorem c_X9_firstOfMost {w : bw} {σ : bSt} {j n0 n : Nat} (ha : sI w j n0) (hn1 : 1 ≤ n) (hn2 : n ≤ n0) (hn0 : n0 < 2 ^ 31) : MV yX9_firstOfMost cX9_firstOfMost 4 (some .int) (rmm 0 0) w [.ref (b_ad w j), .int (nI n)] σ (pI (nI (fmN (σ j) n)) σ) := by
  refine b_met (ls := [(0, .ref (b_ad w j)), (1, .int (nI n))]) (by decide) (Nat.le_of_ble_eq_true rfl) rfl (fun x h => ?_)
  refine v_iconst h (v := 0) dX9_firstOfMost_0 (q := 1) rfl (by decide) ?_
  refine v_istore_n h (i := 2) (ls1 := [(2, .int 0), (0, .ref (b_ad w j)), (1, .int (nI n))]) dX9_firstOfMost_1 (q := 2) rfl rfl (Nat.le_of_ble_eq_true rfl) rfl ?_
  refine v_iconst h (v := 1) dX9_firstOfMost_2 (q := 3) rfl (by decide) ?_
  refine v_istore_n h (i := 3) (ls1 := [(3, .int 1), (2, .int 0), (0, .ref (b_ad w j)), (1, .int (nI n))]) dX9_firstOfMost_3 (q := 4) rfl rfl (Nat.le_of_ble_eq_true rfl) rfl ?_
  have z := lX9_firstOfMost_4 (σ := σ) ha hn1 hn2 hn0 h (n - 1) 1 (by omega) (Nat.le_refl 1)
  rw [fm_1] at z
  exact z

set_option maxHeartbeats 4000000 in
set_option maxRecDepth 100000 in
theorem c_X9_place {w : bw} {σ : bSt} {A : bA} {n0 : Int32} (hs : sOpera w) (hR : RC σ A) : MV yX9_place cX9_place 2 (some .int) (rmm 7 174) w [.ref (b_ad w 0), .int n0] σ (pA (oPlace n0 A)) := by
  refine b_met (ls := [(0, .ref (b_ad w 0)), (1, .int n0)]) (by decide) (Nat.le_of_ble_eq_true rfl) rfl (fun x h => ?_)
  refine v_iload_n h (i := 1) dX9_place_0 (q := 1) rfl rfl 1 rfl ?_
  refine v_callS h (As := [.int n0]) (rest := []) (c_X9_isAhead (v := n0)) cal_X9_isAhead m594 m593 ⟨rfl, rfl, Nat.le_of_ble_eq_true rfl, Nat.le_of_ble_eq_true rfl⟩ rfl rfl (Nat.le_of_ble_eq_true rfl) dX9_place_1 (q := 4) rfl (kB (fun c1 => ?_) (fun c1 => ?_))
  · refine v_if_ne h (t := 13) dX9_place_4 (by decide) (q := 7) rfl (fun _ => ?_) (fun c => absurd c (by decide))
    obtain ⟨n, hn, rfl⟩ := wi_0 (n := 128) c1 rfl
    refine v_aload_n h (i := 0) dX9_place_13 (q := 14) rfl rfl 0 rfl ?_
    refine v_iload_n h (i := 1) dX9_place_14 (q := 15) rfl rfl 1 rfl ?_
    refine v_callV h (As := [.int (nI n)]) (rest := []) (c_X9_scoreAll (A := A) (σ := σ) (n := n) hs hR hn) cal_X9_scoreAll calV_X9_scoreAll m647 ⟨rfl, rfl, Nat.le_of_ble_eq_true rfl, Nat.le_of_ble_eq_true rfl⟩ rfl hs.1.1 hs.1.2 ⟨_, _, rfl⟩ rfl (Nat.le_of_ble_eq_true rfl) dX9_place_15 (q := 18) rfl (kV (fun σ15 h15 => ?_))
    refine v_aload_n h (i := 0) dX9_place_18 (q := 19) rfl rfl 0 rfl ?_
    refine v_get h (k := 13) (v := .ref (b_ad w 206)) cls9 hs.1.1 hs.1.2 (Nat.le_of_ble_eq_true rfl) m278 rfl dX9_place_19 (q := 22) rfl ?_
    refine v_bipush h (v := 64) dX9_place_22 (q := 24) rfl (by decide) ?_
    refine v_callS h (As := [.ref (b_ad w 206), .int 64]) (rest := []) (c_X9_firstOfMost (j := 206) (n0 := 64) (n := 64) (σ := σ15) hs.2.2.2.2.2.2.2.2.2.2.2.2.2.2 (by decide) (by decide) (by decide)) cal_X9_firstOfMost m652 m651 ⟨rfl, rfl, Nat.le_of_ble_eq_true rfl, Nat.le_of_ble_eq_true rfl⟩ rfl rfl (Nat.le_of_ble_eq_true rfl) dX9_place_24 (q := 27) rfl (kI ?_)
    exact v_iret h dX9_place_27 (pA_of (by unfold oPlace; rw [if_pos (show wj (nI n) 0 128 from c1), cl_nI (n := n) (by omega)]; exact fm_leaf h15.2) h15.1.1)
  · refine v_if_ne h (t := 13) dX9_place_4 (by decide) (q := 7) rfl (fun c => absurd (by decide) c) (fun _ => ?_)
    refine v_aload_n h (i := 0) dX9_place_7 (q := 8) rfl rfl 0 rfl ?_
    refine v_iconst h (v := 1) dX9_place_8 (q := 9) rfl (by decide) ?_
    refine v_callV h (As := [.int 1]) (rest := []) (c_ref (σ := σ) hs (e := 1) (by decide) rfl) cal_X9_refuse calV_X9_refuse m315 ⟨rfl, rfl, Nat.le_of_ble_eq_true rfl, Nat.le_of_ble_eq_true rfl⟩ rfl hs.1.1 hs.1.2 ⟨_, _, rfl⟩ rfl (Nat.le_of_ble_eq_true rfl) dX9_place_9 (q := 12) rfl (kI ?_)
    exact v_iret h dX9_place_12 (pA_of (by unfold oPlace; rw [if_neg (fun z => by first | exact c1 z)]; rfl) (hR.err (by decide)))

set_option maxHeartbeats 4000000 in
set_option maxRecDepth 100000 in
theorem lX9_fromHere_39 {w : bw} {σ : bSt} {A : bA} {n0 : Int32} (hs : sOpera w) (hR : RC σ A) {x : bX} (h : Cx x w cX9_fromHere RX9 6 (some .long) (rmm 7 174)) : ∀ n : Nat, n ≤ 128 → wj n0 0 128 → n0 = nI n → ∀ τ : bSt, WT A A.1.1 n 9 τ → (∀ c, c < 64 → τ 206 c = spF A n c) → ∀ m i : Nat, i + m = 64 → V x w 6 (pAL (oFromHere n0 A)) 39 [(5, .int (nI i)), (3, .long (fhN (τ 206) (τ 206 (fmN (τ 206) 64)) i)), (2, .int (τ 206 (fmN (τ 206) 64))), (0, .ref (b_ad w 0)), (1, .int (nI n))] [] τ := by
  intro n hn hc0 enn τ hW hsc
  refine b_ind (fun m ih => ?_)
  intro i him
  refine v_iload h (i := 5) dX9_fromHere_39 (q := 41) rfl 0 rfl ?_
  refine v_bipush h (v := 64) dX9_fromHere_41 (q := 43) rfl (by decide) ?_
  refine v_icmp_ge h (t := 70) dX9_fromHere_43 (by decide) (q := 46) rfl (fun c43 => ?_) (fun c43 => ?_)
  · refine v_lload_n h (i := 3) dX9_fromHere_70 (q := 71) rfl rfl 1 rfl ?_
    exact v_lret h dX9_fromHere_71 (pAL_of (by subst enn; unfold oFromHere; rw [if_pos hc0, cl_nI (n := n) (by omega), show i = 64 by have := nge (k := 64) rfl (by omega) c43; omega, fh_all hsc]) hW.1)
  · have hi : i < 64 := nlt rfl (by omega) c43
    refine v_aload_n h (i := 0) dX9_fromHere_46 (q := 47) rfl rfl 3 rfl ?_
    refine v_get h (k := 13) (v := .ref (b_ad w 206)) cls9 hs.1.1 hs.1.2 (Nat.le_of_ble_eq_true rfl) m278 rfl dX9_fromHere_47 (q := 50) rfl ?_
    refine v_iload h (i := 5) dX9_fromHere_50 (q := 52) rfl 0 rfl ?_
    refine v_iald h (k := i) hs.2.2.2.2.2.2.2.2.2.2.2.2.2.2.1 hs.2.2.2.2.2.2.2.2.2.2.2.2.2.2.2 (vp_in_nI hi (by decide)) (nI_clamp (by omega)) dX9_fromHere_52 (q := 53) rfl ?_
    refine v_iload_n h (i := 2) dX9_fromHere_53 (q := 54) rfl rfl 2 rfl ?_
    refine v_icmp_ne h (t := 64) dX9_fromHere_54 (by decide) (q := 57) rfl (fun c54 => ?_) (fun c54 => ?_)
    · refine v_iinc h (p := 0) (u := nI (i + 1)) (ls1 := [(5, .int (nI (i + 1))), (3, .long (fhN (τ 206) (τ 206 (fmN (τ 206) 64)) i)), (2, .int (τ 206 (fmN (τ 206) 64))), (0, .ref (b_ad w 0)), (1, .int (nI n))]) dX9_fromHere_64 (q := 67) rfl rfl (nI_1 i) (Nat.le_of_ble_eq_true rfl) rfl ?_
      refine v_goto h (t := 39) dX9_fromHere_67 (by decide) ?_
      have es : fhN (τ 206) (τ 206 (fmN (τ 206) 64)) (i + 1) = fhN (τ 206) (τ 206 (fmN (τ 206) 64)) i := by rw [fhN, if_neg (by assumption)]
      have z := ih (m - 1) (by omega) (i + 1) (by omega)
      rw [es] at z
      exact z
    · refine v_lload_n h (i := 3) dX9_fromHere_57 (q := 58) rfl rfl 1 rfl ?_
      refine v_lconst h (v := 1) dX9_fromHere_58 (q := 59) rfl (by decide) ?_
      refine v_iload h (i := 5) dX9_fromHere_59 (q := 61) rfl 0 rfl ?_
      refine v_lshl h (v := (1 : Int64) <<< ((nI i).toInt64 &&& 63)) dX9_fromHere_61 (q := 62) rfl rfl ?_
      refine v_lor h dX9_fromHere_62 (q := 63) rfl ?_
      refine v_lstore_n h (i := 3) (ls1 := [(3, .long ((fhN (τ 206) (τ 206 (fmN (τ 206) 64)) i) ||| ((1 : Int64) <<< ((nI i).toInt64 &&& 63)))), (5, .int (nI i)), (2, .int (τ 206 (fmN (τ 206) 64))), (0, .ref (b_ad w 0)), (1, .int (nI n))]) dX9_fromHere_63 (q := 64) rfl rfl (Nat.le_of_ble_eq_true rfl) rfl ?_
      refine v_iinc h (p := 1) (u := nI (i + 1)) (ls1 := [(5, .int (nI (i + 1))), (3, .long ((fhN (τ 206) (τ 206 (fmN (τ 206) 64)) i) ||| ((1 : Int64) <<< ((nI i).toInt64 &&& 63)))), (2, .int (τ 206 (fmN (τ 206) 64))), (0, .ref (b_ad w 0)), (1, .int (nI n))]) dX9_fromHere_64 (q := 67) rfl rfl (nI_1 i) (Nat.le_of_ble_eq_true rfl) rfl ?_
      refine v_goto h (t := 39) dX9_fromHere_67 (by decide) ?_
      have es : fhN (τ 206) (τ 206 (fmN (τ 206) 64)) (i + 1) = (fhN (τ 206) (τ 206 (fmN (τ 206) 64)) i) ||| ((1 : Int64) <<< ((nI i).toInt64 &&& 63)) := by rw [fhN, if_pos (by assumption)]
      have z := ih (m - 1) (by omega) (i + 1) (by omega)
      rw [es] at z
      exact z
set_option maxHeartbeats 4000000 in
set_option maxRecDepth 100000 in
theorem c_X9_fromHere {w : bw} {σ : bSt} {A : bA} {n0 : Int32} (hs : sOpera w) (hR : RC σ A) : MV yX9_fromHere cX9_fromHere 6 (some .long) (rmm 7 174) w [.ref (b_ad w 0), .int n0] σ (pAL (oFromHere n0 A)) := by
  refine b_met (ls := [(0, .ref (b_ad w 0)), (1, .int n0)]) (by decide) (Nat.le_of_ble_eq_true rfl) rfl (fun x h => ?_)
  refine v_iload_n h (i := 1) dX9_fromHere_0 (q := 1) rfl rfl 1 rfl ?_
  refine v_callS h (As := [.int n0]) (rest := []) (c_X9_isAhead (v := n0)) cal_X9_isAhead m594 m593 ⟨rfl, rfl, Nat.le_of_ble_eq_true rfl, Nat.le_of_ble_eq_true rfl⟩ rfl rfl (Nat.le_of_ble_eq_true rfl) dX9_fromHere_1 (q := 4) rfl (kB (fun c1 => ?_) (fun c1 => ?_))
  · refine v_if_ne h (t := 14) dX9_fromHere_4 (by decide) (q := 7) rfl (fun _ => ?_) (fun c => absurd c (by decide))
    obtain ⟨n, hn, rfl⟩ := wi_0 (n := 128) c1 rfl
    refine v_aload_n h (i := 0) dX9_fromHere_14 (q := 15) rfl rfl 0 rfl ?_
    refine v_iload_n h (i := 1) dX9_fromHere_15 (q := 16) rfl rfl 1 rfl ?_
    refine v_callV h (As := [.int (nI n)]) (rest := []) (c_X9_scoreAll (A := A) (σ := σ) (n := n) hs hR hn) cal_X9_scoreAll calV_X9_scoreAll m647 ⟨rfl, rfl, Nat.le_of_ble_eq_true rfl, Nat.le_of_ble_eq_true rfl⟩ rfl hs.1.1 hs.1.2 ⟨_, _, rfl⟩ rfl (Nat.le_of_ble_eq_true rfl) dX9_fromHere_16 (q := 19) rfl (kV (fun σ16 h16 => ?_))
    refine v_aload_n h (i := 0) dX9_fromHere_19 (q := 20) rfl rfl 0 rfl ?_
    refine v_get h (k := 13) (v := .ref (b_ad w 206)) cls9 hs.1.1 hs.1.2 (Nat.le_of_ble_eq_true rfl) m278 rfl dX9_fromHere_20 (q := 23) rfl ?_
    refine v_aload_n h (i := 0) dX9_fromHere_23 (q := 24) rfl rfl 0 rfl ?_
    refine v_get h (k := 13) (v := .ref (b_ad w 206)) cls9 hs.1.1 hs.1.2 (Nat.le_of_ble_eq_true rfl) m278 rfl dX9_fromHere_24 (q := 27) rfl ?_
    refine v_bipush h (v := 64) dX9_fromHere_27 (q := 29) rfl (by decide) ?_
    refine v_callS h (As := [.ref (b_ad w 206), .int 64]) (rest := [.ref (b_ad w 206)]) (c_X9_firstOfMost (j := 206) (n0 := 64) (n := 64) (σ := σ16) hs.2.2.2.2.2.2.2.2.2.2.2.2.2.2 (by decide) (by decide) (by decide)) cal_X9_firstOfMost m652 m651 ⟨rfl, rfl, Nat.le_of_ble_eq_true rfl, Nat.le_of_ble_eq_true rfl⟩ rfl rfl (Nat.le_of_ble_eq_true rfl) dX9_fromHere_29 (q := 32) rfl (kI ?_)
    refine v_iald h (k := (fmN (σ16 206) 64)) hs.2.2.2.2.2.2.2.2.2.2.2.2.2.2.1 hs.2.2.2.2.2.2.2.2.2.2.2.2.2.2.2 (vp_in_nI (fm_lt (f := σ16 206) (n := 64) (by decide)) (by decide)) (nI_clamp (Nat.lt_trans (fm_lt (f := σ16 206) (n := 64) (by decide)) (by decide))) dX9_fromHere_32 (q := 33) rfl ?_
    refine v_istore_n h (i := 2) (ls1 := [(2, .int (σ16 206 ((fmN (σ16 206) 64)))), (0, .ref (b_ad w 0)), (1, .int (nI n))]) dX9_fromHere_33 (q := 34) rfl rfl (Nat.le_of_ble_eq_true rfl) rfl ?_
    refine v_lconst h (v := 0) dX9_fromHere_34 (q := 35) rfl (by decide) ?_
    refine v_lstore_n h (i := 3) (ls1 := [(3, .long 0), (2, .int (σ16 206 ((fmN (σ16 206) 64)))), (0, .ref (b_ad w 0)), (1, .int (nI n))]) dX9_fromHere_35 (q := 36) rfl rfl (Nat.le_of_ble_eq_true rfl) rfl ?_
    refine v_iconst h (v := 0) dX9_fromHere_36 (q := 37) rfl (by decide) ?_
    refine v_istore h (i := 5) (ls1 := [(5, .int 0), (3, .long 0), (2, .int (σ16 206 ((fmN (σ16 206) 64)))), (0, .ref (b_ad w 0)), (1, .int (nI n))]) dX9_fromHere_37 (q := 39) rfl (Nat.le_of_ble_eq_true rfl) rfl ?_
    exact lX9_fromHere_39 hs hR h n hn c1 rfl _ h16.1 h16.2 64 0 rfl
  · refine v_if_ne h (t := 14) dX9_fromHere_4 (by decide) (q := 7) rfl (fun c => absurd (by decide) c) (fun _ => ?_)
    refine v_aload_n h (i := 0) dX9_fromHere_7 (q := 8) rfl rfl 0 rfl ?_
    refine v_iconst h (v := 1) dX9_fromHere_8 (q := 9) rfl (by decide) ?_
    refine v_callV h (As := [.int 1]) (rest := []) (c_ref (σ := σ) hs (e := 1) (by decide) rfl) cal_X9_refuse calV_X9_refuse m315 ⟨rfl, rfl, Nat.le_of_ble_eq_true rfl, Nat.le_of_ble_eq_true rfl⟩ rfl hs.1.1 hs.1.2 ⟨_, _, rfl⟩ rfl (Nat.le_of_ble_eq_true rfl) dX9_fromHere_9 (q := 12) rfl (kI ?_)
    refine v_i2l h (v := (-1000000000 - nI 1).toInt64) dX9_fromHere_12 (q := 13) rfl rfl ?_
    exact v_lret h dX9_fromHere_13 (pAL_of (by unfold oFromHere; rw [if_neg (show ¬ wj n0 0 128 from c1)]; rfl) (hR.err (by decide)))

set_option maxHeartbeats 4000000 in
set_option maxRecDepth 100000 in
theorem lX9_mooring_42 {w : bw} {σ : bSt} {A : bA} {b cell n0 : Int32} (hs : sOpera w) (hR : RC σ A) {x : bX} (h : Cx x w cX9_mooring RX9 5 (some .int) (rmm 6 152)) : ∀ d y n : Nat, d < afN A.1.1 → y < 64 → n ≤ 128 → inN b (afN A.1.1) ∧ wj cell 0 63 ∧ wj n0 0 128 → b = nI d → cell = nI y → n0 = nI n → ∀ m i : Nat, i + m = 64 → ∀ (τ : bSt) (xv : Int32), WT A (upd A.1.1 (14 + 4 * d) xv) n 9 τ → (∀ c, c < i → τ 206 c = (fun c => nI (scN (gvT A.1.2.1) (upd A.1.1 (14 + 4 * d) (nI c)) (nI y) n)) c) → V x w 5 (pA (oMooring b cell n0 A)) 42 [(4, .int (nI i)), (0, .ref (b_ad w 0)), (1, .int (nI d)), (2, .int (nI y)), (3, .int (nI n))] [] τ := by
  intro d y n hd hy hn hcond ebd ecy enn
  have hb9 : d < 9 := Nat.lt_of_lt_of_le hd hR.1.2.1.1.af.2
  refine b_ind (fun m ih => ?_)
  intro i him τ xv hW hsc
  obtain ⟨vn, hv1, hv9, ev⟩ := hR.1.2.1.1.2.1
  refine v_iload h (i := 4) dX9_mooring_42 (q := 44) rfl 0 rfl ?_
  refine v_bipush h (v := 64) dX9_mooring_44 (q := 46) rfl (by decide) ?_
  refine v_icmp_ge h (t := 107) dX9_mooring_46 (by decide) (q := 49) rfl (fun c46 => ?_) (fun c46 => ?_)
  · refine v_aload_n h (i := 0) dX9_mooring_107 (q := 108) rfl rfl 1 rfl ?_
    refine v_get h (k := 13) (v := .ref (b_ad w 206)) cls9 hs.1.1 hs.1.2 (Nat.le_of_ble_eq_true rfl) m278 rfl dX9_mooring_108 (q := 111) rfl ?_
    refine v_bipush h (v := 64) dX9_mooring_111 (q := 113) rfl (by decide) ?_
    refine v_callS h (As := [.ref (b_ad w 206), .int 64]) (rest := []) (c_X9_firstOfMost (j := 206) (n0 := 64) (n := 64) (σ := τ) hs.2.2.2.2.2.2.2.2.2.2.2.2.2.2 (by decide) (by decide) (by decide)) cal_X9_firstOfMost m652 m651 ⟨rfl, rfl, Nat.le_of_ble_eq_true rfl, Nat.le_of_ble_eq_true rfl⟩ rfl rfl (Nat.le_of_ble_eq_true rfl) dX9_mooring_113 (q := 116) rfl (kI ?_)
    exact v_iret h dX9_mooring_116 (pA_of (by subst ebd ecy enn; unfold oMooring; rw [if_pos hcond, cl_nI (n := d) (by omega), cl_nI (n := n) (by omega)]; exact fm_leaf (fun c hc => hsc c (by have := nge (k := 64) rfl (by omega) c46; omega))) hW.1)
  · have hi : i < 64 := nlt rfl (by omega) c46
    refine v_aload_n h (i := 0) dX9_mooring_49 (q := 50) rfl rfl 1 rfl ?_
    refine v_get h (k := 12) (v := .ref (b_ad w 69)) cls9 hs.1.1 hs.1.2 (Nat.le_of_ble_eq_true rfl) m277 rfl dX9_mooring_50 (q := 53) rfl ?_
    refine v_getN h (k := 0) (v := .ref (b_ad w 70)) cls4 hs.2.2.2.2.2.2.2.2.2.2.2.2.2.1.1.1 hs.2.2.2.2.2.2.2.2.2.2.2.2.2.1.1.2 (Nat.le_of_ble_eq_true rfl) m249 rfl dX9_mooring_53 (q := 56) rfl ?_
    refine v_getN h (k := 3) (v := .ref (b_ad w 73)) cls0 hs.2.2.2.2.2.2.2.2.2.2.2.2.2.1.2.1.1.1 hs.2.2.2.2.2.2.2.2.2.2.2.2.2.1.2.1.1.2 (Nat.le_of_ble_eq_true rfl) m96 rfl dX9_mooring_56 (q := 59) rfl ?_
    refine v_iload_n h (i := 1) dX9_mooring_59 (q := 60) rfl rfl 2 rfl ?_
    refine v_iload h (i := 4) dX9_mooring_60 (q := 62) rfl 0 rfl ?_
    refine v_iast h (k := d) hs.2.2.2.2.2.2.2.2.2.2.2.2.2.1.2.1.2.2.2.1.1 hs.2.2.2.2.2.2.2.2.2.2.2.2.2.1.2.1.2.2.2.1.2 (vp_in_nI hb9 (by decide)) (nI_clamp (by omega)) dX9_mooring_62 (q := 63) rfl ?_
    refine v_aload_n h (i := 0) dX9_mooring_63 (q := 64) rfl rfl 1 rfl ?_
    refine v_get h (k := 12) (v := .ref (b_ad w 69)) cls9 hs.1.1 hs.1.2 (Nat.le_of_ble_eq_true rfl) m277 rfl dX9_mooring_64 (q := 67) rfl ?_
    refine v_aload_n h (i := 0) dX9_mooring_67 (q := 68) rfl rfl 1 rfl ?_
    refine v_get h (k := 0) (v := .ref (b_ad w 1)) cls9 hs.1.1 hs.1.2 (Nat.le_of_ble_eq_true rfl) m265 rfl dX9_mooring_68 (q := 71) rfl ?_
    have hob := OB_up (v := nI i) hW.2.1 (f := 2) (d := d) (by decide) hb9
    have hIM : IvB (upd (upd A.1.1 (14 + 4 * d) xv) (12 + 2 + 4 * d) (nI i)) := by
      rw [show 12 + 2 + 4 * d = 14 + 4 * d from rfl, upd_upd]
      exact (hR.1.2.1.cellB ⟨i, hi, rfl⟩)
    have hhB := (hB_ob hob hIM.1.af hb9).mpr (by unfold afN; rw [upd_n (by omega), upd_n (by omega)]; exact hd)
    have hw1 : (b_up τ 73 d (nI i)) 69 1 = nI (btOf (upd A.1.1 (14 + 4 * d) xv)) ∧ btOf (upd A.1.1 (14 + 4 * d) xv) + 128 < 20000 ∧ (b_up τ 73 d (nI i)) 69 2 = nI n := by
      have hbt := hR.1.2.1.bt
      rw [btOf_up (by omega)]
      exact ⟨by rw [hob.1, upd_n (by omega), upd_n (by omega)]; exact hbt.1, by omega, hob.2.1⟩
    refine v_iload_n h (i := 1) dX9_mooring_71 (q := 72) rfl rfl 2 rfl ?_
    refine v_callV h (As := [.ref (b_ad w 1), .int (nI d)]) (rest := []) (c_X4_sail (me := 69) (L := 1) (b := d) (bt := btOf (upd A.1.1 (14 + 4 * d) xv)) (n := n) (σ := b_up τ 73 d (nI i)) hs.2.2.2.2.2.2.2.2.2.2.2.2.2.1 hs.2.1 (by omega) hb9 hhB hw1.1 hw1.2.1 hw1.2.2 hn) cal_X4_sail calV_X4_sail m608 ⟨rfl, rfl, Nat.le_of_ble_eq_true rfl, Nat.le_of_ble_eq_true rfl⟩ rfl hs.2.2.2.2.2.2.2.2.2.2.2.2.2.1.1.1 hs.2.2.2.2.2.2.2.2.2.2.2.2.2.1.1.2 ⟨_, _, rfl⟩ rfl (Nat.le_of_ble_eq_true rfl) dX9_mooring_72 (q := 75) rfl (kV (fun σ72 h72 => ?_))
    have hW2 := WT_re (f := 2) hW hn hb9 (by unfold afN; rw [upd_n (by omega)]; exact hd) (by decide) hIM.1 h72
    have hw2 := hW2.hb2 hIM
    have ev2 : (upd (upd A.1.1 (14 + 4 * d) xv) (12 + 2 + 4 * d) (nI i)) 1 = nI vn := by rw [upd_n (by omega), upd_n (by omega)]; exact ev
    refine v_aload_n h (i := 0) dX9_mooring_75 (q := 76) rfl rfl 1 rfl ?_
    refine v_get h (k := 13) (v := .ref (b_ad w 206)) cls9 hs.1.1 hs.1.2 (Nat.le_of_ble_eq_true rfl) m278 rfl dX9_mooring_76 (q := 79) rfl ?_
    refine v_iload h (i := 4) dX9_mooring_79 (q := 81) rfl 0 rfl ?_
    refine v_aload_n h (i := 0) dX9_mooring_81 (q := 82) rfl rfl 1 rfl ?_
    refine v_get h (k := 12) (v := .ref (b_ad w 69)) cls9 hs.1.1 hs.1.2 (Nat.le_of_ble_eq_true rfl) m277 rfl dX9_mooring_82 (q := 85) rfl ?_
    refine v_aload_n h (i := 0) dX9_mooring_85 (q := 86) rfl rfl 1 rfl ?_
    refine v_get h (k := 0) (v := .ref (b_ad w 1)) cls9 hs.1.1 hs.1.2 (Nat.le_of_ble_eq_true rfl) m265 rfl dX9_mooring_86 (q := 89) rfl ?_
    refine v_iload_n h (i := 2) dX9_mooring_89 (q := 90) rfl rfl 3 rfl ?_
    refine v_aload_n h (i := 0) dX9_mooring_90 (q := 91) rfl rfl 1 rfl ?_
    refine v_get h (k := 0) (v := .ref (b_ad w 1)) cls9 hs.1.1 hs.1.2 (Nat.le_of_ble_eq_true rfl) m265 rfl dX9_mooring_91 (q := 94) rfl ?_
    refine v_getN h (k := 0) (v := .int (σ72 1 0)) cls3 hs.2.1.1.1 hs.2.1.1.2 (Nat.le_of_ble_eq_true rfl) m57 rfl dX9_mooring_94 (q := 97) rfl ?_
    rw [show (σ72 1 0 : Int32) = nI vn from (by rw [← ev, ← hW2.1.vwE]; rfl)]
    refine v_callV h (As := [.ref (b_ad w 1), .int (nI y), .int (nI vn)]) (rest := [.int (nI i), .ref (b_ad w 206)]) (c_X4_inTime (me := 69) (L := 1) (bt := btOf (upd (upd A.1.1 (14 + 4 * d) xv) (12 + 2 + 4 * d) (nI i))) (n := n) (y := y) (vn := vn) (σ := σ72) hs.2.2.2.2.2.2.2.2.2.2.2.2.2.1 hs.2.1 (by omega) hW2.1.ok hW2.1.ca hv1 hv9 hy hw2.1 hw2.2.1 hw2.2.2 hn (fun k hk b hb => hW2.1.ro (69 + 8 + k) (by omega) (by omega) b hb)) cal_X4_inTime calV_X4_inTime m638 ⟨rfl, rfl, Nat.le_of_ble_eq_true rfl, Nat.le_of_ble_eq_true rfl⟩ rfl hs.2.2.2.2.2.2.2.2.2.2.2.2.2.1.1.1 hs.2.2.2.2.2.2.2.2.2.2.2.2.2.1.1.2 ⟨_, _, rfl⟩ rfl (Nat.le_of_ble_eq_true rfl) dX9_mooring_97 (q := 100) rfl (kR (fun r97 σ97 h97 => ?_))
    refine v_iast h (k := i) hs.2.2.2.2.2.2.2.2.2.2.2.2.2.2.1 hs.2.2.2.2.2.2.2.2.2.2.2.2.2.2.2 (vp_in_nI (by omega) (by decide)) (nI_clamp (by omega)) dX9_mooring_100 (q := 101) rfl ?_
    refine v_iinc h (p := 0) (u := nI (i + 1)) (ls1 := [(4, .int (nI (i + 1))), (0, .ref (b_ad w 0)), (1, .int (nI d)), (2, .int (nI y)), (3, .int (nI n))]) dX9_mooring_101 (q := 104) rfl rfl (nI_1 i) (Nat.le_of_ble_eq_true rfl) rfl ?_
    refine v_goto h (t := 42) dX9_mooring_104 (by decide) ?_
    have hM : (upd (upd A.1.1 (14 + 4 * d) xv) (12 + 2 + 4 * d) (nI i)) = upd A.1.1 (14 + 4 * d) (nI i) := by rw [show 12 + 2 + 4 * d = 14 + 4 * d from rfl, upd_upd]
    have hz := (hW2.scr hn h97.2.1 h97.2.2).big (j := 206) (k := i) (v := r97) hn (Nat.le_refl 206)
    rw [hM] at hz
    exact ih (m - 1) (by omega) (i + 1) (by omega) _ _ hz (scs_up (g := (fun c => nI (scN (gvT A.1.2.1) (upd A.1.1 (14 + 4 * d) (nI c)) (nI y) n))) hsc (by rw [h97.2.1 206 (by decide) (by decide) (by decide), h72.1 206 (by decide) (by decide), b_up_n (by omega)]) ((sc_val hW2 hIM ev2 hn h97.1).trans (by rw [hM])))
set_option maxHeartbeats 4000000 in
set_option maxRecDepth 100000 in
theorem c_X9_mooring {w : bw} {σ : bSt} {A : bA} {b cell n0 : Int32} (hs : sOpera w) (hR : RC σ A) : MV yX9_mooring cX9_mooring 5 (some .int) (rmm 6 152) w [.ref (b_ad w 0), .int b, .int cell, .int n0] σ (pA (oMooring b cell n0 A)) := by
  refine b_met (ls := [(0, .ref (b_ad w 0)), (1, .int b), (2, .int cell), (3, .int n0)]) (by decide) (Nat.le_of_ble_eq_true rfl) rfl (fun x h => ?_)
  refine v_aload_n h (i := 0) dX9_mooring_0 (q := 1) rfl rfl 0 rfl ?_
  refine v_get h (k := 1) (v := .ref (b_ad w 10)) cls9 hs.1.1 hs.1.2 (Nat.le_of_ble_eq_true rfl) m266 rfl dX9_mooring_1 (q := 4) rfl ?_
  refine v_getN h (k := 3) (v := .ref (b_ad w 11)) cls6 hs.2.2.1.1.1 hs.2.2.1.1.2 (Nat.le_of_ble_eq_true rfl) m120 rfl dX9_mooring_4 (q := 7) rfl ?_
  refine v_iload_n h (i := 1) dX9_mooring_7 (q := 8) rfl rfl 1 rfl ?_
  refine v_callV h (As := [.int b]) (rest := []) (c_X0_hold (me := 11) (σ := σ) (b := b) hs.2.2.1.2.1) cal_X0_hold calV_X0_hold m342 ⟨rfl, rfl, Nat.le_of_ble_eq_true rfl, Nat.le_of_ble_eq_true rfl⟩ rfl hs.2.2.1.2.1.1.1 hs.2.2.1.2.1.1.2 ⟨_, _, rfl⟩ rfl (Nat.le_of_ble_eq_true rfl) dX9_mooring_8 (q := 11) rfl (kB (fun c8 => ?_) (fun c8 => ?_))
  · refine v_if_eq h (t := 28) dX9_mooring_11 (by decide) (q := 14) rfl (fun c => absurd c (by decide)) (fun _ => ?_)
    refine v_iload_n h (i := 2) dX9_mooring_14 (q := 15) rfl rfl 2 rfl ?_
    refine v_callS h (As := [.int cell]) (rest := []) (c_X9_isCell (v := cell)) cal_X9_isCell m332 m331 ⟨rfl, rfl, Nat.le_of_ble_eq_true rfl, Nat.le_of_ble_eq_true rfl⟩ rfl rfl (Nat.le_of_ble_eq_true rfl) dX9_mooring_15 (q := 18) rfl (kB (fun c15 => ?_) (fun c15 => ?_))
    · refine v_if_eq h (t := 28) dX9_mooring_18 (by decide) (q := 21) rfl (fun c => absurd c (by decide)) (fun _ => ?_)
      refine v_iload_n h (i := 3) dX9_mooring_21 (q := 22) rfl rfl 3 rfl ?_
      refine v_callS h (As := [.int n0]) (rest := []) (c_X9_isAhead (v := n0)) cal_X9_isAhead m594 m593 ⟨rfl, rfl, Nat.le_of_ble_eq_true rfl, Nat.le_of_ble_eq_true rfl⟩ rfl rfl (Nat.le_of_ble_eq_true rfl) dX9_mooring_22 (q := 25) rfl (kB (fun c22 => ?_) (fun c22 => ?_))
      · refine v_if_ne h (t := 34) dX9_mooring_25 (by decide) (q := 28) rfl (fun _ => ?_) (fun c => absurd c (by decide))
        obtain ⟨d, hd, rfl⟩ := inN_nI ((hold_iff hR).mp c8)
        obtain ⟨y, hy, rfl⟩ := cell_w c15
        obtain ⟨n, hn, rfl⟩ := wi_0 (n := 128) c22 rfl
        have hb9 : d < 9 := Nat.lt_of_lt_of_le hd hR.1.2.1.1.af.2
        refine v_aload_n h (i := 0) dX9_mooring_34 (q := 35) rfl rfl 0 rfl ?_
        refine v_iload_n h (i := 3) dX9_mooring_35 (q := 36) rfl rfl 3 rfl ?_
        refine v_callV h (As := [.int (nI n)]) (rest := []) (c_X9_watchAll (A := A) (σ := σ) (n := n) hs hR hn) cal_X9_watchAll calV_X9_watchAll m634 ⟨rfl, rfl, Nat.le_of_ble_eq_true rfl, Nat.le_of_ble_eq_true rfl⟩ rfl hs.1.1 hs.1.2 ⟨_, _, rfl⟩ rfl (Nat.le_of_ble_eq_true rfl) dX9_mooring_36 (q := 39) rfl (kV (fun σ36 h36 => ?_))
        refine v_iconst h (v := 0) dX9_mooring_39 (q := 40) rfl (by decide) ?_
        refine v_istore h (i := 4) (ls1 := [(4, .int 0), (0, .ref (b_ad w 0)), (1, .int (nI d)), (2, .int (nI y)), (3, .int (nI n))]) dX9_mooring_40 (q := 42) rfl (Nat.le_of_ble_eq_true rfl) rfl ?_
        exact lX9_mooring_42 hs hR h d y n hd hy hn ⟨(hold_iff hR).mp c8, c15, c22⟩ rfl rfl rfl 64 0 rfl _ (A.1.1 (14 + 4 * d)) (by rw [upd_same rfl]; exact h36) (fun c hc => absurd hc (Nat.not_lt_zero c))
      · refine v_if_ne h (t := 34) dX9_mooring_25 (by decide) (q := 28) rfl (fun c => absurd (by decide) c) (fun _ => ?_)
        refine v_aload_n h (i := 0) dX9_mooring_28 (q := 29) rfl rfl 0 rfl ?_
        refine v_iconst h (v := 1) dX9_mooring_29 (q := 30) rfl (by decide) ?_
        refine v_callV h (As := [.int 1]) (rest := []) (c_ref (σ := σ) hs (e := 1) (by decide) rfl) cal_X9_refuse calV_X9_refuse m315 ⟨rfl, rfl, Nat.le_of_ble_eq_true rfl, Nat.le_of_ble_eq_true rfl⟩ rfl hs.1.1 hs.1.2 ⟨_, _, rfl⟩ rfl (Nat.le_of_ble_eq_true rfl) dX9_mooring_30 (q := 33) rfl (kI ?_)
        exact v_iret h dX9_mooring_33 (pA_of (by unfold oMooring; rw [if_neg (fun z => by first | exact c8 ((hold_iff hR).mpr z.1) | exact c15 z.2.1 | exact c22 z.2.2)]; rfl) (hR.err (by decide)))
    · refine v_if_eq h (t := 28) dX9_mooring_18 (by decide) (q := 21) rfl (fun _ => ?_) (fun c => absurd (by decide) c)
      refine v_aload_n h (i := 0) dX9_mooring_28 (q := 29) rfl rfl 0 rfl ?_
      refine v_iconst h (v := 1) dX9_mooring_29 (q := 30) rfl (by decide) ?_
      refine v_callV h (As := [.int 1]) (rest := []) (c_ref (σ := σ) hs (e := 1) (by decide) rfl) cal_X9_refuse calV_X9_refuse m315 ⟨rfl, rfl, Nat.le_of_ble_eq_true rfl, Nat.le_of_ble_eq_true rfl⟩ rfl hs.1.1 hs.1.2 ⟨_, _, rfl⟩ rfl (Nat.le_of_ble_eq_true rfl) dX9_mooring_30 (q := 33) rfl (kI ?_)
      exact v_iret h dX9_mooring_33 (pA_of (by unfold oMooring; rw [if_neg (fun z => by first | exact c8 ((hold_iff hR).mpr z.1) | exact c15 z.2.1 | exact c22 z.2.2)]; rfl) (hR.err (by decide)))
  · refine v_if_eq h (t := 28) dX9_mooring_11 (by decide) (q := 14) rfl (fun _ => ?_) (fun c => absurd (by decide) c)
    refine v_aload_n h (i := 0) dX9_mooring_28 (q := 29) rfl rfl 0 rfl ?_
    refine v_iconst h (v := 1) dX9_mooring_29 (q := 30) rfl (by decide) ?_
    refine v_callV h (As := [.int 1]) (rest := []) (c_ref (σ := σ) hs (e := 1) (by decide) rfl) cal_X9_refuse calV_X9_refuse m315 ⟨rfl, rfl, Nat.le_of_ble_eq_true rfl, Nat.le_of_ble_eq_true rfl⟩ rfl hs.1.1 hs.1.2 ⟨_, _, rfl⟩ rfl (Nat.le_of_ble_eq_true rfl) dX9_mooring_30 (q := 33) rfl (kI ?_)
    exact v_iret h dX9_mooring_33 (pA_of (by unfold oMooring; rw [if_neg (fun z => by first | exact c8 ((hold_iff hR).mpr z.1) | exact c15 z.2.1 | exact c22 z.2.2)]; rfl) (hR.err (by decide)))

set_option maxHeartbeats 4000000 in
set_option maxRecDepth 100000 in
theorem lX9_sooner_42 {w : bw} {σ : bSt} {A : bA} {b cell n0 : Int32} (hs : sOpera w) (hR : RC σ A) {x : bX} (h : Cx x w cX9_sooner RX9 5 (some .int) (rmm 6 152)) : ∀ d y n : Nat, d < afN A.1.1 → y < 64 → n ≤ 128 → inN b (afN A.1.1) ∧ wj cell 0 63 ∧ wj n0 0 128 → b = nI d → cell = nI y → n0 = nI n → ∀ m i : Nat, i + m = 32 → ∀ (τ : bSt) (xv : Int32), WT A (upd A.1.1 (15 + 4 * d) xv) n 9 τ → (∀ c, c < i → τ 206 c = (fun c => nI (scN (gvT A.1.2.1) (upd A.1.1 (15 + 4 * d) (rotR (A.1.1 (15 + 4 * d)) (nI c))) (nI y) n)) c) → V x w 5 (pA (oSooner b cell n0 A)) 42 [(4, .int (nI i)), (0, .ref (b_ad w 0)), (1, .int (nI d)), (2, .int (nI y)), (3, .int (nI n))] [] τ := by
  intro d y n hd hy hn hcond ebd ecy enn
  have hb9 : d < 9 := Nat.lt_of_lt_of_le hd hR.1.2.1.1.af.2
  refine b_ind (fun m ih => ?_)
  intro i him τ xv hW hsc
  obtain ⟨vn, hv1, hv9, ev⟩ := hR.1.2.1.1.2.1
  refine v_iload h (i := 4) dX9_sooner_42 (q := 44) rfl 0 rfl ?_
  refine v_bipush h (v := 32) dX9_sooner_44 (q := 46) rfl (by decide) ?_
  refine v_icmp_ge h (t := 122) dX9_sooner_46 (by decide) (q := 49) rfl (fun c46 => ?_) (fun c46 => ?_)
  · refine v_aload_n h (i := 0) dX9_sooner_122 (q := 123) rfl rfl 1 rfl ?_
    refine v_get h (k := 13) (v := .ref (b_ad w 206)) cls9 hs.1.1 hs.1.2 (Nat.le_of_ble_eq_true rfl) m278 rfl dX9_sooner_123 (q := 126) rfl ?_
    refine v_bipush h (v := 32) dX9_sooner_126 (q := 128) rfl (by decide) ?_
    refine v_callS h (As := [.ref (b_ad w 206), .int 32]) (rest := []) (c_X9_firstOfMost (j := 206) (n0 := 64) (n := 32) (σ := τ) hs.2.2.2.2.2.2.2.2.2.2.2.2.2.2 (by decide) (by decide) (by decide)) cal_X9_firstOfMost m652 m651 ⟨rfl, rfl, Nat.le_of_ble_eq_true rfl, Nat.le_of_ble_eq_true rfl⟩ rfl rfl (Nat.le_of_ble_eq_true rfl) dX9_sooner_128 (q := 131) rfl (kI ?_)
    exact v_iret h dX9_sooner_131 (pA_of (by subst ebd ecy enn; unfold oSooner; rw [if_pos hcond, cl_nI (n := d) (by omega), cl_nI (n := n) (by omega)]; exact fm_leaf (fun c hc => hsc c (by have := nge (k := 32) rfl (by omega) c46; omega))) hW.1)
  · have hi : i < 32 := nlt rfl (by omega) c46
    refine v_aload_n h (i := 0) dX9_sooner_49 (q := 50) rfl rfl 1 rfl ?_
    refine v_get h (k := 12) (v := .ref (b_ad w 69)) cls9 hs.1.1 hs.1.2 (Nat.le_of_ble_eq_true rfl) m277 rfl dX9_sooner_50 (q := 53) rfl ?_
    refine v_getN h (k := 0) (v := .ref (b_ad w 70)) cls4 hs.2.2.2.2.2.2.2.2.2.2.2.2.2.1.1.1 hs.2.2.2.2.2.2.2.2.2.2.2.2.2.1.1.2 (Nat.le_of_ble_eq_true rfl) m249 rfl dX9_sooner_53 (q := 56) rfl ?_
    refine v_getN h (k := 4) (v := .ref (b_ad w 74)) cls0 hs.2.2.2.2.2.2.2.2.2.2.2.2.2.1.2.1.1.1 hs.2.2.2.2.2.2.2.2.2.2.2.2.2.1.2.1.1.2 (Nat.le_of_ble_eq_true rfl) m99 rfl dX9_sooner_56 (q := 59) rfl ?_
    refine v_iload_n h (i := 1) dX9_sooner_59 (q := 60) rfl rfl 2 rfl ?_
    refine v_aload_n h (i := 0) dX9_sooner_60 (q := 61) rfl rfl 1 rfl ?_
    refine v_get h (k := 1) (v := .ref (b_ad w 10)) cls9 hs.1.1 hs.1.2 (Nat.le_of_ble_eq_true rfl) m266 rfl dX9_sooner_61 (q := 64) rfl ?_
    refine v_getN h (k := 3) (v := .ref (b_ad w 11)) cls6 hs.2.2.1.1.1 hs.2.2.1.1.2 (Nat.le_of_ble_eq_true rfl) m120 rfl dX9_sooner_64 (q := 67) rfl ?_
    refine v_getN h (k := 4) (v := .ref (b_ad w 15)) cls0 hs.2.2.1.2.1.1.1 hs.2.2.1.2.1.1.2 (Nat.le_of_ble_eq_true rfl) m99 rfl dX9_sooner_67 (q := 70) rfl ?_
    refine v_iload_n h (i := 1) dX9_sooner_70 (q := 71) rfl rfl 2 rfl ?_
    refine v_iald h (k := d) hs.2.2.1.2.1.2.2.2.2.1 hs.2.2.1.2.1.2.2.2.2.2 (vp_in_nI hb9 (by decide)) (nI_clamp (by omega)) dX9_sooner_71 (q := 72) rfl ?_
    rw [show (τ 15 d : Int32) = A.1.1 (15 + 4 * d) from (hW.1.nb (f := 3) hb9 (by decide))]
    refine v_iload h (i := 4) dX9_sooner_72 (q := 74) rfl 0 rfl ?_
    refine v_callS h (As := [.int (A.1.1 (15 + 4 * d)), .int (nI i)]) (rest := [.int (nI d), .ref (b_ad w 74)]) (c_J6_rotateRight_7cf53 (v := A.1.1 (15 + 4 * d)) (k := nI i)) cal_J6_rotateRight_7cf53 m667 m666 ⟨rfl, rfl, Nat.le_of_ble_eq_true rfl, Nat.le_of_ble_eq_true rfl⟩ rfl rfl (Nat.le_of_ble_eq_true rfl) dX9_sooner_74 (q := 77) rfl (kI ?_)
    refine v_iast h (k := d) hs.2.2.2.2.2.2.2.2.2.2.2.2.2.1.2.1.2.2.2.2.1 hs.2.2.2.2.2.2.2.2.2.2.2.2.2.1.2.1.2.2.2.2.2 (vp_in_nI hb9 (by decide)) (nI_clamp (by omega)) dX9_sooner_77 (q := 78) rfl ?_
    refine v_aload_n h (i := 0) dX9_sooner_78 (q := 79) rfl rfl 1 rfl ?_
    refine v_get h (k := 12) (v := .ref (b_ad w 69)) cls9 hs.1.1 hs.1.2 (Nat.le_of_ble_eq_true rfl) m277 rfl dX9_sooner_79 (q := 82) rfl ?_
    refine v_aload_n h (i := 0) dX9_sooner_82 (q := 83) rfl rfl 1 rfl ?_
    refine v_get h (k := 0) (v := .ref (b_ad w 1)) cls9 hs.1.1 hs.1.2 (Nat.le_of_ble_eq_true rfl) m265 rfl dX9_sooner_83 (q := 86) rfl ?_
    have hob := OB_up (v := rotR (A.1.1 (15 + 4 * d)) (nI i)) hW.2.1 (f := 3) (d := d) (by decide) hb9
    have hIM : IvB (upd (upd A.1.1 (15 + 4 * d) xv) (12 + 3 + 4 * d) (rotR (A.1.1 (15 + 4 * d)) (nI i))) := by
      rw [show 12 + 3 + 4 * d = 15 + 4 * d from rfl, upd_upd]
      exact (hR.1.2.1.part hb9)
    have hhB := (hB_ob hob hIM.1.af hb9).mpr (by unfold afN; rw [upd_n (by omega), upd_n (by omega)]; exact hd)
    have hw1 : (b_up τ 74 d (rotR (A.1.1 (15 + 4 * d)) (nI i))) 69 1 = nI (btOf (upd A.1.1 (15 + 4 * d) xv)) ∧ btOf (upd A.1.1 (15 + 4 * d) xv) + 128 < 20000 ∧ (b_up τ 74 d (rotR (A.1.1 (15 + 4 * d)) (nI i))) 69 2 = nI n := by
      have hbt := hR.1.2.1.bt
      rw [btOf_up (by omega)]
      exact ⟨by rw [hob.1, upd_n (by omega), upd_n (by omega)]; exact hbt.1, by omega, hob.2.1⟩
    refine v_iload_n h (i := 1) dX9_sooner_86 (q := 87) rfl rfl 2 rfl ?_
    refine v_callV h (As := [.ref (b_ad w 1), .int (nI d)]) (rest := []) (c_X4_sail (me := 69) (L := 1) (b := d) (bt := btOf (upd A.1.1 (15 + 4 * d) xv)) (n := n) (σ := b_up τ 74 d (rotR (A.1.1 (15 + 4 * d)) (nI i))) hs.2.2.2.2.2.2.2.2.2.2.2.2.2.1 hs.2.1 (by omega) hb9 hhB hw1.1 hw1.2.1 hw1.2.2 hn) cal_X4_sail calV_X4_sail m608 ⟨rfl, rfl, Nat.le_of_ble_eq_true rfl, Nat.le_of_ble_eq_true rfl⟩ rfl hs.2.2.2.2.2.2.2.2.2.2.2.2.2.1.1.1 hs.2.2.2.2.2.2.2.2.2.2.2.2.2.1.1.2 ⟨_, _, rfl⟩ rfl (Nat.le_of_ble_eq_true rfl) dX9_sooner_87 (q := 90) rfl (kV (fun σ87 h87 => ?_))
    have hW2 := WT_re (f := 3) hW hn hb9 (by unfold afN; rw [upd_n (by omega)]; exact hd) (by decide) hIM.1 h87
    have hw2 := hW2.hb2 hIM
    have ev2 : (upd (upd A.1.1 (15 + 4 * d) xv) (12 + 3 + 4 * d) (rotR (A.1.1 (15 + 4 * d)) (nI i))) 1 = nI vn := by rw [upd_n (by omega), upd_n (by omega)]; exact ev
    refine v_aload_n h (i := 0) dX9_sooner_90 (q := 91) rfl rfl 1 rfl ?_
    refine v_get h (k := 13) (v := .ref (b_ad w 206)) cls9 hs.1.1 hs.1.2 (Nat.le_of_ble_eq_true rfl) m278 rfl dX9_sooner_91 (q := 94) rfl ?_
    refine v_iload h (i := 4) dX9_sooner_94 (q := 96) rfl 0 rfl ?_
    refine v_aload_n h (i := 0) dX9_sooner_96 (q := 97) rfl rfl 1 rfl ?_
    refine v_get h (k := 12) (v := .ref (b_ad w 69)) cls9 hs.1.1 hs.1.2 (Nat.le_of_ble_eq_true rfl) m277 rfl dX9_sooner_97 (q := 100) rfl ?_
    refine v_aload_n h (i := 0) dX9_sooner_100 (q := 101) rfl rfl 1 rfl ?_
    refine v_get h (k := 0) (v := .ref (b_ad w 1)) cls9 hs.1.1 hs.1.2 (Nat.le_of_ble_eq_true rfl) m265 rfl dX9_sooner_101 (q := 104) rfl ?_
    refine v_iload_n h (i := 2) dX9_sooner_104 (q := 105) rfl rfl 3 rfl ?_
    refine v_aload_n h (i := 0) dX9_sooner_105 (q := 106) rfl rfl 1 rfl ?_
    refine v_get h (k := 0) (v := .ref (b_ad w 1)) cls9 hs.1.1 hs.1.2 (Nat.le_of_ble_eq_true rfl) m265 rfl dX9_sooner_106 (q := 109) rfl ?_
    refine v_getN h (k := 0) (v := .int (σ87 1 0)) cls3 hs.2.1.1.1 hs.2.1.1.2 (Nat.le_of_ble_eq_true rfl) m57 rfl dX9_sooner_109 (q := 112) rfl ?_
    rw [show (σ87 1 0 : Int32) = nI vn from (by rw [← ev, ← hW2.1.vwE]; rfl)]
    refine v_callV h (As := [.ref (b_ad w 1), .int (nI y), .int (nI vn)]) (rest := [.int (nI i), .ref (b_ad w 206)]) (c_X4_inTime (me := 69) (L := 1) (bt := btOf (upd (upd A.1.1 (15 + 4 * d) xv) (12 + 3 + 4 * d) (rotR (A.1.1 (15 + 4 * d)) (nI i)))) (n := n) (y := y) (vn := vn) (σ := σ87) hs.2.2.2.2.2.2.2.2.2.2.2.2.2.1 hs.2.1 (by omega) hW2.1.ok hW2.1.ca hv1 hv9 hy hw2.1 hw2.2.1 hw2.2.2 hn (fun k hk b hb => hW2.1.ro (69 + 8 + k) (by omega) (by omega) b hb)) cal_X4_inTime calV_X4_inTime m638 ⟨rfl, rfl, Nat.le_of_ble_eq_true rfl, Nat.le_of_ble_eq_true rfl⟩ rfl hs.2.2.2.2.2.2.2.2.2.2.2.2.2.1.1.1 hs.2.2.2.2.2.2.2.2.2.2.2.2.2.1.1.2 ⟨_, _, rfl⟩ rfl (Nat.le_of_ble_eq_true rfl) dX9_sooner_112 (q := 115) rfl (kR (fun r112 σ112 h112 => ?_))
    refine v_iast h (k := i) hs.2.2.2.2.2.2.2.2.2.2.2.2.2.2.1 hs.2.2.2.2.2.2.2.2.2.2.2.2.2.2.2 (vp_in_nI (by omega) (by decide)) (nI_clamp (by omega)) dX9_sooner_115 (q := 116) rfl ?_
    refine v_iinc h (p := 0) (u := nI (i + 1)) (ls1 := [(4, .int (nI (i + 1))), (0, .ref (b_ad w 0)), (1, .int (nI d)), (2, .int (nI y)), (3, .int (nI n))]) dX9_sooner_116 (q := 119) rfl rfl (nI_1 i) (Nat.le_of_ble_eq_true rfl) rfl ?_
    refine v_goto h (t := 42) dX9_sooner_119 (by decide) ?_
    have hM : (upd (upd A.1.1 (15 + 4 * d) xv) (12 + 3 + 4 * d) (rotR (A.1.1 (15 + 4 * d)) (nI i))) = upd A.1.1 (15 + 4 * d) (rotR (A.1.1 (15 + 4 * d)) (nI i)) := by rw [show 12 + 3 + 4 * d = 15 + 4 * d from rfl, upd_upd]
    have hz := (hW2.scr hn h112.2.1 h112.2.2).big (j := 206) (k := i) (v := r112) hn (Nat.le_refl 206)
    rw [hM] at hz
    exact ih (m - 1) (by omega) (i + 1) (by omega) _ _ hz (scs_up (g := (fun c => nI (scN (gvT A.1.2.1) (upd A.1.1 (15 + 4 * d) (rotR (A.1.1 (15 + 4 * d)) (nI c))) (nI y) n))) hsc (by rw [h112.2.1 206 (by decide) (by decide) (by decide), h87.1 206 (by decide) (by decide), b_up_n (by omega)]) ((sc_val hW2 hIM ev2 hn h112.1).trans (by rw [hM])))
set_option maxHeartbeats 4000000 in
set_option maxRecDepth 100000 in
theorem c_X9_sooner {w : bw} {σ : bSt} {A : bA} {b cell n0 : Int32} (hs : sOpera w) (hR : RC σ A) : MV yX9_sooner cX9_sooner 5 (some .int) (rmm 6 152) w [.ref (b_ad w 0), .int b, .int cell, .int n0] σ (pA (oSooner b cell n0 A)) := by
  refine b_met (ls := [(0, .ref (b_ad w 0)), (1, .int b), (2, .int cell), (3, .int n0)]) (by decide) (Nat.le_of_ble_eq_true rfl) rfl (fun x h => ?_)
  refine v_aload_n h (i := 0) dX9_sooner_0 (q := 1) rfl rfl 0 rfl ?_
  refine v_get h (k := 1) (v := .ref (b_ad w 10)) cls9 hs.1.1 hs.1.2 (Nat.le_of_ble_eq_true rfl) m266 rfl dX9_sooner_1 (q := 4) rfl ?_
  refine v_getN h (k := 3) (v := .ref (b_ad w 11)) cls6 hs.2.2.1.1.1 hs.2.2.1.1.2 (Nat.le_of_ble_eq_true rfl) m120 rfl dX9_sooner_4 (q := 7) rfl ?_
  refine v_iload_n h (i := 1) dX9_sooner_7 (q := 8) rfl rfl 1 rfl ?_
  refine v_callV h (As := [.int b]) (rest := []) (c_X0_hold (me := 11) (σ := σ) (b := b) hs.2.2.1.2.1) cal_X0_hold calV_X0_hold m342 ⟨rfl, rfl, Nat.le_of_ble_eq_true rfl, Nat.le_of_ble_eq_true rfl⟩ rfl hs.2.2.1.2.1.1.1 hs.2.2.1.2.1.1.2 ⟨_, _, rfl⟩ rfl (Nat.le_of_ble_eq_true rfl) dX9_sooner_8 (q := 11) rfl (kB (fun c8 => ?_) (fun c8 => ?_))
  · refine v_if_eq h (t := 28) dX9_sooner_11 (by decide) (q := 14) rfl (fun c => absurd c (by decide)) (fun _ => ?_)
    refine v_iload_n h (i := 2) dX9_sooner_14 (q := 15) rfl rfl 2 rfl ?_
    refine v_callS h (As := [.int cell]) (rest := []) (c_X9_isCell (v := cell)) cal_X9_isCell m332 m331 ⟨rfl, rfl, Nat.le_of_ble_eq_true rfl, Nat.le_of_ble_eq_true rfl⟩ rfl rfl (Nat.le_of_ble_eq_true rfl) dX9_sooner_15 (q := 18) rfl (kB (fun c15 => ?_) (fun c15 => ?_))
    · refine v_if_eq h (t := 28) dX9_sooner_18 (by decide) (q := 21) rfl (fun c => absurd c (by decide)) (fun _ => ?_)
      refine v_iload_n h (i := 3) dX9_sooner_21 (q := 22) rfl rfl 3 rfl ?_
      refine v_callS h (As := [.int n0]) (rest := []) (c_X9_isAhead (v := n0)) cal_X9_isAhead m594 m593 ⟨rfl, rfl, Nat.le_of_ble_eq_true rfl, Nat.le_of_ble_eq_true rfl⟩ rfl rfl (Nat.le_of_ble_eq_true rfl) dX9_sooner_22 (q := 25) rfl (kB (fun c22 => ?_) (fun c22 => ?_))
      · refine v_if_ne h (t := 34) dX9_sooner_25 (by decide) (q := 28) rfl (fun _ => ?_) (fun c => absurd c (by decide))
        obtain ⟨d, hd, rfl⟩ := inN_nI ((hold_iff hR).mp c8)
        obtain ⟨y, hy, rfl⟩ := cell_w c15
        obtain ⟨n, hn, rfl⟩ := wi_0 (n := 128) c22 rfl
        have hb9 : d < 9 := Nat.lt_of_lt_of_le hd hR.1.2.1.1.af.2
        refine v_aload_n h (i := 0) dX9_sooner_34 (q := 35) rfl rfl 0 rfl ?_
        refine v_iload_n h (i := 3) dX9_sooner_35 (q := 36) rfl rfl 3 rfl ?_
        refine v_callV h (As := [.int (nI n)]) (rest := []) (c_X9_watchAll (A := A) (σ := σ) (n := n) hs hR hn) cal_X9_watchAll calV_X9_watchAll m634 ⟨rfl, rfl, Nat.le_of_ble_eq_true rfl, Nat.le_of_ble_eq_true rfl⟩ rfl hs.1.1 hs.1.2 ⟨_, _, rfl⟩ rfl (Nat.le_of_ble_eq_true rfl) dX9_sooner_36 (q := 39) rfl (kV (fun σ36 h36 => ?_))
        refine v_iconst h (v := 0) dX9_sooner_39 (q := 40) rfl (by decide) ?_
        refine v_istore h (i := 4) (ls1 := [(4, .int 0), (0, .ref (b_ad w 0)), (1, .int (nI d)), (2, .int (nI y)), (3, .int (nI n))]) dX9_sooner_40 (q := 42) rfl (Nat.le_of_ble_eq_true rfl) rfl ?_
        exact lX9_sooner_42 hs hR h d y n hd hy hn ⟨(hold_iff hR).mp c8, c15, c22⟩ rfl rfl rfl 32 0 rfl _ (A.1.1 (15 + 4 * d)) (by rw [upd_same rfl]; exact h36) (fun c hc => absurd hc (Nat.not_lt_zero c))
      · refine v_if_ne h (t := 34) dX9_sooner_25 (by decide) (q := 28) rfl (fun c => absurd (by decide) c) (fun _ => ?_)
        refine v_aload_n h (i := 0) dX9_sooner_28 (q := 29) rfl rfl 0 rfl ?_
        refine v_iconst h (v := 1) dX9_sooner_29 (q := 30) rfl (by decide) ?_
        refine v_callV h (As := [.int 1]) (rest := []) (c_ref (σ := σ) hs (e := 1) (by decide) rfl) cal_X9_refuse calV_X9_refuse m315 ⟨rfl, rfl, Nat.le_of_ble_eq_true rfl, Nat.le_of_ble_eq_true rfl⟩ rfl hs.1.1 hs.1.2 ⟨_, _, rfl⟩ rfl (Nat.le_of_ble_eq_true rfl) dX9_sooner_30 (q := 33) rfl (kI ?_)
        exact v_iret h dX9_sooner_33 (pA_of (by unfold oSooner; rw [if_neg (fun z => by first | exact c8 ((hold_iff hR).mpr z.1) | exact c15 z.2.1 | exact c22 z.2.2)]; rfl) (hR.err (by decide)))
    · refine v_if_eq h (t := 28) dX9_sooner_18 (by decide) (q := 21) rfl (fun _ => ?_) (fun c => absurd (by decide) c)
      refine v_aload_n h (i := 0) dX9_sooner_28 (q := 29) rfl rfl 0 rfl ?_
      refine v_iconst h (v := 1) dX9_sooner_29 (q := 30) rfl (by decide) ?_
      refine v_callV h (As := [.int 1]) (rest := []) (c_ref (σ := σ) hs (e := 1) (by decide) rfl) cal_X9_refuse calV_X9_refuse m315 ⟨rfl, rfl, Nat.le_of_ble_eq_true rfl, Nat.le_of_ble_eq_true rfl⟩ rfl hs.1.1 hs.1.2 ⟨_, _, rfl⟩ rfl (Nat.le_of_ble_eq_true rfl) dX9_sooner_30 (q := 33) rfl (kI ?_)
      exact v_iret h dX9_sooner_33 (pA_of (by unfold oSooner; rw [if_neg (fun z => by first | exact c8 ((hold_iff hR).mpr z.1) | exact c15 z.2.1 | exact c22 z.2.2)]; rfl) (hR.err (by decide)))
  · refine v_if_eq h (t := 28) dX9_sooner_11 (by decide) (q := 14) rfl (fun _ => ?_) (fun c => absurd (by decide) c)
    refine v_aload_n h (i := 0) dX9_sooner_28 (q := 29) rfl rfl 0 rfl ?_
    refine v_iconst h (v := 1) dX9_sooner_29 (q := 30) rfl (by decide) ?_
    refine v_callV h (As := [.int 1]) (rest := []) (c_ref (σ := σ) hs (e := 1) (by decide) rfl) cal_X9_refuse calV_X9_refuse m315 ⟨rfl, rfl, Nat.le_of_ble_eq_true rfl, Nat.le_of_ble_eq_true rfl⟩ rfl hs.1.1 hs.1.2 ⟨_, _, rfl⟩ rfl (Nat.le_of_ble_eq_true rfl) dX9_sooner_30 (q := 33) rfl (kI ?_)
    exact v_iret h dX9_sooner_33 (pA_of (by unfold oSooner; rw [if_neg (fun z => by first | exact c8 ((hold_iff hR).mpr z.1) | exact c15 z.2.1 | exact c22 z.2.2)]; rfl) (hR.err (by decide)))

set_option maxHeartbeats 4000000 in
set_option maxRecDepth 100000 in
theorem lX9_fitSpeed_27 {w : bw} {σ : bSt} {A : bA} {cell n0 : Int32} (hs : sOpera w) (hR : RC σ A) {x : bX} (h : Cx x w cX9_fitSpeed RX9 4 (some .int) (rmm 6 152)) : ∀ y n : Nat, y < 64 → n ≤ 128 → wj cell 0 63 ∧ wj n0 0 128 → cell = nI y → n0 = nI n → ∀ m i : Nat, i + m = 9 → ∀ τ : bSt, WT A A.1.1 n 9 τ → (∀ c, c < i → τ 206 c = (fun c => nI (scN (gvT A.1.2.1) (upd A.1.1 1 (nI (c + 1))) (nI y) n)) c) → V x w 4 (pA (oFit cell n0 A)) 27 [(3, .int (nI (i + 1))), (0, .ref (b_ad w 0)), (1, .int (nI y)), (2, .int (nI n))] [] τ := by
  intro y n hy hn hcond ecy enn
  refine b_ind (fun m ih => ?_)
  intro i him τ hW hsc
  refine v_iload_n h (i := 3) dX9_fitSpeed_27 (q := 28) rfl rfl 0 rfl ?_
  refine v_bipush h (v := 9) dX9_fitSpeed_28 (q := 30) rfl (by decide) ?_
  refine v_icmp_gt h (t := 60) dX9_fitSpeed_30 (by decide) (q := 33) rfl (fun c30 => ?_) (fun c30 => ?_)
  · refine v_aload_n h (i := 0) dX9_fitSpeed_60 (q := 61) rfl rfl 1 rfl ?_
    refine v_get h (k := 13) (v := .ref (b_ad w 206)) cls9 hs.1.1 hs.1.2 (Nat.le_of_ble_eq_true rfl) m278 rfl dX9_fitSpeed_61 (q := 64) rfl ?_
    refine v_bipush h (v := 9) dX9_fitSpeed_64 (q := 66) rfl (by decide) ?_
    refine v_callS h (As := [.ref (b_ad w 206), .int 9]) (rest := []) (c_X9_firstOfMost (j := 206) (n0 := 64) (n := 9) (σ := τ) hs.2.2.2.2.2.2.2.2.2.2.2.2.2.2 (by decide) (by decide) (by decide)) cal_X9_firstOfMost m652 m651 ⟨rfl, rfl, Nat.le_of_ble_eq_true rfl, Nat.le_of_ble_eq_true rfl⟩ rfl rfl (Nat.le_of_ble_eq_true rfl) dX9_fitSpeed_66 (q := 69) rfl (kI ?_)
    refine v_iconst h (v := 1) dX9_fitSpeed_69 (q := 70) rfl (by decide) ?_
    refine v_iadd h dX9_fitSpeed_70 (q := 71) rfl ?_
    rw [show ((nI (fmN (τ 206) 9)) + 1 : Int32) = nI (fmN (τ 206) 9 + 1) from (nI_1 _)]
    exact v_iret h dX9_fitSpeed_71 (pA_of (by subst ecy enn; unfold oFit; rw [if_pos hcond, cl_nI (n := n) (by omega), ← fm_cg 9 (g := (fun c => nI (scN (gvT A.1.2.1) (upd A.1.1 1 (nI (c + 1))) (nI y) n))) (fun c hc => hsc c (by have := (nI_ltI (a := 9) (b := i + 1) (by decide) (by omega)).mp c30; omega))]) hW.1)
  · have hi : i < 9 := by
      apply Classical.byContradiction
      intro z
      exact c30 ((nI_ltI (a := 9) (b := i + 1) (by decide) (by omega)).mpr (by omega))
    have hIM : IvB (upd A.1.1 1 (nI (i + 1))) := hR.1.2.1.speed ⟨i + 1, by omega, by omega, rfl⟩
    have hW2 := WT_sp (v := nI (i + 1)) hW
    have hw2 := hW2.hb2 hIM
    have hv1 : 1 ≤ i + 1 := by omega
    have hv9 : i + 1 ≤ 9 := by omega
    refine v_aload_n h (i := 0) dX9_fitSpeed_33 (q := 34) rfl rfl 1 rfl ?_
    refine v_get h (k := 13) (v := .ref (b_ad w 206)) cls9 hs.1.1 hs.1.2 (Nat.le_of_ble_eq_true rfl) m278 rfl dX9_fitSpeed_34 (q := 37) rfl ?_
    refine v_iload_n h (i := 3) dX9_fitSpeed_37 (q := 38) rfl rfl 0 rfl ?_
    refine v_iconst h (v := 1) dX9_fitSpeed_38 (q := 39) rfl (by decide) ?_
    refine v_isub h dX9_fitSpeed_39 (q := 40) rfl ?_
    rw [show ((nI (i + 1)) - 1 : Int32) = nI i from (by rw [show (1 : Int32) = nI 1 from rfl, nI_sub 1 (by omega)]; rfl)]
    refine v_aload_n h (i := 0) dX9_fitSpeed_40 (q := 41) rfl rfl 1 rfl ?_
    refine v_get h (k := 12) (v := .ref (b_ad w 69)) cls9 hs.1.1 hs.1.2 (Nat.le_of_ble_eq_true rfl) m277 rfl dX9_fitSpeed_41 (q := 44) rfl ?_
    refine v_aload_n h (i := 0) dX9_fitSpeed_44 (q := 45) rfl rfl 1 rfl ?_
    refine v_get h (k := 0) (v := .ref (b_ad w 1)) cls9 hs.1.1 hs.1.2 (Nat.le_of_ble_eq_true rfl) m265 rfl dX9_fitSpeed_45 (q := 48) rfl ?_
    refine v_iload_n h (i := 1) dX9_fitSpeed_48 (q := 49) rfl rfl 2 rfl ?_
    refine v_iload_n h (i := 3) dX9_fitSpeed_49 (q := 50) rfl rfl 0 rfl ?_
    refine v_callV h (As := [.ref (b_ad w 1), .int (nI y), .int (nI (i + 1))]) (rest := [.int (nI i), .ref (b_ad w 206)]) (c_X4_inTime (me := 69) (L := 1) (bt := btOf (upd A.1.1 1 (nI (i + 1)))) (n := n) (y := y) (vn := i + 1) (σ := τ) hs.2.2.2.2.2.2.2.2.2.2.2.2.2.1 hs.2.1 (by omega) hW2.1.ok hW2.1.ca hv1 hv9 hy hw2.1 hw2.2.1 hw2.2.2 hn (fun k hk b hb => hW2.1.ro (69 + 8 + k) (by omega) (by omega) b hb)) cal_X4_inTime calV_X4_inTime m638 ⟨rfl, rfl, Nat.le_of_ble_eq_true rfl, Nat.le_of_ble_eq_true rfl⟩ rfl hs.2.2.2.2.2.2.2.2.2.2.2.2.2.1.1.1 hs.2.2.2.2.2.2.2.2.2.2.2.2.2.1.1.2 ⟨_, _, rfl⟩ rfl (Nat.le_of_ble_eq_true rfl) dX9_fitSpeed_50 (q := 53) rfl (kR (fun r50 σ50 h50 => ?_))
    refine v_iast h (k := i) hs.2.2.2.2.2.2.2.2.2.2.2.2.2.2.1 hs.2.2.2.2.2.2.2.2.2.2.2.2.2.2.2 (vp_in_nI (by omega) (by decide)) (nI_clamp (by omega)) dX9_fitSpeed_53 (q := 54) rfl ?_
    refine v_iinc h (p := 0) (u := nI (i + 1 + 1)) (ls1 := [(3, .int (nI (i + 1 + 1))), (0, .ref (b_ad w 0)), (1, .int (nI y)), (2, .int (nI n))]) dX9_fitSpeed_54 (q := 57) rfl rfl (nI_1 (i + 1)) (Nat.le_of_ble_eq_true rfl) rfl ?_
    refine v_goto h (t := 27) dX9_fitSpeed_57 (by decide) ?_
    exact ih (m - 1) (by omega) (i + 1) (by omega) _ ((hW.scr hn h50.2.1 h50.2.2).big hn (Nat.le_refl 206)) (scs_up (g := (fun c => nI (scN (gvT A.1.2.1) (upd A.1.1 1 (nI (c + 1))) (nI y) n))) hsc (h50.2.1 206 (by decide) (by decide) (by decide)) (sc_val hW2 hIM upd_s hn h50.1))
set_option maxHeartbeats 4000000 in
set_option maxRecDepth 100000 in
theorem c_X9_fitSpeed {w : bw} {σ : bSt} {A : bA} {cell n0 : Int32} (hs : sOpera w) (hR : RC σ A) : MV yX9_fitSpeed cX9_fitSpeed 4 (some .int) (rmm 6 152) w [.ref (b_ad w 0), .int cell, .int n0] σ (pA (oFit cell n0 A)) := by
  refine b_met (ls := [(0, .ref (b_ad w 0)), (1, .int cell), (2, .int n0)]) (by decide) (Nat.le_of_ble_eq_true rfl) rfl (fun x h => ?_)
  refine v_iload_n h (i := 1) dX9_fitSpeed_0 (q := 1) rfl rfl 1 rfl ?_
  refine v_callS h (As := [.int cell]) (rest := []) (c_X9_isCell (v := cell)) cal_X9_isCell m332 m331 ⟨rfl, rfl, Nat.le_of_ble_eq_true rfl, Nat.le_of_ble_eq_true rfl⟩ rfl rfl (Nat.le_of_ble_eq_true rfl) dX9_fitSpeed_1 (q := 4) rfl (kB (fun c1 => ?_) (fun c1 => ?_))
  · refine v_if_eq h (t := 14) dX9_fitSpeed_4 (by decide) (q := 7) rfl (fun c => absurd c (by decide)) (fun _ => ?_)
    refine v_iload_n h (i := 2) dX9_fitSpeed_7 (q := 8) rfl rfl 2 rfl ?_
    refine v_callS h (As := [.int n0]) (rest := []) (c_X9_isAhead (v := n0)) cal_X9_isAhead m594 m593 ⟨rfl, rfl, Nat.le_of_ble_eq_true rfl, Nat.le_of_ble_eq_true rfl⟩ rfl rfl (Nat.le_of_ble_eq_true rfl) dX9_fitSpeed_8 (q := 11) rfl (kB (fun c8 => ?_) (fun c8 => ?_))
    · refine v_if_ne h (t := 20) dX9_fitSpeed_11 (by decide) (q := 14) rfl (fun _ => ?_) (fun c => absurd c (by decide))
      obtain ⟨y, hy, rfl⟩ := cell_w c1
      obtain ⟨n, hn, rfl⟩ := wi_0 (n := 128) c8 rfl
      refine v_aload_n h (i := 0) dX9_fitSpeed_20 (q := 21) rfl rfl 0 rfl ?_
      refine v_iload_n h (i := 2) dX9_fitSpeed_21 (q := 22) rfl rfl 2 rfl ?_
      refine v_callV h (As := [.int (nI n)]) (rest := []) (c_X9_watchAll (A := A) (σ := σ) (n := n) hs hR hn) cal_X9_watchAll calV_X9_watchAll m634 ⟨rfl, rfl, Nat.le_of_ble_eq_true rfl, Nat.le_of_ble_eq_true rfl⟩ rfl hs.1.1 hs.1.2 ⟨_, _, rfl⟩ rfl (Nat.le_of_ble_eq_true rfl) dX9_fitSpeed_22 (q := 25) rfl (kV (fun σ22 h22 => ?_))
      refine v_iconst h (v := 1) dX9_fitSpeed_25 (q := 26) rfl (by decide) ?_
      refine v_istore_n h (i := 3) (ls1 := [(3, .int 1), (0, .ref (b_ad w 0)), (1, .int (nI y)), (2, .int (nI n))]) dX9_fitSpeed_26 (q := 27) rfl rfl (Nat.le_of_ble_eq_true rfl) rfl ?_
      exact lX9_fitSpeed_27 hs hR h y n hy hn ⟨c1, c8⟩ rfl rfl 9 0 rfl _ h22 (fun c hc => absurd hc (Nat.not_lt_zero c))
    · refine v_if_ne h (t := 20) dX9_fitSpeed_11 (by decide) (q := 14) rfl (fun c => absurd (by decide) c) (fun _ => ?_)
      refine v_aload_n h (i := 0) dX9_fitSpeed_14 (q := 15) rfl rfl 0 rfl ?_
      refine v_iconst h (v := 1) dX9_fitSpeed_15 (q := 16) rfl (by decide) ?_
      refine v_callV h (As := [.int 1]) (rest := []) (c_ref (σ := σ) hs (e := 1) (by decide) rfl) cal_X9_refuse calV_X9_refuse m315 ⟨rfl, rfl, Nat.le_of_ble_eq_true rfl, Nat.le_of_ble_eq_true rfl⟩ rfl hs.1.1 hs.1.2 ⟨_, _, rfl⟩ rfl (Nat.le_of_ble_eq_true rfl) dX9_fitSpeed_16 (q := 19) rfl (kI ?_)
      exact v_iret h dX9_fitSpeed_19 (pA_of (by unfold oFit; rw [if_neg (fun z => by first | exact c1 z.1 | exact c8 z.2)]; rfl) (hR.err (by decide)))
  · refine v_if_eq h (t := 14) dX9_fitSpeed_4 (by decide) (q := 7) rfl (fun _ => ?_) (fun c => absurd (by decide) c)
    refine v_aload_n h (i := 0) dX9_fitSpeed_14 (q := 15) rfl rfl 0 rfl ?_
    refine v_iconst h (v := 1) dX9_fitSpeed_15 (q := 16) rfl (by decide) ?_
    refine v_callV h (As := [.int 1]) (rest := []) (c_ref (σ := σ) hs (e := 1) (by decide) rfl) cal_X9_refuse calV_X9_refuse m315 ⟨rfl, rfl, Nat.le_of_ble_eq_true rfl, Nat.le_of_ble_eq_true rfl⟩ rfl hs.1.1 hs.1.2 ⟨_, _, rfl⟩ rfl (Nat.le_of_ble_eq_true rfl) dX9_fitSpeed_16 (q := 19) rfl (kI ?_)
    exact v_iret h dX9_fitSpeed_19 (pA_of (by unfold oFit; rw [if_neg (fun z => by first | exact c1 z.1 | exact c8 z.2)]; rfl) (hR.err (by decide)))
