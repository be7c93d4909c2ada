def setTp (A : bA) (p : Nat × (Nat → Int32)) : bA := ((A.1.1, A.1.2.1, p, A.1.2.2.2), A.2)
def setWt (A : bA) (p : Nat × (Nat → Int32)) : bA := ((A.1.1, A.1.2.1, A.1.2.2.1, p), A.2)
theorem RC.dsk {σ τ : bSt} {A : bA} {p q : Nat × (Nat → Int32)} (h : RC σ A) (ho : ∀ j, j ≠ 19 → j ≠ 20 → j ≠ 21 → τ j = σ j) (e1 : τ 19 1 = nI p.1) (e2 : p.1 ≤ 50) (e3 : ∀ k, k < 50 → τ 20 k = p.2 k) (e4 : τ 19 3 = nI q.1) (e5 : q.1 ≤ 20) (e6 : ∀ k, k < 20 → τ 21 k = q.2 k) : RC τ ((A.1.1, A.1.2.1, p, q), A.2) := by
  obtain ⟨⟨g1, g2, g3, g4, g5, g6, g7, g8, g9⟩, h2, h3, h4, h5, h6, h7, h8⟩ := h
  refine ⟨⟨by rw [← g1]; exact vw_keep (fun j a b => ho j (by omega) (by omega) (by omega)) (fun j a b => ho j (by omega) (by omega) (by omega)), g2, g3.at (fun j a b c => ho j (by omega) (by omega) (by omega)), e1, e2, e3, e4, e5, e6⟩, cacheOK_at h2 (fun j a b _ _ => ho j (by omega) (by omega) (by omega)), by rw [ho 0 (by omega) (by omega) (by omega)]; exact h3,
    fun z => (h4 z).at ⟨fun j a b => ho j (by omega) (by omega) (by omega), fun j a b c => ho j (by omega) (by omega) (by omega), fun j a b => ho j (by omega) (by omega) (by omega)⟩,
    by rw [ho 54 (by omega) (by omega) (by omega)]; exact h5, by rw [ho 52 (by omega) (by omega) (by omega), ho 53 (by omega) (by omega) (by omega)]; exact h6, h7.at (fun j a b => ho j (by omega) (by omega) (by omega)), h8.at (fun j a b => ho j (by omega) (by omega) (by omega))⟩
theorem RC.fed {σ : bSt} {A : bA} (h : RC σ A) : σ 19 1 = nI A.1.2.2.1.1 ∧ A.1.2.2.1.1 ≤ 50 ∧ ∀ k, k < 50 → σ 20 k = A.1.2.2.1.2 k := ⟨h.1.2.2.2.1, h.1.2.2.2.2.1, h.1.2.2.2.2.2.1⟩
theorem RC.wt {σ : bSt} {A : bA} (h : RC σ A) : σ 19 3 = nI A.1.2.2.2.1 ∧ A.1.2.2.2.1 ≤ 20 ∧ ∀ k, k < 20 → σ 21 k = A.1.2.2.2.2 k := ⟨h.1.2.2.2.2.2.2.1, h.1.2.2.2.2.2.2.2.1, h.1.2.2.2.2.2.2.2.2⟩
theorem tpF_congr {f g : Nat → Int32} {a : Nat} {word : Int64} (h : ∀ j, j < 50 → f j = g j) : ∀ k j, j < 50 → tpF f a word k j = tpF g a word k j
  | 0, j, hj => h j hj
  | k + 1, j, hj => by
    show upd _ _ _ j = upd _ _ _ j
    unfold upd
    by_cases c : j = a + k
    · rw [if_pos c, if_pos c]
    · rw [if_neg c, if_neg c]
      exact tpF_congr h k j hj
def oFeed (word : Int64) (n : Int32) (A : bA) : Int32 × bA := if wj n 1 8 then (if A.1.2.2.1.1 + cl n ≤ 50 then (nI (A.1.2.2.1.1 + cl n), setTp A (A.1.2.2.1.1 + cl n, tpF A.1.2.2.1.2 A.1.2.2.1.1 word (cl n))) else refA 4 A) else refA 1 A
theorem RC.feed {σ : bSt} {A : bA} (h : RC σ A) {word : Int64} {n : Nat} (hn : A.1.2.2.1.1 + n ≤ 50) : RC (dtk σ 19 A.1.2.2.1.1 word n) (setTp A (A.1.2.2.1.1 + n, tpF A.1.2.2.1.2 A.1.2.2.1.1 word n)) := by
  refine h.dsk (p := (A.1.2.2.1.1 + n, tpF A.1.2.2.1.2 A.1.2.2.1.1 word n)) (q := A.1.2.2.2) (fun j a b c => ?_) ?_ hn (fun k hk => ?_) ?_ h.wt.2.1 (fun k hk => ?_)
  · unfold dtk
    rw [b_up_n a, b_set_n (by omega)]
  · unfold dtk
    rw [b_up_s, upd_s]
  · unfold dtk
    rw [b_up_n (by omega), b_set_s]
    exact tpF_congr h.fed.2.2 n k hk
  · unfold dtk
    rw [b_up_s, upd_n (by omega), b_set_n (by omega)]
    exact h.wt.1
  · unfold dtk
    rw [b_up_n (by omega), b_set_n (by omega)]
    exact h.wt.2.2 k hk
def oLaw (use a b c : Int32) (A : bA) : Int32 × bA := if wj use 0 1 then (gvT A.1.2.1 use a b c, A) else refA 1 A
def oSeed (v : Int32) (A : bA) : Int32 × bA := (A.1.1 11, setN A (upd A.1.1 11 v))
def oTell (v : Int32) (A : bA) : Int32 × bA := if A.1.2.2.2.1 < 20 then (nI (A.1.2.2.2.1 + 1), setWt A (A.1.2.2.2.1 + 1, upd A.1.2.2.2.2 A.1.2.2.2.1 v)) else refA 4 A
theorem RC.tell {σ : bSt} {A : bA} (h : RC σ A) {v : Int32} (hn : A.1.2.2.2.1 < 20) : RC (b_up (b_up σ 21 A.1.2.2.2.1 v) 19 3 (nI (A.1.2.2.2.1 + 1))) (setWt A (A.1.2.2.2.1 + 1, upd A.1.2.2.2.2 A.1.2.2.2.1 v)) := by
  refine h.dsk (p := A.1.2.2.1) (q := (A.1.2.2.2.1 + 1, upd A.1.2.2.2.2 A.1.2.2.2.1 v)) (fun j a b c => ?_) ?_ h.fed.2.1 (fun k hk => ?_) ?_ (by show A.1.2.2.2.1 + 1 ≤ 20; omega) (fun k hk => ?_)
  · rw [b_up_n a, b_up_n c]
  · rw [b_up_s, upd_n (by omega), b_up_n (by omega)]
    exact h.fed.1
  · rw [b_up_n (by omega), b_up_n (by omega)]
    exact h.fed.2.2 k hk
  · rw [b_up_s, upd_s]
  · rw [b_up_n (by omega), b_up_s]
    show upd _ _ _ k = upd _ _ _ k
    unfold upd
    by_cases c : k = A.1.2.2.2.1
    · rw [if_pos c, if_pos c]
    · rw [if_neg c, if_neg c]
      exact h.wt.2.2 k hk
def oTrace (i : Int32) (A : bA) : Int32 × bA := if inN i A.2.2.2.2.1.1 then (A.2.2.2.2.1.2 (cl i), A) else refA 2 A
def oTold (k : Int32) (A : bA) : Int32 × bA := if wj k 1 5 then (A.2.2.2.1 (cl k), A) else refA 1 A
def coN (N : bN) : Nat → Int32
  | 0 => 0
  | n + 1 => if n < liN N then coN N n + N (50 + 3 * n) else coN N n
def oCount (what : Int32) (A : bA) : Int32 × bA :=
  if what = 0 then (A.1.1 0, A) else if what = 1 then (A.1.1 7, A) else if what = 2 then (A.1.1 8, A) else if what = 3 then (bcJ (sngN A.1.1 9), A) else if what = 4 then (A.1.1 6, A) else
  if what = 5 then (coN A.1.1 6, A) else if what = 6 then (A.1.1 1, A) else if what = 7 then (nI A.1.2.2.1.1, A) else if what = 8 then (nI A.1.2.2.2.1, A) else if what = 9 then (nI A.2.2.2.2.1.1, A) else if what = 10 then (A.1.1 11, A) else refA 1 A
theorem coN_eq {σ : bSt} {A : bA} (h : RC σ A) : ∀ n, n ≤ 6 → cnF σ 10 n = coN A.1.1 n
  | 0, _ => rfl
  | n + 1, hn => by
    rw [cnF, coN, coN_eq h n (by omega), show σ (10 + 8) n = A.1.1 (50 + 3 * n) from h.nl (f := 2) (by omega) (by decide)]
    have e := h.li
    have c : (n : Int) < (σ 10 4).toInt ↔ n < liN A.1.1 := by
      rw [e.1, nI_toInt (by omega)]
      omega
    by_cases d : n < liN A.1.1
    · rw [if_pos d, if_pos (c.mpr d)]
    · rw [if_neg d, if_neg (fun z => d (c.mp z))]
theorem sng_eq {σ : bSt} {A : bA} (h : RC σ A) : sngF σ 11 (σ 10 0 &&& 31) 9 = sngN A.1.1 9 := by
  rw [show σ 10 0 &&& 31 = nI (tN (vw σ 10 1)) from h.iv.t.1, show sngF σ 11 _ 9 = sngN (vw σ 10 1) 9 from sng_vw h.iv 9 (by omega), h.vwE]
theorem RC.tr {σ : bSt} {A : bA} (h : RC σ A) : σ 52 1 = nI A.2.2.2.2.1.1 ∧ A.2.2.2.2.1.1 ≤ 40 ∧ ∀ k, k < 40 → σ 53 k = A.2.2.2.2.1.2 k := h.2.2.2.2.2.1
theorem RC.er {σ : bSt} {A : bA} (h : RC σ A) {k : Nat} (hk : k < 6) : σ 54 k = A.2.2.2.1 k := h.2.2.2.2.1 k hk
theorem kA {x : bX} {w : bw} {nL : Nat} {post : Option Value → bSt → Prop} {q : Nat} {ls : List (Nat × Value)} {rest : List Value} {r : Int32 × bA} (a : ∀ σ', RC σ' r.2 → V x w nL post q ls (.int r.1 :: rest) σ') : ∀ (v : Option Value) (σ' : bSt), pA r v σ' → V x w nL post q ls (v.toList ++ rest) σ' := by
  rintro v σ' ⟨rfl, h⟩
  exact a σ' h

set_option maxHeartbeats 4000000 in
set_option maxRecDepth 100000 in
theorem c_X9_feed {w : bw} {σ : bSt} {A : bA} {word : Int64} {n : Int32} (hs : sOpera w) (hR : RC σ A) : MV yX9_feed cX9_feed 4 (some .int) (rmm 1 24) w [.ref (b_ad w 0), .long word, .int n] σ (pA (oFeed word n A)) := by
  refine b_met (ls := [(0, .ref (b_ad w 0)), (1, .long word), (3, .int n)]) (by decide) (Nat.le_of_ble_eq_true rfl) rfl (fun x h => ?_)
  refine v_iload_n h (i := 3) dX9_feed_0 (q := 1) rfl rfl 2 rfl ?_
  refine v_iconst h (v := 1) dX9_feed_1 (q := 2) rfl (by decide) ?_
  refine v_bipush h (v := 8) dX9_feed_2 (q := 4) rfl (by decide) ?_
  refine v_callS h (As := [.int n, .int 1, .int 8]) (rest := []) (c_X9_within (v := n) (l := 1) (m := 8)) cal_X9_within m313 m312 ⟨rfl, rfl, Nat.le_of_ble_eq_true rfl, Nat.le_of_ble_eq_true rfl⟩ rfl rfl (Nat.le_of_ble_eq_true rfl) dX9_feed_4 (q := 7) rfl (kB (fun c4 => ?_) (fun c4 => ?_))
  · refine v_if_ne h (t := 16) dX9_feed_7 (by decide) (q := 10) rfl (fun _ => ?_) (fun c => absurd c (by decide))
    obtain ⟨k, hk1, hk8, rfl⟩ := wi_1 (n := 8) c4 rfl
    have hfd := hR.fed.2.1
    refine v_aload_n h (i := 0) dX9_feed_16 (q := 17) rfl rfl 0 rfl ?_
    refine v_get h (k := 2) (v := .ref (b_ad w 19)) cls9 hs.1.1 hs.1.2 (Nat.le_of_ble_eq_true rfl) m267 rfl dX9_feed_17 (q := 20) rfl ?_
    refine v_getN h (k := 1) (v := .int (σ 19 1)) cls1 hs.2.2.2.1.1.1 hs.2.2.2.1.1.2 (Nat.le_of_ble_eq_true rfl) m154 rfl dX9_feed_20 (q := 23) rfl ?_
    rw [show (σ 19 1 : Int32) = nI A.1.2.2.1.1 from hR.fed.1]
    refine v_iload_n h (i := 3) dX9_feed_23 (q := 24) rfl rfl 2 rfl ?_
    refine v_iadd h dX9_feed_24 (q := 25) rfl ?_
    rw [show ((nI A.1.2.2.1.1) + (nI k) : Int32) = nI (A.1.2.2.1.1 + k) from (nI_add _ k)]
    refine v_bipush h (v := 50) dX9_feed_25 (q := 27) rfl (by decide) ?_
    refine v_icmp_le h (t := 36) dX9_feed_27 (by decide) (q := 30) rfl (fun c27 => ?_) (fun c27 => ?_)
    · have hf50 : A.1.2.2.1.1 + k ≤ 50 := (nI_leI (by omega) (by decide)).mp c27
      refine v_aload_n h (i := 0) dX9_feed_36 (q := 37) rfl rfl 0 rfl ?_
      refine v_get h (k := 2) (v := .ref (b_ad w 19)) cls9 hs.1.1 hs.1.2 (Nat.le_of_ble_eq_true rfl) m267 rfl dX9_feed_37 (q := 40) rfl ?_
      refine v_lload_n h (i := 1) dX9_feed_40 (q := 41) rfl rfl 1 rfl ?_
      refine v_iload_n h (i := 3) dX9_feed_41 (q := 42) rfl rfl 2 rfl ?_
      refine v_callV h (As := [.long word, .int (nI k)]) (rest := []) (c_X1_take (me := 19) (σ := σ) (f := A.1.2.2.1.1) (n := k) (word := word) hs.2.2.2.1 hR.fed.1 hf50) cal_X1_take calV_X1_take m466 ⟨rfl, rfl, Nat.le_of_ble_eq_true rfl, Nat.le_of_ble_eq_true rfl⟩ rfl hs.2.2.2.1.1.1 hs.2.2.2.1.1.2 ⟨_, _, rfl⟩ rfl (Nat.le_of_ble_eq_true rfl) dX9_feed_42 (q := 45) rfl (kU ?_)
      refine v_aload_n h (i := 0) dX9_feed_45 (q := 46) rfl rfl 0 rfl ?_
      refine v_get h (k := 2) (v := .ref (b_ad w 19)) cls9 hs.1.1 hs.1.2 (Nat.le_of_ble_eq_true rfl) m267 rfl dX9_feed_46 (q := 49) rfl ?_
      refine v_getN h (k := 1) (v := .int ((dtk σ 19 A.1.2.2.1.1 word k) 19 1)) cls1 hs.2.2.2.1.1.1 hs.2.2.2.1.1.2 (Nat.le_of_ble_eq_true rfl) m154 rfl dX9_feed_49 (q := 52) rfl ?_
      rw [show ((dtk σ 19 A.1.2.2.1.1 word k) 19 1 : Int32) = nI (A.1.2.2.1.1 + k) from (by unfold dtk; rw [b_up_s, upd_s])]
      exact v_iret h dX9_feed_52 (pA_of (by unfold oFeed; rw [if_pos (show wj (nI k) 1 8 from c4), cl_nI (by omega), if_pos hf50]) (hR.feed hf50))
    · refine v_aload_n h (i := 0) dX9_feed_30 (q := 31) rfl rfl 0 rfl ?_
      refine v_iconst h (v := 4) dX9_feed_31 (q := 32) rfl (by decide) ?_
      refine v_callV h (As := [.int 4]) (rest := []) (c_ref (σ := σ) hs (e := 4) (by decide) rfl) cal_X9_refuse calV_X9_refuse m315 ⟨rfl, rfl, Nat.le_of_ble_eq_true rfl, Nat.le_of_ble_eq_true rfl⟩ rfl hs.1.1 hs.1.2 ⟨_, _, rfl⟩ rfl (Nat.le_of_ble_eq_true rfl) dX9_feed_32 (q := 35) rfl (kI ?_)
      exact v_iret h dX9_feed_35 (pA_of (by unfold oFeed; rw [if_pos (show wj (nI k) 1 8 from c4), if_neg (fun z => by first | exact c27 ((nI_leI (b := 50) (by omega) (by decide)).mpr (by rw [cl_nI (by omega)] at z; exact z)))]; rfl) (hR.err (by decide)))
  · refine v_if_ne h (t := 16) dX9_feed_7 (by decide) (q := 10) rfl (fun c => absurd (by decide) c) (fun _ => ?_)
    refine v_aload_n h (i := 0) dX9_feed_10 (q := 11) rfl rfl 0 rfl ?_
    refine v_iconst h (v := 1) dX9_feed_11 (q := 12) rfl (by decide) ?_
    refine v_callV h (As := [.int 1]) (rest := []) (c_ref (σ := σ) hs (e := 1) (by decide) rfl) cal_X9_refuse calV_X9_refuse m315 ⟨rfl, rfl, Nat.le_of_ble_eq_true rfl, Nat.le_of_ble_eq_true rfl⟩ rfl hs.1.1 hs.1.2 ⟨_, _, rfl⟩ rfl (Nat.le_of_ble_eq_true rfl) dX9_feed_12 (q := 15) rfl (kI ?_)
    exact v_iret h dX9_feed_15 (pA_of (by unfold oFeed; rw [if_neg (fun z => by first | exact c4 z)]; rfl) (hR.err (by decide)))

set_option maxHeartbeats 4000000 in
set_option maxRecDepth 100000 in
theorem c_X9_law {w : bw} {σ : bSt} {A : bA} {use a b c : Int32} (hs : sOpera w) (hR : RC σ A) : MV yX9_law cX9_law 5 (some .int) (rmm 3 74) w [.ref (b_ad w 0), .int use, .int a, .int b, .int c] σ (pA (oLaw use a b c A)) := by
  refine b_met (ls := [(0, .ref (b_ad w 0)), (1, .int use), (2, .int a), (3, .int b), (4, .int c)]) (by decide) (Nat.le_of_ble_eq_true rfl) rfl (fun x h => ?_)
  refine v_iload_n h (i := 1) dX9_law_0 (q := 1) rfl rfl 1 rfl ?_
  refine v_iconst h (v := 0) dX9_law_1 (q := 2) rfl (by decide) ?_
  refine v_iconst h (v := 1) dX9_law_2 (q := 3) rfl (by decide) ?_
  refine v_callS h (As := [.int use, .int 0, .int 1]) (rest := []) (c_X9_within (v := use) (l := 0) (m := 1)) cal_X9_within m313 m312 ⟨rfl, rfl, Nat.le_of_ble_eq_true rfl, Nat.le_of_ble_eq_true rfl⟩ rfl rfl (Nat.le_of_ble_eq_true rfl) dX9_law_3 (q := 6) rfl (kB (fun c3 => ?_) (fun c3 => ?_))
  · refine v_if_ne h (t := 15) dX9_law_6 (by decide) (q := 9) rfl (fun _ => ?_) (fun c => absurd c (by decide))
    refine v_aload_n h (i := 0) dX9_law_15 (q := 16) rfl rfl 0 rfl ?_
    refine v_get h (k := 0) (v := .ref (b_ad w 1)) cls9 hs.1.1 hs.1.2 (Nat.le_of_ble_eq_true rfl) m265 rfl dX9_law_16 (q := 19) rfl ?_
    refine v_iload_n h (i := 1) dX9_law_19 (q := 20) rfl rfl 1 rfl ?_
    refine v_iload_n h (i := 2) dX9_law_20 (q := 21) rfl rfl 2 rfl ?_
    refine v_iload_n h (i := 3) dX9_law_21 (q := 22) rfl rfl 3 rfl ?_
    refine v_iload h (i := 4) dX9_law_22 (q := 24) rfl 4 rfl ?_
    refine v_callV h (As := [.int use, .int a, .int b, .int c]) (rest := []) (c_X3_gives (me := 1) (σ := σ) (use := use) (a := a) (b := b) (c := c) hs.2.1 hR.ok) cal_X3_gives calV_X3_gives m545 ⟨rfl, rfl, Nat.le_of_ble_eq_true rfl, Nat.le_of_ble_eq_true rfl⟩ rfl hs.2.1.1.1 hs.2.1.1.2 ⟨_, _, rfl⟩ rfl (Nat.le_of_ble_eq_true rfl) dX9_law_24 (q := 27) rfl (kR (fun r24 σ24 h24 => ?_))
    exact v_iret h dX9_law_27 (pA_of (by unfold oLaw; rw [if_pos (show wj use 0 1 from c3), h24.1, hR.gv]) (hR.scrE (fun j a b c _ => h24.2 j (by omega) (by omega)) (cacheOK_at hR.ca (fun j a b c d => h24.2 j (by omega) (by omega))) (hR.ro.at (fun j a b => h24.2 j (by omega) (by omega)))))
  · refine v_if_ne h (t := 15) dX9_law_6 (by decide) (q := 9) rfl (fun c => absurd (by decide) c) (fun _ => ?_)
    refine v_aload_n h (i := 0) dX9_law_9 (q := 10) rfl rfl 0 rfl ?_
    refine v_iconst h (v := 1) dX9_law_10 (q := 11) rfl (by decide) ?_
    refine v_callV h (As := [.int 1]) (rest := []) (c_ref (σ := σ) hs (e := 1) (by decide) rfl) cal_X9_refuse calV_X9_refuse m315 ⟨rfl, rfl, Nat.le_of_ble_eq_true rfl, Nat.le_of_ble_eq_true rfl⟩ rfl hs.1.1 hs.1.2 ⟨_, _, rfl⟩ rfl (Nat.le_of_ble_eq_true rfl) dX9_law_11 (q := 14) rfl (kI ?_)
    exact v_iret h dX9_law_14 (pA_of (by unfold oLaw; rw [if_neg (fun z => by first | exact c3 z)]; rfl) (hR.err (by decide)))

set_option maxHeartbeats 4000000 in
set_option maxRecDepth 100000 in
theorem c_X9_seed {w : bw} {σ : bSt} {A : bA} {v : Int32} (hs : sOpera w) (hR : RC σ A) : MV yX9_seed cX9_seed 3 (some .int) (rmm 0 0) w [.ref (b_ad w 0), .int v] σ (pA (oSeed v A)) := by
  refine b_met (ls := [(0, .ref (b_ad w 0)), (1, .int v)]) (by decide) (Nat.le_of_ble_eq_true rfl) rfl (fun x h => ?_)
  refine v_aload_n h (i := 0) dX9_seed_0 (q := 1) rfl rfl 0 rfl ?_
  refine v_get h (k := 1) (v := .ref (b_ad w 10)) cls9 hs.1.1 hs.1.2 (Nat.le_of_ble_eq_true rfl) m266 rfl dX9_seed_1 (q := 4) rfl ?_
  refine v_getN h (k := 2) (v := .int (σ 10 2)) cls6 hs.2.2.1.1.1 hs.2.2.1.1.2 (Nat.le_of_ble_eq_true rfl) m117 rfl dX9_seed_4 (q := 7) rfl ?_
  refine v_istore_n h (i := 2) (ls1 := [(2, .int (σ 10 2)), (0, .ref (b_ad w 0)), (1, .int v)]) dX9_seed_7 (q := 8) rfl rfl (Nat.le_of_ble_eq_true rfl) rfl ?_
  refine v_aload_n h (i := 0) dX9_seed_8 (q := 9) rfl rfl 1 rfl ?_
  refine v_get h (k := 1) (v := .ref (b_ad w 10)) cls9 hs.1.1 hs.1.2 (Nat.le_of_ble_eq_true rfl) m266 rfl dX9_seed_9 (q := 12) rfl ?_
  refine v_iload_n h (i := 1) dX9_seed_12 (q := 13) rfl rfl 2 rfl ?_
  refine v_putN h (k := 2) cls6 hs.2.2.1.1.1 hs.2.2.1.1.2 (Nat.le_of_ble_eq_true rfl) rfl m117 rfl ⟨rfl, rfl⟩ dX9_seed_13 (q := 16) rfl ?_
  refine v_iload_n h (i := 2) dX9_seed_16 (q := 17) rfl rfl 0 rfl ?_
  exact v_iret h dX9_seed_17 (pA_of (by unfold oSeed; rw [← hR.vwE]; rfl) (hR.up1 (j := 10) (K := 11) (by omega) (vw_ups (f := 2) (by decide) (by decide)) hR.1.2.1.fog))

set_option maxHeartbeats 4000000 in
set_option maxRecDepth 100000 in
theorem c_X9_tell {w : bw} {σ : bSt} {A : bA} {v : Int32} (hs : sOpera w) (hR : RC σ A) : MV yX9_tell cX9_tell 2 (some .int) (rmm 1 21) w [.ref (b_ad w 0), .int v] σ (pA (oTell v A)) := by
  refine b_met (ls := [(0, .ref (b_ad w 0)), (1, .int v)]) (by decide) (Nat.le_of_ble_eq_true rfl) rfl (fun x h => ?_)
  refine v_aload_n h (i := 0) dX9_tell_0 (q := 1) rfl rfl 0 rfl ?_
  refine v_get h (k := 2) (v := .ref (b_ad w 19)) cls9 hs.1.1 hs.1.2 (Nat.le_of_ble_eq_true rfl) m267 rfl dX9_tell_1 (q := 4) rfl ?_
  refine v_getN h (k := 3) (v := .int (σ 19 3)) cls1 hs.2.2.2.1.1.1 hs.2.2.2.1.1.2 (Nat.le_of_ble_eq_true rfl) m158 rfl dX9_tell_4 (q := 7) rfl ?_
  rw [show (σ 19 3 : Int32) = nI A.1.2.2.2.1 from hR.wt.1]
  refine v_bipush h (v := 20) dX9_tell_7 (q := 9) rfl (by decide) ?_
  refine v_icmp_lt h (t := 18) dX9_tell_9 (by decide) (q := 12) rfl (fun c9 => ?_) (fun c9 => ?_)
  · have hw := hR.wt.2.1
    have hu2 : A.1.2.2.2.1 < 20 := (nI_ltI (b := 20) (by omega) (by decide)).mp c9
    refine v_aload_n h (i := 0) dX9_tell_18 (q := 19) rfl rfl 0 rfl ?_
    refine v_get h (k := 2) (v := .ref (b_ad w 19)) cls9 hs.1.1 hs.1.2 (Nat.le_of_ble_eq_true rfl) m267 rfl dX9_tell_19 (q := 22) rfl ?_
    refine v_iload_n h (i := 1) dX9_tell_22 (q := 23) rfl rfl 1 rfl ?_
    refine v_callV h (As := [.int v]) (rest := []) (c_X1_add (me := 19) (u := A.1.2.2.2.1) (v := v) (σ := σ) hs.2.2.2.1 hR.wt.1 hu2) cal_X1_add calV_X1_add m818 ⟨rfl, rfl, Nat.le_of_ble_eq_true rfl, Nat.le_of_ble_eq_true rfl⟩ rfl hs.2.2.2.1.1.1 hs.2.2.2.1.1.2 ⟨_, _, rfl⟩ rfl (Nat.le_of_ble_eq_true rfl) dX9_tell_23 (q := 26) rfl (kI ?_)
    exact v_iret h dX9_tell_26 (pA_of (by unfold oTell; rw [if_pos hu2]) (hR.tell hu2))
  · refine v_aload_n h (i := 0) dX9_tell_12 (q := 13) rfl rfl 0 rfl ?_
    refine v_iconst h (v := 4) dX9_tell_13 (q := 14) rfl (by decide) ?_
    refine v_callV h (As := [.int 4]) (rest := []) (c_ref (σ := σ) hs (e := 4) (by decide) rfl) cal_X9_refuse calV_X9_refuse m315 ⟨rfl, rfl, Nat.le_of_ble_eq_true rfl, Nat.le_of_ble_eq_true rfl⟩ rfl hs.1.1 hs.1.2 ⟨_, _, rfl⟩ rfl (Nat.le_of_ble_eq_true rfl) dX9_tell_14 (q := 17) rfl (kI ?_)
    exact v_iret h dX9_tell_17 (pA_of (by unfold oTell; rw [if_neg (fun z => c9 (nI_lt (b := 20) z (by decide)))]; rfl) (hR.err (by decide)))
