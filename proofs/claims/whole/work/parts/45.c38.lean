/-! the model's part of what a run has come to -/
def MD (row : Nat → Int32) (D : bD) : Prop :=
  (∀ k, k < 66 → k ≠ 9 → k ≠ 10 → row k = D.1 k) ∧ IvB D.1 ∧ MT row D.2.1 ∧ row 9 = nI D.2.2.1.1 ∧ D.2.2.1.1 ≤ 50 ∧ (∀ k, k < 50 → row (66 + k) = D.2.2.1.2 k) ∧ row 10 = nI D.2.2.2.1 ∧ D.2.2.2.1 ≤ 20 ∧ ∀ k, k < 20 → row (116 + k) = D.2.2.2.2 k
def MS4 (σ : bSt) (S : Nat → Int32 × Nat × (Nat → Int32)) : Prop := ∀ s, s < 4 → σ 12 s = (S s).1 ∧ bitsOK (S s).1 ∧ σ 13 s = nI (S s).2.1 ∧ (S s).2.1 ≤ 40 ∧ ((S s).1 = 0 → (S s).2.1 = 0) ∧ ∀ k, k < 40 → σ 14 (40 * s + k) = (S s).2.2 k ∧ seS (S s).1 ((S s).2.2 k) = (S s).2.2 k
def RQ (σ : bSt) (A : bA) : Prop :=
  MD (σ 1) A.1 ∧ CM σ A.1.2.1 ∧ σ 0 3 = A.2.2.1 ∧ (¬ A.2.2.1 = 0 → MD (σ 2) A.2.1) ∧ (∀ k, k < 6 → σ 4 k = A.2.2.2.1 k) ∧ (σ 0 17 = nI A.2.2.2.2.1.1 ∧ A.2.2.2.2.1.1 ≤ 40 ∧ ∀ k, k < 40 → σ 11 k = A.2.2.2.2.1.2 k) ∧ MS4 σ A.2.2.2.2.2
def pM (r : Int32 × bA) : Option Value → bSt → Prop := fun v σ' => v = some (.int r.1) ∧ RQ σ' r.2
def pML (r : Int64 × bA) : Option Value → bSt → Prop := fun v σ' => v = some (.long r.1) ∧ RQ σ' r.2
theorem pM_of {r : Int32 × bA} {x : Int32} {A' : bA} {σ' : bSt} (e : r = (x, A')) (h : RQ σ' A') : pM r (some (.int x)) σ' := by
  subst e
  exact ⟨rfl, h⟩
theorem pML_of {r : Int64 × bA} {x : Int64} {A' : bA} {σ' : bSt} (e : r = (x, A')) (h : RQ σ' A') : pML r (some (.long x)) σ' := by
  subst e
  exact ⟨rfl, h⟩
theorem kM {x : bX} {w : bw} {nL : Nat} {post : Option Value → bSt → Prop} {q : Nat} {ls : List (Nat × Value)} {rest : List Value} {r : Int32 × bA} (a : ∀ σ', RQ σ' r.2 → V x w nL post q ls (.int r.1 :: rest) σ') : ∀ (v : Option Value) (σ' : bSt), pM r v σ' → V x w nL post q ls (v.toList ++ rest) σ' := by
  rintro v σ' ⟨rfl, h⟩
  exact a σ' h
theorem ref1 {A : bA} : refA 1 A = (-1000000001, errA 1 A) := by unfold refA; rw [show (-1000000000 - nI 1 : Int32) = -1000000001 by decide +kernel]
theorem ref2 {A : bA} : refA 2 A = (-1000000002, errA 2 A) := by unfold refA; rw [show (-1000000000 - nI 2 : Int32) = -1000000002 by decide +kernel]
theorem ref3 {A : bA} : refA 3 A = (-1000000003, errA 3 A) := by unfold refA; rw [show (-1000000000 - nI 3 : Int32) = -1000000003 by decide +kernel]
theorem ref4 {A : bA} : refA 4 A = (-1000000004, errA 4 A) := by unfold refA; rw [show (-1000000000 - nI 4 : Int32) = -1000000004 by decide +kernel]
theorem ref5 {A : bA} : refA 5 A = (-1000000005, errA 5 A) := by unfold refA; rw [show (-1000000000 - nI 5 : Int32) = -1000000005 by decide +kernel]
section RMS
variable {σ τ : bSt} {A : bA} {D : bD}
theorem MS4.at {S : Nat → Int32 × Nat × (Nat → Int32)} (h : MS4 σ S) (ho : ∀ j, 12 ≤ j → j ≤ 14 → τ j = σ j) : MS4 τ S := fun s hs => by
  rw [ho 12 (by omega) (by omega), ho 13 (by omega) (by omega), ho 14 (by omega) (by omega)]
  exact h s hs
/-- the row of the moment is written, all else that counts stands -/
theorem RQ.set1 (h : RQ σ A) (h0 : τ 0 3 = σ 0 3 ∧ τ 0 17 = σ 0 17) (ho : ∀ j, (j = 2 ∨ j = 4 ∨ (11 ≤ j ∧ j ≤ 14)) → τ j = σ j) (hD : MD (τ 1) D) (hc : CM τ D.2.1) : RQ τ (D, A.2) := by
  obtain ⟨h1, h2, h3, h4, h5, h6, h7⟩ := h
  exact ⟨hD, hc, by rw [h0.1]; exact h3, fun z => by rw [ho 2 (by omega)]; exact h4 z, by rw [ho 4 (by omega)]; exact h5, by rw [h0.2, ho 11 (by omega)]; exact h6, h7.at (fun j a b => ho j (by omega))⟩
theorem RQ.scr (h : RQ σ A) (h0 : τ 0 3 = σ 0 3 ∧ τ 0 17 = σ 0 17) (ho : ∀ j, (j = 1 ∨ j = 2 ∨ j = 4 ∨ (11 ≤ j ∧ j ≤ 14)) → τ j = σ j) (hc : CM τ A.1.2.1) : RQ τ A :=
  h.set1 (D := A.1) h0 (fun j hj => ho j (by omega)) (by rw [ho 1 (by omega)]; exact h.1) hc
theorem RQ.sM (h : RQ σ A) (s : sM σ τ) (hc : CM τ A.1.2.1) : RQ τ A := h.scr (by rw [s 0 (by omega) (by omega) (by omega)]; exact ⟨rfl, rfl⟩) (fun j hj => s j (by omega) (by omega) (by omega)) hc
theorem RQ.mw (h : RQ σ A) : MW σ A.1.1 A.1.2.1 := ⟨h.1.1, h.1.2.1.1, h.1.2.2.1, h.2.1⟩
theorem RQ.n (h : RQ σ A) {k : Nat} (hk : k < 66 ∧ k ≠ 9 ∧ k ≠ 10) : σ 1 k = A.1.1 k := h.1.1 k hk.1 hk.2.1 hk.2.2
theorem RQ.af (h : RQ σ A) : σ 1 7 = nI (afN A.1.1) ∧ afN A.1.1 ≤ 9 := h.mw.af
theorem RQ.li (h : RQ σ A) : σ 1 8 = nI (liN A.1.1) ∧ liN A.1.1 ≤ 6 := h.mw.li
theorem RQ.fed (h : RQ σ A) : σ 1 9 = nI A.1.2.2.1.1 ∧ A.1.2.2.1.1 ≤ 50 ∧ ∀ k, k < 50 → σ 1 (66 + k) = A.1.2.2.1.2 k := ⟨h.1.2.2.2.1, h.1.2.2.2.2.1, h.1.2.2.2.2.2.1⟩
theorem RQ.wt (h : RQ σ A) : σ 1 10 = nI A.1.2.2.2.1 ∧ A.1.2.2.2.1 ≤ 20 ∧ ∀ k, k < 20 → σ 1 (116 + k) = A.1.2.2.2.2 k := ⟨h.1.2.2.2.2.2.2.1, h.1.2.2.2.2.2.2.2.1, h.1.2.2.2.2.2.2.2.2⟩
theorem RQ.tr (h : RQ σ A) : σ 0 17 = nI A.2.2.2.2.1.1 ∧ A.2.2.2.2.1.1 ≤ 40 ∧ ∀ k, k < 40 → σ 11 k = A.2.2.2.2.1.2 k := h.2.2.2.2.2.1
theorem RQ.er (h : RQ σ A) {k : Nat} (hk : k < 6) : σ 4 k = A.2.2.2.1 k := h.2.2.2.2.1 k hk
theorem RQ.sh (h : RQ σ A) {s : Nat} (hs : s < 4) : σ 12 s = (A.2.2.2.2.2 s).1 ∧ bitsOK (A.2.2.2.2.2 s).1 ∧ σ 13 s = nI (A.2.2.2.2.2 s).2.1 ∧ (A.2.2.2.2.2 s).2.1 ≤ 40 ∧ ((A.2.2.2.2.2 s).1 = 0 → (A.2.2.2.2.2 s).2.1 = 0) ∧ ∀ k, k < 40 → σ 14 (40 * s + k) = (A.2.2.2.2.2 s).2.2 k ∧ seS (A.2.2.2.2.2 s).1 ((A.2.2.2.2.2 s).2.2 k) = (A.2.2.2.2.2 s).2.2 k := h.2.2.2.2.2.2 s hs
theorem RQ.err {e : Nat} (h : RQ σ A) (he : e < 6) : RQ (b_up σ 4 e (σ 4 e + 1)) (errA e A) := by
  obtain ⟨h1, h2, h3, h4, h5, h6, h7⟩ := h
  refine ⟨by rw [b_up_n (by omega)]; exact h1, h2.sc (b_up_n (by omega)), by rw [b_up_n (by omega)]; exact h3, fun z => by rw [b_up_n (by omega)]; exact h4 z, fun k hk => ?_, by rw [b_up_n (by omega), b_up_n (by omega)]; exact h6, h7.at (fun j a b => b_up_n (by omega))⟩
  rw [b_up_s, h5 e he]
  show upd _ e _ k = upd _ e _ k
  unfold upd
  by_cases c : k = e
  · rw [if_pos c, if_pos c]
  · rw [if_neg c, if_neg c]
    exact h5 k hk
theorem MT_up {row : Nat → Int32} {T : bT} {k : Nat} {v : Int32} (h : MT row T) (hk : k < 136) : MT (upd row k v) T := by
  intro u hu
  obtain ⟨a, b, c⟩ := h u hu
  exact ⟨by rw [upd_n (by omega)]; exact a, b, fun i hi => by rw [upd_n (by omega)]; exact c i hi⟩
theorem MD.up {row : Nat → Int32} {k : Nat} {v : Int32} (h : MD row D) (hk : k < 66 ∧ k ≠ 9 ∧ k ≠ 10) (hI : IvB (upd D.1 k v)) : MD (upd row k v) (upd D.1 k v, D.2) := by
  obtain ⟨h1, h2, h3, h4, h5, h6, h7, h8, h9⟩ := h
  refine ⟨fun j j1 j2 j3 => ?_, hI, MT_up h3 (by omega), by rw [upd_n (by omega)]; exact h4, h5, fun i hi => by rw [upd_n (by omega)]; exact h6 i hi, by rw [upd_n (by omega)]; exact h7, h8, fun i hi => by rw [upd_n (by omega)]; exact h9 i hi⟩
  show upd _ k v j = upd _ k v j
  unfold upd
  by_cases e : j = k
  · rw [if_pos e, if_pos e]
  · rw [if_neg e, if_neg e]
    exact h1 j j1 j2 j3
theorem RQ.up1 {k : Nat} {v : Int32} (h : RQ σ A) (hk : k < 66 ∧ k ≠ 9 ∧ k ≠ 10) (hI : IvB (upd A.1.1 k v)) : RQ (b_up σ 1 k v) (setN A (upd A.1.1 k v)) :=
  h.set1 (D := (upd A.1.1 k v, A.1.2)) (by rw [b_up_n (by omega)]; exact ⟨rfl, rfl⟩) (fun j hj => b_up_n (by omega)) (by rw [b_up_s]; exact h.1.up hk hI) (h.2.1.sc (b_up_n (by omega)))
theorem is_iff {k : Int32} {a : Nat} (ha : a < 1000) : wi k 0 (nI a - 1) ↔ inN k a := by
  unfold wi inN
  have e : (nI a - 1).toInt = (a : Int) - 1 := by
    rcases Nat.eq_zero_or_pos a with z | z
    · subst z; rfl
    · rw [show (1 : Int32) = nI 1 from rfl, nI_sub 1 z, nI_toInt (by omega)]
      omega
  rw [i_lt, i_lt, e]
  have h0 : (0 : Int32).toInt = 0 := rfl
  omega
theorem RQ.isb (h : RQ σ A) {k : Int32} : wi k 0 (σ 1 7 - 1) ↔ inN k (afN A.1.1) := by
  rw [h.af.1]
  exact is_iff (by have := h.af.2; omega)
theorem RQ.isl (h : RQ σ A) {k : Int32} : wi k 0 (σ 1 8 - 1) ↔ inN k (liN A.1.1) := by
  rw [h.li.1]
  exact is_iff (by have := h.li.2; omega)
end RMS
theorem ab_up : ∀ j : Nat, j < 7 → (j = 0 → abM (nI j) = -1) ∧ (¬ j = 0 → abM (nI j) = nI (abK j) ∧ abK j < j) := by decide +kernel

set_option maxHeartbeats 4000000 in
set_option maxRecDepth 100000 in
theorem c_X10_tide {w : bw} {σ : bSt} {A : bA} {p v : Int32} (hm : sModel w) (hR : RQ σ A) : MV yX10_tide cX10_tide 3 (some .int) (rmm 1 23) w [.ref (b_ad w 0), .int p, .int v] σ (pM (oTide p v A)) := by
  refine b_met (ls := [(0, .ref (b_ad w 0)), (1, .int p), (2, .int v)]) (by decide) (Nat.le_of_ble_eq_true rfl) rfl (fun x h => ?_)
  refine v_iload_n h (i := 1) dX10_tide_0 (q := 1) rfl rfl 1 rfl ?_
  refine v_iconst h (v := 0) dX10_tide_1 (q := 2) rfl (by decide) ?_
  refine v_iconst h (v := 3) dX10_tide_2 (q := 3) rfl (by decide) ?_
  refine v_callS h (As := [.int p, .int 0, .int 3]) (rest := []) (c_X10_within (v := p) (l := 0) (m := 3)) cal_X10_within m925 m924 ⟨rfl, rfl, Nat.le_of_ble_eq_true rfl, Nat.le_of_ble_eq_true rfl⟩ rfl rfl (Nat.le_of_ble_eq_true rfl) dX10_tide_3 (q := 6) rfl (kB (fun c3 => ?_) (fun c3 => ?_))
  · refine v_if_eq h (t := 29) dX10_tide_6 (by decide) (q := 9) rfl (fun c => absurd c (by decide)) (fun _ => ?_)
    refine v_iload_n h (i := 2) dX10_tide_9 (q := 10) rfl rfl 2 rfl ?_
    refine v_iconst h (v := 0) dX10_tide_10 (q := 11) rfl (by decide) ?_
    refine v_iconst h (v := 4) dX10_tide_11 (q := 12) rfl (by decide) ?_
    refine v_callS h (As := [.int v, .int 0, .int 4]) (rest := []) (c_X10_within (v := v) (l := 0) (m := 4)) cal_X10_within m925 m924 ⟨rfl, rfl, Nat.le_of_ble_eq_true rfl, Nat.le_of_ble_eq_true rfl⟩ rfl rfl (Nat.le_of_ble_eq_true rfl) dX10_tide_12 (q := 15) rfl (kB (fun c12 => ?_) (fun c12 => ?_))
    · refine v_if_eq h (t := 29) dX10_tide_15 (by decide) (q := 18) rfl (fun c => absurd c (by decide)) (fun _ => ?_)
      obtain ⟨k, hk, rfl⟩ := wi_0 (n := 3) c3 rfl
      have hk4 : k < 4 := by omega
      refine v_aload_n h (i := 0) dX10_tide_18 (q := 19) rfl rfl 0 rfl ?_
      refine v_iconst h (v := 2) dX10_tide_19 (q := 20) rfl (by decide) ?_
      refine v_iload_n h (i := 1) dX10_tide_20 (q := 21) rfl rfl 1 rfl ?_
      refine v_iadd h dX10_tide_21 (q := 22) rfl ?_
      rw [show (2 + (nI k) : Int32) = nI (2 + k) from (nI_add 2 k)]
      refine v_iload_n h (i := 2) dX10_tide_22 (q := 23) rfl rfl 2 rfl ?_
      refine v_callV h (As := [.int (nI (2 + k)), .int v]) (rest := []) (c_X10_putIn (σ := σ) (p := (2 + k)) (v := v) hm (by omega)) cal_X10_putIn calV_X10_putIn m927 ⟨rfl, rfl, Nat.le_of_ble_eq_true rfl, Nat.le_of_ble_eq_true rfl⟩ rfl hm.1.1 hm.1.2 ⟨_, _, rfl⟩ rfl (Nat.le_of_ble_eq_true rfl) dX10_tide_23 (q := 26) rfl (kI ?_)
      rw [show (σ 1 ((2 + k)) : Int32) = A.1.1 (2 + k) from (hR.n (by omega))]
      refine v_goto h (t := 35) dX10_tide_26 (by decide) ?_
      exact v_iret h dX10_tide_35 (pM_of (by unfold oTide; rw [if_pos ⟨c3, c12⟩, cl_nI (n := k) (by omega)]) (hR.up1 (by omega) (hR.1.2.1.tide hk4 (wi_0 (n := 4) c12 rfl))))
    · refine v_if_eq h (t := 29) dX10_tide_15 (by decide) (q := 18) rfl (fun _ => ?_) (fun c => absurd (by decide) c)
      refine v_aload_n h (i := 0) dX10_tide_29 (q := 30) rfl rfl 0 rfl ?_
      refine v_ldc h (v := -1000000001) m931 dX10_tide_30 (q := 32) rfl ?_
      refine v_callV h (As := [.int (-1000000001)]) (rest := []) (c_X10_finding (σ := σ) (e := 1) (v := -1000000001) hm (by decide) (by decide +kernel)) cal_X10_finding calV_X10_finding m932 ⟨rfl, rfl, Nat.le_of_ble_eq_true rfl, Nat.le_of_ble_eq_true rfl⟩ rfl hm.1.1 hm.1.2 ⟨_, _, rfl⟩ rfl (Nat.le_of_ble_eq_true rfl) dX10_tide_32 (q := 35) rfl (kI ?_)
      exact v_iret h dX10_tide_35 (pM_of (by unfold oTide; rw [if_neg (fun z => by first | exact c3 z.1 | exact c12 z.2), ref1]) (hR.err (by decide)))
  · refine v_if_eq h (t := 29) dX10_tide_6 (by decide) (q := 9) rfl (fun _ => ?_) (fun c => absurd (by decide) c)
    refine v_aload_n h (i := 0) dX10_tide_29 (q := 30) rfl rfl 0 rfl ?_
    refine v_ldc h (v := -1000000001) m931 dX10_tide_30 (q := 32) rfl ?_
    refine v_callV h (As := [.int (-1000000001)]) (rest := []) (c_X10_finding (σ := σ) (e := 1) (v := -1000000001) hm (by decide) (by decide +kernel)) cal_X10_finding calV_X10_finding m932 ⟨rfl, rfl, Nat.le_of_ble_eq_true rfl, Nat.le_of_ble_eq_true rfl⟩ rfl hm.1.1 hm.1.2 ⟨_, _, rfl⟩ rfl (Nat.le_of_ble_eq_true rfl) dX10_tide_32 (q := 35) rfl (kI ?_)
    exact v_iret h dX10_tide_35 (pM_of (by unfold oTide; rw [if_neg (fun z => by first | exact c3 z.1 | exact c12 z.2), ref1]) (hR.err (by decide)))

set_option maxHeartbeats 4000000 in
set_option maxRecDepth 100000 in
theorem c_X10_speed {w : bw} {σ : bSt} {A : bA} {v : Int32} (hm : sModel w) (hR : RQ σ A) : MV yX10_speed cX10_speed 2 (some .int) (rmm 1 23) w [.ref (b_ad w 0), .int v] σ (pM (oSpeed v A)) := by
  refine b_met (ls := [(0, .ref (b_ad w 0)), (1, .int v)]) (by decide) (Nat.le_of_ble_eq_true rfl) rfl (fun x h => ?_)
  refine v_iload_n h (i := 1) dX10_speed_0 (q := 1) rfl rfl 1 rfl ?_
  refine v_iconst h (v := 1) dX10_speed_1 (q := 2) rfl (by decide) ?_
  refine v_bipush h (v := 9) dX10_speed_2 (q := 4) rfl (by decide) ?_
  refine v_callS h (As := [.int v, .int 1, .int 9]) (rest := []) (c_X10_within (v := v) (l := 1) (m := 9)) cal_X10_within m925 m924 ⟨rfl, rfl, Nat.le_of_ble_eq_true rfl, Nat.le_of_ble_eq_true rfl⟩ rfl rfl (Nat.le_of_ble_eq_true rfl) dX10_speed_4 (q := 7) rfl (kB (fun c4 => ?_) (fun c4 => ?_))
  · refine v_if_eq h (t := 19) dX10_speed_7 (by decide) (q := 10) rfl (fun c => absurd c (by decide)) (fun _ => ?_)
    refine v_aload_n h (i := 0) dX10_speed_10 (q := 11) rfl rfl 0 rfl ?_
    refine v_iconst h (v := 1) dX10_speed_11 (q := 12) rfl (by decide) ?_
    refine v_iload_n h (i := 1) dX10_speed_12 (q := 13) rfl rfl 1 rfl ?_
    refine v_callV h (As := [.int 1, .int v]) (rest := []) (c_X10_putIn (σ := σ) (p := 1) (v := v) hm (by omega)) cal_X10_putIn calV_X10_putIn m927 ⟨rfl, rfl, Nat.le_of_ble_eq_true rfl, Nat.le_of_ble_eq_true rfl⟩ rfl hm.1.1 hm.1.2 ⟨_, _, rfl⟩ rfl (Nat.le_of_ble_eq_true rfl) dX10_speed_13 (q := 16) rfl (kI ?_)
    rw [show (σ 1 1 : Int32) = A.1.1 1 from (hR.n (by omega))]
    refine v_goto h (t := 25) dX10_speed_16 (by decide) ?_
    exact v_iret h dX10_speed_25 (pM_of (by unfold oSpeed; rw [if_pos (show wj v 1 9 from c4)]) (hR.up1 (by omega) (hR.1.2.1.speed (wi_1 (n := 9) c4 rfl))))
  · refine v_if_eq h (t := 19) dX10_speed_7 (by decide) (q := 10) rfl (fun _ => ?_) (fun c => absurd (by decide) c)
    refine v_aload_n h (i := 0) dX10_speed_19 (q := 20) rfl rfl 0 rfl ?_
    refine v_ldc h (v := -1000000001) m931 dX10_speed_20 (q := 22) rfl ?_
    refine v_callV h (As := [.int (-1000000001)]) (rest := []) (c_X10_finding (σ := σ) (e := 1) (v := -1000000001) hm (by decide) (by decide +kernel)) cal_X10_finding calV_X10_finding m932 ⟨rfl, rfl, Nat.le_of_ble_eq_true rfl, Nat.le_of_ble_eq_true rfl⟩ rfl hm.1.1 hm.1.2 ⟨_, _, rfl⟩ rfl (Nat.le_of_ble_eq_true rfl) dX10_speed_22 (q := 25) rfl (kI ?_)
    exact v_iret h dX10_speed_25 (pM_of (by unfold oSpeed; rw [if_neg (fun z => by first | exact c4 z), ref1]) (hR.err (by decide)))

set_option maxHeartbeats 4000000 in
set_option maxRecDepth 100000 in
theorem c_X10_boat {w : bw} {σ : bSt} {A : bA} {km cell : Int32} (hm : sModel w) (hR : RQ σ A) : MV yX10_boat cX10_boat 4 (some .int) (rmm 2 42) w [.ref (b_ad w 0), .int km, .int cell] σ (pM (oBoat km cell A)) := by
  refine b_met (ls := [(0, .ref (b_ad w 0)), (1, .int km), (2, .int cell)]) (by decide) (Nat.le_of_ble_eq_true rfl) rfl (fun x h => ?_)
  refine v_iload_n h (i := 1) dX10_boat_0 (q := 1) rfl rfl 1 rfl ?_
  refine v_iconst h (v := 0) dX10_boat_1 (q := 2) rfl (by decide) ?_
  refine v_bipush h (v := 69) dX10_boat_2 (q := 4) rfl (by decide) ?_
  refine v_callS h (As := [.int km, .int 0, .int 69]) (rest := []) (c_X10_within (v := km) (l := 0) (m := 69)) cal_X10_within m925 m924 ⟨rfl, rfl, Nat.le_of_ble_eq_true rfl, Nat.le_of_ble_eq_true rfl⟩ rfl rfl (Nat.le_of_ble_eq_true rfl) dX10_boat_4 (q := 7) rfl (kB (fun c4 => ?_) (fun c4 => ?_))
  · refine v_if_eq h (t := 17) dX10_boat_7 (by decide) (q := 10) rfl (fun c => absurd c (by decide)) (fun _ => ?_)
    refine v_iload_n h (i := 2) dX10_boat_10 (q := 11) rfl rfl 2 rfl ?_
    refine v_callS h (As := [.int cell]) (rest := []) (c_X10_isCell (v := cell)) cal_X10_isCell m946 m945 ⟨rfl, rfl, Nat.le_of_ble_eq_true rfl, Nat.le_of_ble_eq_true rfl⟩ rfl rfl (Nat.le_of_ble_eq_true rfl) dX10_boat_11 (q := 14) rfl (kB (fun c11 => ?_) (fun c11 => ?_))
    · refine v_if_ne h (t := 24) dX10_boat_14 (by decide) (q := 17) rfl (fun _ => ?_) (fun c => absurd c (by decide))
      refine v_aload_n h (i := 0) dX10_boat_24 (q := 25) rfl rfl 0 rfl ?_
      refine v_get h (k := 0) (v := .ref (b_ad w 1)) cls10 hm.1.1 hm.1.2 (Nat.le_of_ble_eq_true rfl) m849 rfl dX10_boat_25 (q := 28) rfl ?_
      refine v_bipush h (v := 7) dX10_boat_28 (q := 30) rfl (by decide) ?_
      refine v_iald h (k := 7) hm.2.1.1 hm.2.1.2 (vp_in_nI (n := 7) (by decide) (by decide)) (by decide) dX10_boat_30 (q := 31) rfl ?_
      rw [show (σ 1 7 : Int32) = nI (afN A.1.1) from hR.af.1]
      refine v_istore_n h (i := 3) (ls1 := [(3, .int (nI (afN A.1.1))), (0, .ref (b_ad w 0)), (1, .int km), (2, .int cell)]) dX10_boat_31 (q := 32) rfl rfl (Nat.le_of_ble_eq_true rfl) rfl ?_
      refine v_iload_n h (i := 3) dX10_boat_32 (q := 33) rfl rfl 0 rfl ?_
      refine v_bipush h (v := 9) dX10_boat_33 (q := 35) rfl (by decide) ?_
      refine v_icmp_ne h (t := 45) dX10_boat_35 (by decide) (q := 38) rfl (fun c35 => ?_) (fun c35 => ?_)
      · have haf := hR.af.2
        have hb9 : afN A.1.1 < 9 := by
          rcases (show afN A.1.1 < 9 ∨ afN A.1.1 = 9 by omega) with z | z
          · exact z
          · exact absurd (by rw [z]; rfl) c35
        have hI0 := hR.1.2.1
        have h1 := hR.up1 (k := 12 + 4 * afN A.1.1) (by omega) (hI0.kind (b := afN A.1.1) (km_k c4).1)
        have h2 := h1.up1 (k := 13 + 4 * afN A.1.1) (by omega) (h1.1.2.1.numb (b := afN A.1.1) (km_k c4).2)
        have h3 := h2.up1 (k := 14 + 4 * afN A.1.1) (by omega) (h2.1.2.1.cellB (b := afN A.1.1) (cell_w c11))
        have h4 := h3.up1 (k := 15 + 4 * afN A.1.1) (v := 0) (by omega) (h3.1.2.1.part (b := afN A.1.1) hb9)
        have h5 := h4.up1 (k := 7) (by omega) (h4.1.2.1.n7 ⟨afN A.1.1 + 1, by omega, rfl⟩)
        refine v_aload_n h (i := 0) dX10_boat_45 (q := 46) rfl rfl 1 rfl ?_
        refine v_get h (k := 0) (v := .ref (b_ad w 1)) cls10 hm.1.1 hm.1.2 (Nat.le_of_ble_eq_true rfl) m849 rfl dX10_boat_46 (q := 49) rfl ?_
        refine v_bipush h (v := 12) dX10_boat_49 (q := 51) rfl (by decide) ?_
        refine v_iconst h (v := 4) dX10_boat_51 (q := 52) rfl (by decide) ?_
        refine v_iload_n h (i := 3) dX10_boat_52 (q := 53) rfl rfl 0 rfl ?_
        refine v_imul h dX10_boat_53 (q := 54) rfl ?_
        rw [show (4 * (nI (afN A.1.1)) : Int32) = nI (4 * afN A.1.1) from (nI_mulN 4 _)]
        refine v_iadd h dX10_boat_54 (q := 55) rfl ?_
        rw [show (12 + (nI (4 * afN A.1.1)) : Int32) = nI (12 + 4 * afN A.1.1) from (nI_add 12 _)]
        refine v_iconst h (v := 0) dX10_boat_55 (q := 56) rfl (by decide) ?_
        refine v_iadd h dX10_boat_56 (q := 57) rfl ?_
        rw [show ((nI (12 + 4 * afN A.1.1)) + 0 : Int32) = nI (12 + 4 * afN A.1.1) from (by rw [show (0 : Int32) = nI 0 from rfl, nI_add, show 12 + 4 * afN A.1.1 + 0 = 12 + 4 * afN A.1.1 by omega])]
        refine v_iload_n h (i := 1) dX10_boat_57 (q := 58) rfl rfl 2 rfl ?_
        refine v_bipush h (v := 10) dX10_boat_58 (q := 60) rfl (by decide) ?_
        refine v_idiv h dX10_boat_60 (q := 61) rfl (by decide) ?_
        refine v_iast h (k := (12 + 4 * afN A.1.1)) hm.2.1.1 hm.2.1.2 (vp_in_nI (by omega) (by decide)) (nI_clamp (by omega)) dX10_boat_61 (q := 62) rfl ?_
        refine v_aload_n h (i := 0) dX10_boat_62 (q := 63) rfl rfl 1 rfl ?_
        refine v_get h (k := 0) (v := .ref (b_ad w 1)) cls10 hm.1.1 hm.1.2 (Nat.le_of_ble_eq_true rfl) m849 rfl dX10_boat_63 (q := 66) rfl ?_
        refine v_bipush h (v := 12) dX10_boat_66 (q := 68) rfl (by decide) ?_
        refine v_iconst h (v := 4) dX10_boat_68 (q := 69) rfl (by decide) ?_
        refine v_iload_n h (i := 3) dX10_boat_69 (q := 70) rfl rfl 0 rfl ?_
        refine v_imul h dX10_boat_70 (q := 71) rfl ?_
        rw [show (4 * (nI (afN A.1.1)) : Int32) = nI (4 * afN A.1.1) from (nI_mulN 4 _)]
        refine v_iadd h dX10_boat_71 (q := 72) rfl ?_
        rw [show (12 + (nI (4 * afN A.1.1)) : Int32) = nI (12 + 4 * afN A.1.1) from (nI_add 12 _)]
        refine v_iconst h (v := 1) dX10_boat_72 (q := 73) rfl (by decide) ?_
        refine v_iadd h dX10_boat_73 (q := 74) rfl ?_
        rw [show ((nI (12 + 4 * afN A.1.1)) + 1 : Int32) = nI (13 + 4 * afN A.1.1) from (by rw [show (1 : Int32) = nI 1 from rfl, nI_add, show 12 + 4 * afN A.1.1 + 1 = 13 + 4 * afN A.1.1 by omega])]
        refine v_iload_n h (i := 1) dX10_boat_74 (q := 75) rfl rfl 2 rfl ?_
        refine v_bipush h (v := 10) dX10_boat_75 (q := 77) rfl (by decide) ?_
        refine v_irem h dX10_boat_77 (q := 78) rfl (by decide) ?_
        refine v_iast h (k := (13 + 4 * afN A.1.1)) hm.2.1.1 hm.2.1.2 (vp_in_nI (by omega) (by decide)) (nI_clamp (by omega)) dX10_boat_78 (q := 79) rfl ?_
        refine v_aload_n h (i := 0) dX10_boat_79 (q := 80) rfl rfl 1 rfl ?_
        refine v_get h (k := 0) (v := .ref (b_ad w 1)) cls10 hm.1.1 hm.1.2 (Nat.le_of_ble_eq_true rfl) m849 rfl dX10_boat_80 (q := 83) rfl ?_
        refine v_bipush h (v := 12) dX10_boat_83 (q := 85) rfl (by decide) ?_
        refine v_iconst h (v := 4) dX10_boat_85 (q := 86) rfl (by decide) ?_
        refine v_iload_n h (i := 3) dX10_boat_86 (q := 87) rfl rfl 0 rfl ?_
        refine v_imul h dX10_boat_87 (q := 88) rfl ?_
        rw [show (4 * (nI (afN A.1.1)) : Int32) = nI (4 * afN A.1.1) from (nI_mulN 4 _)]
        refine v_iadd h dX10_boat_88 (q := 89) rfl ?_
        rw [show (12 + (nI (4 * afN A.1.1)) : Int32) = nI (12 + 4 * afN A.1.1) from (nI_add 12 _)]
        refine v_iconst h (v := 2) dX10_boat_89 (q := 90) rfl (by decide) ?_
        refine v_iadd h dX10_boat_90 (q := 91) rfl ?_
        rw [show ((nI (12 + 4 * afN A.1.1)) + 2 : Int32) = nI (14 + 4 * afN A.1.1) from (by rw [show (2 : Int32) = nI 2 from rfl, nI_add, show 12 + 4 * afN A.1.1 + 2 = 14 + 4 * afN A.1.1 by omega])]
        refine v_iload_n h (i := 2) dX10_boat_91 (q := 92) rfl rfl 3 rfl ?_
        refine v_iast h (k := (14 + 4 * afN A.1.1)) hm.2.1.1 hm.2.1.2 (vp_in_nI (by omega) (by decide)) (nI_clamp (by omega)) dX10_boat_92 (q := 93) rfl ?_
        refine v_aload_n h (i := 0) dX10_boat_93 (q := 94) rfl rfl 1 rfl ?_
        refine v_get h (k := 0) (v := .ref (b_ad w 1)) cls10 hm.1.1 hm.1.2 (Nat.le_of_ble_eq_true rfl) m849 rfl dX10_boat_94 (q := 97) rfl ?_
        refine v_bipush h (v := 12) dX10_boat_97 (q := 99) rfl (by decide) ?_
        refine v_iconst h (v := 4) dX10_boat_99 (q := 100) rfl (by decide) ?_
        refine v_iload_n h (i := 3) dX10_boat_100 (q := 101) rfl rfl 0 rfl ?_
        refine v_imul h dX10_boat_101 (q := 102) rfl ?_
        rw [show (4 * (nI (afN A.1.1)) : Int32) = nI (4 * afN A.1.1) from (nI_mulN 4 _)]
        refine v_iadd h dX10_boat_102 (q := 103) rfl ?_
        rw [show (12 + (nI (4 * afN A.1.1)) : Int32) = nI (12 + 4 * afN A.1.1) from (nI_add 12 _)]
        refine v_iconst h (v := 3) dX10_boat_103 (q := 104) rfl (by decide) ?_
        refine v_iadd h dX10_boat_104 (q := 105) rfl ?_
        rw [show ((nI (12 + 4 * afN A.1.1)) + 3 : Int32) = nI (15 + 4 * afN A.1.1) from (by rw [show (3 : Int32) = nI 3 from rfl, nI_add, show 12 + 4 * afN A.1.1 + 3 = 15 + 4 * afN A.1.1 by omega])]
        refine v_iconst h (v := 0) dX10_boat_105 (q := 106) rfl (by decide) ?_
        refine v_iast h (k := (15 + 4 * afN A.1.1)) hm.2.1.1 hm.2.1.2 (vp_in_nI (by omega) (by decide)) (nI_clamp (by omega)) dX10_boat_106 (q := 107) rfl ?_
        refine v_aload_n h (i := 0) dX10_boat_107 (q := 108) rfl rfl 1 rfl ?_
        refine v_get h (k := 0) (v := .ref (b_ad w 1)) cls10 hm.1.1 hm.1.2 (Nat.le_of_ble_eq_true rfl) m849 rfl dX10_boat_108 (q := 111) rfl ?_
        refine v_bipush h (v := 7) dX10_boat_111 (q := 113) rfl (by decide) ?_
        refine v_dup2 h dX10_boat_113 (q := 114) rfl rfl rfl ?_
        refine v_iald h (k := 7) hm.2.1.1 hm.2.1.2 (vp_in_nI (n := 7) (by decide) (by decide)) (by decide) dX10_boat_114 (q := 115) rfl ?_
        rw [show ((b_up (b_up (b_up (b_up σ 1 ((12 + 4 * afN A.1.1)) (km / 10)) 1 ((13 + 4 * afN A.1.1)) (km - km / 10 * 10)) 1 ((14 + 4 * afN A.1.1)) cell) 1 ((15 + 4 * afN A.1.1)) 0) 1 7 : Int32) = nI (afN A.1.1) from (by rw [b_up_s, upd_n (by omega), b_up_s, upd_n (by omega), b_up_s, upd_n (by omega), b_up_s, upd_n (by omega)]; exact hR.af.1)]
        refine v_iconst h (v := 1) dX10_boat_115 (q := 116) rfl (by decide) ?_
        refine v_iadd h dX10_boat_116 (q := 117) rfl ?_
        rw [show ((nI (afN A.1.1)) + 1 : Int32) = nI (afN A.1.1 + 1) from (nI_1 _)]
        refine v_iast h (k := 7) hm.2.1.1 hm.2.1.2 (vp_in_nI (n := 7) (by decide) (by decide)) (by decide) dX10_boat_117 (q := 118) rfl ?_
        refine v_iload_n h (i := 3) dX10_boat_118 (q := 119) rfl rfl 0 rfl ?_
        exact v_iret h dX10_boat_119 (pM_of (by unfold oBoat; rw [if_pos ⟨c4, c11⟩, if_pos hb9]; rfl) h5)
      · refine v_aload_n h (i := 0) dX10_boat_38 (q := 39) rfl rfl 1 rfl ?_
        refine v_ldc h (v := -1000000004) m948 dX10_boat_39 (q := 41) rfl ?_
        refine v_callV h (As := [.int (-1000000004)]) (rest := []) (c_X10_finding (σ := σ) (e := 4) (v := -1000000004) hm (by decide) (by decide +kernel)) cal_X10_finding calV_X10_finding m932 ⟨rfl, rfl, Nat.le_of_ble_eq_true rfl, Nat.le_of_ble_eq_true rfl⟩ rfl hm.1.1 hm.1.2 ⟨_, _, rfl⟩ rfl (Nat.le_of_ble_eq_true rfl) dX10_boat_41 (q := 44) rfl (kI ?_)
        exact v_iret h dX10_boat_44 (pM_of (by unfold oBoat; rw [if_pos ⟨c4, c11⟩, if_neg (fun z => by have e9 := nI_inj (a := afN A.1.1) (b := 9) (by omega) (by decide) c35; omega), ref4]) (hR.err (by decide)))
    · refine v_if_ne h (t := 24) dX10_boat_14 (by decide) (q := 17) rfl (fun c => absurd (by decide) c) (fun _ => ?_)
      refine v_aload_n h (i := 0) dX10_boat_17 (q := 18) rfl rfl 0 rfl ?_
      refine v_ldc h (v := -1000000001) m931 dX10_boat_18 (q := 20) rfl ?_
      refine v_callV h (As := [.int (-1000000001)]) (rest := []) (c_X10_finding (σ := σ) (e := 1) (v := -1000000001) hm (by decide) (by decide +kernel)) cal_X10_finding calV_X10_finding m932 ⟨rfl, rfl, Nat.le_of_ble_eq_true rfl, Nat.le_of_ble_eq_true rfl⟩ rfl hm.1.1 hm.1.2 ⟨_, _, rfl⟩ rfl (Nat.le_of_ble_eq_true rfl) dX10_boat_20 (q := 23) rfl (kI ?_)
      exact v_iret h dX10_boat_23 (pM_of (by unfold oBoat; rw [if_neg (fun z => by first | exact c4 z.1 | exact c11 z.2), ref1]) (hR.err (by decide)))
  · refine v_if_eq h (t := 17) dX10_boat_7 (by decide) (q := 10) rfl (fun _ => ?_) (fun c => absurd (by decide) c)
    refine v_aload_n h (i := 0) dX10_boat_17 (q := 18) rfl rfl 0 rfl ?_
    refine v_ldc h (v := -1000000001) m931 dX10_boat_18 (q := 20) rfl ?_
    refine v_callV h (As := [.int (-1000000001)]) (rest := []) (c_X10_finding (σ := σ) (e := 1) (v := -1000000001) hm (by decide) (by decide +kernel)) cal_X10_finding calV_X10_finding m932 ⟨rfl, rfl, Nat.le_of_ble_eq_true rfl, Nat.le_of_ble_eq_true rfl⟩ rfl hm.1.1 hm.1.2 ⟨_, _, rfl⟩ rfl (Nat.le_of_ble_eq_true rfl) dX10_boat_20 (q := 23) rfl (kI ?_)
    exact v_iret h dX10_boat_23 (pM_of (by unfold oBoat; rw [if_neg (fun z => by first | exact c4 z.1 | exact c11 z.2), ref1]) (hR.err (by decide)))

set_option maxHeartbeats 4000000 in
set_option maxRecDepth 100000 in
theorem c_X10_ofBoat {w : bw} {σ : bSt} {A : bA} {b what : Int32} (hm : sModel w) (hR : RQ σ A) : MV yX10_ofBoat cX10_ofBoat 3 (some .int) (rmm 2 44) w [.ref (b_ad w 0), .int b, .int what] σ (pM (oOfBoat b what A)) := by
  refine b_met (ls := [(0, .ref (b_ad w 0)), (1, .int b), (2, .int what)]) (by decide) (Nat.le_of_ble_eq_true rfl) rfl (fun x h => ?_)
  refine v_aload_n h (i := 0) dX10_ofBoat_0 (q := 1) rfl rfl 0 rfl ?_
  refine v_iload_n h (i := 1) dX10_ofBoat_1 (q := 2) rfl rfl 1 rfl ?_
  refine v_bipush h (v := 7) dX10_ofBoat_2 (q := 4) rfl (by decide) ?_
  refine v_callV h (As := [.int b, .int 7]) (rest := []) (c_X10_is (σ := σ) (k := b) (c := 7) hm (by decide)) cal_X10_is calV_X10_is m953 ⟨rfl, rfl, Nat.le_of_ble_eq_true rfl, Nat.le_of_ble_eq_true rfl⟩ rfl hm.1.1 hm.1.2 ⟨_, _, rfl⟩ rfl (Nat.le_of_ble_eq_true rfl) dX10_ofBoat_4 (q := 7) rfl (kB (fun c4 => ?_) (fun c4 => ?_))
  · refine v_if_eq h (t := 19) dX10_ofBoat_7 (by decide) (q := 10) rfl (fun c => absurd c (by decide)) (fun _ => ?_)
    refine v_iload_n h (i := 2) dX10_ofBoat_10 (q := 11) rfl rfl 2 rfl ?_
    refine v_iconst h (v := 0) dX10_ofBoat_11 (q := 12) rfl (by decide) ?_
    refine v_iconst h (v := 4) dX10_ofBoat_12 (q := 13) rfl (by decide) ?_
    refine v_callS h (As := [.int what, .int 0, .int 4]) (rest := []) (c_X10_within (v := what) (l := 0) (m := 4)) cal_X10_within m925 m924 ⟨rfl, rfl, Nat.le_of_ble_eq_true rfl, Nat.le_of_ble_eq_true rfl⟩ rfl rfl (Nat.le_of_ble_eq_true rfl) dX10_ofBoat_13 (q := 16) rfl (kB (fun c13 => ?_) (fun c13 => ?_))
    · refine v_if_ne h (t := 26) dX10_ofBoat_16 (by decide) (q := 19) rfl (fun _ => ?_) (fun c => absurd c (by decide))
      obtain ⟨n, hn, rfl⟩ := inN_nI (hR.isb.mp c4)
      have hb9 : n < 9 := by have := hR.af.2; omega
      refine v_iload_n h (i := 2) dX10_ofBoat_26 (q := 27) rfl rfl 2 rfl ?_
      refine v_iconst h (v := 4) dX10_ofBoat_27 (q := 28) rfl (by decide) ?_
      refine v_icmp_ne h (t := 47) dX10_ofBoat_28 (by decide) (q := 31) rfl (fun c28 => ?_) (fun c28 => ?_)
      · obtain ⟨k, hk, rfl⟩ := wi_0 (n := 4) c13 rfl
        have hk4 : k < 4 := by
          rcases (show k < 4 ∨ k = 4 by omega) with z | z
          · exact z
          · subst z; exact absurd rfl c28
        refine v_aload_n h (i := 0) dX10_ofBoat_47 (q := 48) rfl rfl 0 rfl ?_
        refine v_iload_n h (i := 1) dX10_ofBoat_48 (q := 49) rfl rfl 1 rfl ?_
        refine v_iload_n h (i := 2) dX10_ofBoat_49 (q := 50) rfl rfl 2 rfl ?_
        refine v_callV h (As := [.int (nI n), .int (nI k)]) (rest := []) (c_X10_boatIs (σ := σ) (b := n) (f := k) hm hb9 hk4) cal_X10_boatIs calV_X10_boatIs m961 ⟨rfl, rfl, Nat.le_of_ble_eq_true rfl, Nat.le_of_ble_eq_true rfl⟩ rfl hm.1.1 hm.1.2 ⟨_, _, rfl⟩ rfl (Nat.le_of_ble_eq_true rfl) dX10_ofBoat_50 (q := 53) rfl (kI ?_)
        rw [show (σ 1 (12 + k + 4 * n) : Int32) = A.1.1 (12 + k + 4 * n) from (hR.n (by omega))]
        exact v_iret h dX10_ofBoat_53 (pM_of (by unfold oOfBoat; rw [if_pos ⟨hR.isb.mp c4, c13⟩, if_neg c28, cl_nI (n := k) (by omega), cl_nI (n := n) (by omega)]) hR)
      · refine v_aload_n h (i := 0) dX10_ofBoat_31 (q := 32) rfl rfl 0 rfl ?_
        refine v_iload_n h (i := 1) dX10_ofBoat_32 (q := 33) rfl rfl 1 rfl ?_
        refine v_callV h (As := [.int (nI n)]) (rest := []) (c_X10_sings (σ := σ) (b := n) (bt := (A.1.1 0).toNatClampNeg) hm hb9 hR.mw.bt.1 hR.mw.bt.2) cal_X10_sings calV_X10_sings m957 ⟨rfl, rfl, Nat.le_of_ble_eq_true rfl, Nat.le_of_ble_eq_true rfl⟩ rfl hm.1.1 hm.1.2 ⟨_, _, rfl⟩ rfl (Nat.le_of_ble_eq_true rfl) dX10_ofBoat_33 (q := 36) rfl (kB (fun c33 => ?_) (fun c33 => ?_))
        · refine v_if_eq h (t := 43) dX10_ofBoat_36 (by decide) (q := 39) rfl (fun c => absurd c (by decide)) (fun _ => ?_)
          refine v_iconst h (v := 1) dX10_ofBoat_39 (q := 40) rfl (by decide) ?_
          refine v_goto h (t := 53) dX10_ofBoat_40 (by decide) ?_
          exact v_iret h dX10_ofBoat_53 (pM_of (by unfold oOfBoat; rw [if_pos ⟨hR.isb.mp c4, c13⟩, if_pos c28, cl_nI (n := n) (by omega), if_pos (by unfold sgN; rw [decide_eq_true_eq, ← hR.n (k := 15 + 4 * n) (by omega)]; exact c33)]) hR)
        · refine v_if_eq h (t := 43) dX10_ofBoat_36 (by decide) (q := 39) rfl (fun _ => ?_) (fun c => absurd (by decide) c)
          refine v_iconst h (v := 0) dX10_ofBoat_43 (q := 44) rfl (by decide) ?_
          refine v_goto h (t := 53) dX10_ofBoat_44 (by decide) ?_
          exact v_iret h dX10_ofBoat_53 (pM_of (by unfold oOfBoat; rw [if_pos ⟨hR.isb.mp c4, c13⟩, if_pos c28, cl_nI (n := n) (by omega), if_neg (by unfold sgN; rw [decide_eq_true_eq, ← hR.n (k := 15 + 4 * n) (by omega)]; exact c33)]) hR)
    · refine v_if_ne h (t := 26) dX10_ofBoat_16 (by decide) (q := 19) rfl (fun c => absurd (by decide) c) (fun _ => ?_)
      refine v_aload_n h (i := 0) dX10_ofBoat_19 (q := 20) rfl rfl 0 rfl ?_
      refine v_ldc h (v := -1000000001) m931 dX10_ofBoat_20 (q := 22) rfl ?_
      refine v_callV h (As := [.int (-1000000001)]) (rest := []) (c_X10_finding (σ := σ) (e := 1) (v := -1000000001) hm (by decide) (by decide +kernel)) cal_X10_finding calV_X10_finding m932 ⟨rfl, rfl, Nat.le_of_ble_eq_true rfl, Nat.le_of_ble_eq_true rfl⟩ rfl hm.1.1 hm.1.2 ⟨_, _, rfl⟩ rfl (Nat.le_of_ble_eq_true rfl) dX10_ofBoat_22 (q := 25) rfl (kI ?_)
      exact v_iret h dX10_ofBoat_25 (pM_of (by unfold oOfBoat; rw [if_neg (fun z => by first | exact c4 (hR.isb.mpr z.1) | exact c13 z.2), ref1]) (hR.err (by decide)))
  · refine v_if_eq h (t := 19) dX10_ofBoat_7 (by decide) (q := 10) rfl (fun _ => ?_) (fun c => absurd (by decide) c)
    refine v_aload_n h (i := 0) dX10_ofBoat_19 (q := 20) rfl rfl 0 rfl ?_
    refine v_ldc h (v := -1000000001) m931 dX10_ofBoat_20 (q := 22) rfl ?_
    refine v_callV h (As := [.int (-1000000001)]) (rest := []) (c_X10_finding (σ := σ) (e := 1) (v := -1000000001) hm (by decide) (by decide +kernel)) cal_X10_finding calV_X10_finding m932 ⟨rfl, rfl, Nat.le_of_ble_eq_true rfl, Nat.le_of_ble_eq_true rfl⟩ rfl hm.1.1 hm.1.2 ⟨_, _, rfl⟩ rfl (Nat.le_of_ble_eq_true rfl) dX10_ofBoat_22 (q := 25) rfl (kI ?_)
    exact v_iret h dX10_ofBoat_25 (pM_of (by unfold oOfBoat; rw [if_neg (fun z => by first | exact c4 (hR.isb.mpr z.1) | exact c13 z.2), ref1]) (hR.err (by decide)))

set_option maxHeartbeats 4000000 in
set_option maxRecDepth 100000 in
theorem c_X10_change {w : bw} {σ : bSt} {A : bA} {b what v : Int32} (hm : sModel w) (hR : RQ σ A) : MV yX10_change cX10_change 5 (some .int) (rmm 2 44) w [.ref (b_ad w 0), .int b, .int what, .int v] σ (pM (oChange b what v A)) := by
  refine b_met (ls := [(0, .ref (b_ad w 0)), (1, .int b), (2, .int what), (3, .int v)]) (by decide) (Nat.le_of_ble_eq_true rfl) rfl (fun x h => ?_)
  refine v_iload_n h (i := 2) dX10_change_0 (q := 1) rfl rfl 2 rfl ?_
  refine v_iconst h (v := 2) dX10_change_1 (q := 2) rfl (by decide) ?_
  refine v_icmp_ne h (t := 12) dX10_change_2 (by decide) (q := 5) rfl (fun c2 => ?_) (fun c2 => ?_)
  · refine v_iload_n h (i := 2) dX10_change_12 (q := 13) rfl rfl 2 rfl ?_
    refine v_iconst h (v := 3) dX10_change_13 (q := 14) rfl (by decide) ?_
    refine v_icmp_ne h (t := 21) dX10_change_14 (by decide) (q := 17) rfl (fun c14 => ?_) (fun c14 => ?_)
    · refine v_iconst h (v := 0) dX10_change_21 (q := 22) rfl (by decide) ?_
      refine v_istore h (i := 4) (ls1 := [(4, .int 0), (0, .ref (b_ad w 0)), (1, .int b), (2, .int what), (3, .int v)]) dX10_change_22 (q := 24) rfl (Nat.le_of_ble_eq_true rfl) rfl ?_
      have hbad : ¬ ((what = 2 ∧ wj v 0 63) ∨ what = 3) := fun z => z.elim (fun q => by first | exact absurd q.1 (by assumption) | exact absurd q.2 (by assumption)) (fun q => absurd q (by assumption))
      refine v_aload_n h (i := 0) dX10_change_24 (q := 25) rfl rfl 1 rfl ?_
      refine v_iload_n h (i := 1) dX10_change_25 (q := 26) rfl rfl 2 rfl ?_
      refine v_bipush h (v := 7) dX10_change_26 (q := 28) rfl (by decide) ?_
      refine v_callV h (As := [.int b, .int 7]) (rest := []) (c_X10_is (σ := σ) (k := b) (c := 7) hm (by decide)) cal_X10_is calV_X10_is m953 ⟨rfl, rfl, Nat.le_of_ble_eq_true rfl, Nat.le_of_ble_eq_true rfl⟩ rfl hm.1.1 hm.1.2 ⟨_, _, rfl⟩ rfl (Nat.le_of_ble_eq_true rfl) dX10_change_28 (q := 31) rfl (kB (fun c28 => ?_) (fun c28 => ?_))
      · refine v_if_eq h (t := 55) dX10_change_31 (by decide) (q := 34) rfl (fun c => absurd c (by decide)) (fun _ => ?_)
        refine v_iload h (i := 4) dX10_change_34 (q := 36) rfl 0 rfl ?_
        refine v_if_eq h (t := 55) dX10_change_36 (by decide) (q := 39) rfl (fun _ => ?_) (fun c => absurd (by decide) c)
        refine v_aload_n h (i := 0) dX10_change_55 (q := 56) rfl rfl 1 rfl ?_
        refine v_ldc h (v := -1000000001) m931 dX10_change_56 (q := 58) rfl ?_
        refine v_callV h (As := [.int (-1000000001)]) (rest := []) (c_X10_finding (σ := σ) (e := 1) (v := -1000000001) hm (by decide) (by decide +kernel)) cal_X10_finding calV_X10_finding m932 ⟨rfl, rfl, Nat.le_of_ble_eq_true rfl, Nat.le_of_ble_eq_true rfl⟩ rfl hm.1.1 hm.1.2 ⟨_, _, rfl⟩ rfl (Nat.le_of_ble_eq_true rfl) dX10_change_58 (q := 61) rfl (kI ?_)
        exact v_iret h dX10_change_61 (pM_of (by unfold oChange; rw [if_neg (fun z => by first | exact hbad z.2), ref1]) (hR.err (by decide)))
      · refine v_if_eq h (t := 55) dX10_change_31 (by decide) (q := 34) rfl (fun _ => ?_) (fun c => absurd (by decide) c)
        refine v_aload_n h (i := 0) dX10_change_55 (q := 56) rfl rfl 1 rfl ?_
        refine v_ldc h (v := -1000000001) m931 dX10_change_56 (q := 58) rfl ?_
        refine v_callV h (As := [.int (-1000000001)]) (rest := []) (c_X10_finding (σ := σ) (e := 1) (v := -1000000001) hm (by decide) (by decide +kernel)) cal_X10_finding calV_X10_finding m932 ⟨rfl, rfl, Nat.le_of_ble_eq_true rfl, Nat.le_of_ble_eq_true rfl⟩ rfl hm.1.1 hm.1.2 ⟨_, _, rfl⟩ rfl (Nat.le_of_ble_eq_true rfl) dX10_change_58 (q := 61) rfl (kI ?_)
        exact v_iret h dX10_change_61 (pM_of (by unfold oChange; rw [if_neg (fun z => by first | exact c28 (hR.isb.mpr z.1)), ref1]) (hR.err (by decide)))
    · refine v_iconst h (v := 1) dX10_change_17 (q := 18) rfl (by decide) ?_
      refine v_goto h (t := 22) dX10_change_18 (by decide) ?_
      refine v_istore h (i := 4) (ls1 := [(4, .int 1), (0, .ref (b_ad w 0)), (1, .int b), (2, .int what), (3, .int v)]) dX10_change_22 (q := 24) rfl (Nat.le_of_ble_eq_true rfl) rfl ?_
      have hgood : (what = 2 ∧ wj v 0 63) ∨ what = 3 := by first | exact Or.inl ⟨by assumption, by assumption⟩ | exact Or.inr (by assumption)
      refine v_aload_n h (i := 0) dX10_change_24 (q := 25) rfl rfl 1 rfl ?_
      refine v_iload_n h (i := 1) dX10_change_25 (q := 26) rfl rfl 2 rfl ?_
      refine v_bipush h (v := 7) dX10_change_26 (q := 28) rfl (by decide) ?_
      refine v_callV h (As := [.int b, .int 7]) (rest := []) (c_X10_is (σ := σ) (k := b) (c := 7) hm (by decide)) cal_X10_is calV_X10_is m953 ⟨rfl, rfl, Nat.le_of_ble_eq_true rfl, Nat.le_of_ble_eq_true rfl⟩ rfl hm.1.1 hm.1.2 ⟨_, _, rfl⟩ rfl (Nat.le_of_ble_eq_true rfl) dX10_change_28 (q := 31) rfl (kB (fun c28_1 => ?_) (fun c28_1 => ?_))
      · refine v_if_eq h (t := 55) dX10_change_31 (by decide) (q := 34) rfl (fun c => absurd c (by decide)) (fun _ => ?_)
        refine v_iload h (i := 4) dX10_change_34 (q := 36) rfl 0 rfl ?_
        refine v_if_eq h (t := 55) dX10_change_36 (by decide) (q := 39) rfl (fun c => absurd c (by decide)) (fun _ => ?_)
        obtain ⟨n, hn, rfl⟩ := inN_nI (hR.isb.mp c28_1)
        have hb9 : n < 9 := by have := hR.af.2; omega
        have hww : what = nI (cl what) ∧ 2 ≤ cl what ∧ cl what ≤ 3 := by
          rcases hgood with z | z
          · rw [z.1]; exact ⟨rfl, by decide, by decide⟩
          · rw [z]; exact ⟨rfl, by decide, by decide⟩
        refine v_aload_n h (i := 0) dX10_change_39 (q := 40) rfl rfl 1 rfl ?_
        refine v_bipush h (v := 12) dX10_change_40 (q := 42) rfl (by decide) ?_
        refine v_iconst h (v := 4) dX10_change_42 (q := 43) rfl (by decide) ?_
        refine v_iload_n h (i := 1) dX10_change_43 (q := 44) rfl rfl 2 rfl ?_
        refine v_imul h dX10_change_44 (q := 45) rfl ?_
        rw [show (4 * (nI n) : Int32) = nI (4 * n) from (nI_mulN 4 _)]
        refine v_iadd h dX10_change_45 (q := 46) rfl ?_
        rw [show (12 + (nI (4 * n)) : Int32) = nI (12 + 4 * n) from (nI_add 12 _)]
        refine v_iload_n h (i := 2) dX10_change_46 (q := 47) rfl rfl 3 rfl ?_
        refine v_iadd h dX10_change_47 (q := 48) rfl ?_
        rw [show ((nI (12 + 4 * n)) + what : Int32) = nI (12 + cl what + 4 * n) from (by rw [hww.1, nI_add, cl_nI (n := cl what) (by omega), show 12 + 4 * n + cl what = 12 + cl what + 4 * n by omega])]
        refine v_iload_n h (i := 3) dX10_change_48 (q := 49) rfl rfl 4 rfl ?_
        refine v_callV h (As := [.int (nI (12 + cl what + 4 * n)), .int v]) (rest := []) (c_X10_putIn (σ := σ) (p := (12 + cl what + 4 * n)) (v := v) hm (by omega)) cal_X10_putIn calV_X10_putIn m927 ⟨rfl, rfl, Nat.le_of_ble_eq_true rfl, Nat.le_of_ble_eq_true rfl⟩ rfl hm.1.1 hm.1.2 ⟨_, _, rfl⟩ rfl (Nat.le_of_ble_eq_true rfl) dX10_change_49 (q := 52) rfl (kI ?_)
        rw [show (σ 1 ((12 + cl what + 4 * n)) : Int32) = A.1.1 (12 + cl what + 4 * n) from (hR.n (by omega))]
        refine v_goto h (t := 61) dX10_change_52 (by decide) ?_
        exact v_iret h dX10_change_61 (pM_of (by unfold oChange; rw [if_pos ⟨hR.isb.mp c28_1, hgood⟩, cl_nI (n := n) (by omega)]) (hR.up1 (by omega) (hgood.elim (fun z => by rw [z.1]; exact hR.1.2.1.cellB (cell_w z.2)) (fun z => by rw [z]; exact hR.1.2.1.part hb9))))
      · refine v_if_eq h (t := 55) dX10_change_31 (by decide) (q := 34) rfl (fun _ => ?_) (fun c => absurd (by decide) c)
        refine v_aload_n h (i := 0) dX10_change_55 (q := 56) rfl rfl 1 rfl ?_
        refine v_ldc h (v := -1000000001) m931 dX10_change_56 (q := 58) rfl ?_
        refine v_callV h (As := [.int (-1000000001)]) (rest := []) (c_X10_finding (σ := σ) (e := 1) (v := -1000000001) hm (by decide) (by decide +kernel)) cal_X10_finding calV_X10_finding m932 ⟨rfl, rfl, Nat.le_of_ble_eq_true rfl, Nat.le_of_ble_eq_true rfl⟩ rfl hm.1.1 hm.1.2 ⟨_, _, rfl⟩ rfl (Nat.le_of_ble_eq_true rfl) dX10_change_58 (q := 61) rfl (kI ?_)
        exact v_iret h dX10_change_61 (pM_of (by unfold oChange; rw [if_neg (fun z => by first | exact c28_1 (hR.isb.mpr z.1)), ref1]) (hR.err (by decide)))
  · refine v_iload_n h (i := 3) dX10_change_5 (q := 6) rfl rfl 3 rfl ?_
    refine v_callS h (As := [.int v]) (rest := []) (c_X10_isCell (v := v)) cal_X10_isCell m946 m945 ⟨rfl, rfl, Nat.le_of_ble_eq_true rfl, Nat.le_of_ble_eq_true rfl⟩ rfl rfl (Nat.le_of_ble_eq_true rfl) dX10_change_6 (q := 9) rfl (kB (fun c6 => ?_) (fun c6 => ?_))
    · refine v_if_ne h (t := 17) dX10_change_9 (by decide) (q := 12) rfl (fun _ => ?_) (fun c => absurd c (by decide))
      refine v_iconst h (v := 1) dX10_change_17 (q := 18) rfl (by decide) ?_
      refine v_goto h (t := 22) dX10_change_18 (by decide) ?_
      refine v_istore h (i := 4) (ls1 := [(4, .int 1), (0, .ref (b_ad w 0)), (1, .int b), (2, .int what), (3, .int v)]) dX10_change_22 (q := 24) rfl (Nat.le_of_ble_eq_true rfl) rfl ?_
      have hgood : (what = 2 ∧ wj v 0 63) ∨ what = 3 := by first | exact Or.inl ⟨by assumption, by assumption⟩ | exact Or.inr (by assumption)
      refine v_aload_n h (i := 0) dX10_change_24 (q := 25) rfl rfl 1 rfl ?_
      refine v_iload_n h (i := 1) dX10_change_25 (q := 26) rfl rfl 2 rfl ?_
      refine v_bipush h (v := 7) dX10_change_26 (q := 28) rfl (by decide) ?_
      refine v_callV h (As := [.int b, .int 7]) (rest := []) (c_X10_is (σ := σ) (k := b) (c := 7) hm (by decide)) cal_X10_is calV_X10_is m953 ⟨rfl, rfl, Nat.le_of_ble_eq_true rfl, Nat.le_of_ble_eq_true rfl⟩ rfl hm.1.1 hm.1.2 ⟨_, _, rfl⟩ rfl (Nat.le_of_ble_eq_true rfl) dX10_change_28 (q := 31) rfl (kB (fun c28_2 => ?_) (fun c28_2 => ?_))
      · refine v_if_eq h (t := 55) dX10_change_31 (by decide) (q := 34) rfl (fun c => absurd c (by decide)) (fun _ => ?_)
        refine v_iload h (i := 4) dX10_change_34 (q := 36) rfl 0 rfl ?_
        refine v_if_eq h (t := 55) dX10_change_36 (by decide) (q := 39) rfl (fun c => absurd c (by decide)) (fun _ => ?_)
        obtain ⟨n, hn, rfl⟩ := inN_nI (hR.isb.mp c28_2)
        have hb9 : n < 9 := by have := hR.af.2; omega
        have hww : what = nI (cl what) ∧ 2 ≤ cl what ∧ cl what ≤ 3 := by
          rcases hgood with z | z
          · rw [z.1]; exact ⟨rfl, by decide, by decide⟩
          · rw [z]; exact ⟨rfl, by decide, by decide⟩
        refine v_aload_n h (i := 0) dX10_change_39 (q := 40) rfl rfl 1 rfl ?_
        refine v_bipush h (v := 12) dX10_change_40 (q := 42) rfl (by decide) ?_
        refine v_iconst h (v := 4) dX10_change_42 (q := 43) rfl (by decide) ?_
        refine v_iload_n h (i := 1) dX10_change_43 (q := 44) rfl rfl 2 rfl ?_
        refine v_imul h dX10_change_44 (q := 45) rfl ?_
        rw [show (4 * (nI n) : Int32) = nI (4 * n) from (nI_mulN 4 _)]
        refine v_iadd h dX10_change_45 (q := 46) rfl ?_
        rw [show (12 + (nI (4 * n)) : Int32) = nI (12 + 4 * n) from (nI_add 12 _)]
        refine v_iload_n h (i := 2) dX10_change_46 (q := 47) rfl rfl 3 rfl ?_
        refine v_iadd h dX10_change_47 (q := 48) rfl ?_
        rw [show ((nI (12 + 4 * n)) + what : Int32) = nI (12 + cl what + 4 * n) from (by rw [hww.1, nI_add, cl_nI (n := cl what) (by omega), show 12 + 4 * n + cl what = 12 + cl what + 4 * n by omega])]
        refine v_iload_n h (i := 3) dX10_change_48 (q := 49) rfl rfl 4 rfl ?_
        refine v_callV h (As := [.int (nI (12 + cl what + 4 * n)), .int v]) (rest := []) (c_X10_putIn (σ := σ) (p := (12 + cl what + 4 * n)) (v := v) hm (by omega)) cal_X10_putIn calV_X10_putIn m927 ⟨rfl, rfl, Nat.le_of_ble_eq_true rfl, Nat.le_of_ble_eq_true rfl⟩ rfl hm.1.1 hm.1.2 ⟨_, _, rfl⟩ rfl (Nat.le_of_ble_eq_true rfl) dX10_change_49 (q := 52) rfl (kI ?_)
        rw [show (σ 1 ((12 + cl what + 4 * n)) : Int32) = A.1.1 (12 + cl what + 4 * n) from (hR.n (by omega))]
        refine v_goto h (t := 61) dX10_change_52 (by decide) ?_
        exact v_iret h dX10_change_61 (pM_of (by unfold oChange; rw [if_pos ⟨hR.isb.mp c28_2, hgood⟩, cl_nI (n := n) (by omega)]) (hR.up1 (by omega) (hgood.elim (fun z => by rw [z.1]; exact hR.1.2.1.cellB (cell_w z.2)) (fun z => by rw [z]; exact hR.1.2.1.part hb9))))
      · refine v_if_eq h (t := 55) dX10_change_31 (by decide) (q := 34) rfl (fun _ => ?_) (fun c => absurd (by decide) c)
        refine v_aload_n h (i := 0) dX10_change_55 (q := 56) rfl rfl 1 rfl ?_
        refine v_ldc h (v := -1000000001) m931 dX10_change_56 (q := 58) rfl ?_
        refine v_callV h (As := [.int (-1000000001)]) (rest := []) (c_X10_finding (σ := σ) (e := 1) (v := -1000000001) hm (by decide) (by decide +kernel)) cal_X10_finding calV_X10_finding m932 ⟨rfl, rfl, Nat.le_of_ble_eq_true rfl, Nat.le_of_ble_eq_true rfl⟩ rfl hm.1.1 hm.1.2 ⟨_, _, rfl⟩ rfl (Nat.le_of_ble_eq_true rfl) dX10_change_58 (q := 61) rfl (kI ?_)
        exact v_iret h dX10_change_61 (pM_of (by unfold oChange; rw [if_neg (fun z => by first | exact c28_2 (hR.isb.mpr z.1)), ref1]) (hR.err (by decide)))
    · refine v_if_ne h (t := 17) dX10_change_9 (by decide) (q := 12) rfl (fun c => absurd (by decide) c) (fun _ => ?_)
      refine v_iload_n h (i := 2) dX10_change_12 (q := 13) rfl rfl 2 rfl ?_
      refine v_iconst h (v := 3) dX10_change_13 (q := 14) rfl (by decide) ?_
      refine v_icmp_ne h (t := 21) dX10_change_14 (by decide) (q := 17) rfl (fun c14_1 => ?_) (fun c14_1 => ?_)
      · refine v_iconst h (v := 0) dX10_change_21 (q := 22) rfl (by decide) ?_
        refine v_istore h (i := 4) (ls1 := [(4, .int 0), (0, .ref (b_ad w 0)), (1, .int b), (2, .int what), (3, .int v)]) dX10_change_22 (q := 24) rfl (Nat.le_of_ble_eq_true rfl) rfl ?_
        have hbad : ¬ ((what = 2 ∧ wj v 0 63) ∨ what = 3) := fun z => z.elim (fun q => by first | exact absurd q.1 (by assumption) | exact absurd q.2 (by assumption)) (fun q => absurd q (by assumption))
        refine v_aload_n h (i := 0) dX10_change_24 (q := 25) rfl rfl 1 rfl ?_
        refine v_iload_n h (i := 1) dX10_change_25 (q := 26) rfl rfl 2 rfl ?_
        refine v_bipush h (v := 7) dX10_change_26 (q := 28) rfl (by decide) ?_
        refine v_callV h (As := [.int b, .int 7]) (rest := []) (c_X10_is (σ := σ) (k := b) (c := 7) hm (by decide)) cal_X10_is calV_X10_is m953 ⟨rfl, rfl, Nat.le_of_ble_eq_true rfl, Nat.le_of_ble_eq_true rfl⟩ rfl hm.1.1 hm.1.2 ⟨_, _, rfl⟩ rfl (Nat.le_of_ble_eq_true rfl) dX10_change_28 (q := 31) rfl (kB (fun c28_3 => ?_) (fun c28_3 => ?_))
        · refine v_if_eq h (t := 55) dX10_change_31 (by decide) (q := 34) rfl (fun c => absurd c (by decide)) (fun _ => ?_)
          refine v_iload h (i := 4) dX10_change_34 (q := 36) rfl 0 rfl ?_
          refine v_if_eq h (t := 55) dX10_change_36 (by decide) (q := 39) rfl (fun _ => ?_) (fun c => absurd (by decide) c)
          refine v_aload_n h (i := 0) dX10_change_55 (q := 56) rfl rfl 1 rfl ?_
          refine v_ldc h (v := -1000000001) m931 dX10_change_56 (q := 58) rfl ?_
          refine v_callV h (As := [.int (-1000000001)]) (rest := []) (c_X10_finding (σ := σ) (e := 1) (v := -1000000001) hm (by decide) (by decide +kernel)) cal_X10_finding calV_X10_finding m932 ⟨rfl, rfl, Nat.le_of_ble_eq_true rfl, Nat.le_of_ble_eq_true rfl⟩ rfl hm.1.1 hm.1.2 ⟨_, _, rfl⟩ rfl (Nat.le_of_ble_eq_true rfl) dX10_change_58 (q := 61) rfl (kI ?_)
          exact v_iret h dX10_change_61 (pM_of (by unfold oChange; rw [if_neg (fun z => by first | exact hbad z.2), ref1]) (hR.err (by decide)))
        · refine v_if_eq h (t := 55) dX10_change_31 (by decide) (q := 34) rfl (fun _ => ?_) (fun c => absurd (by decide) c)
          refine v_aload_n h (i := 0) dX10_change_55 (q := 56) rfl rfl 1 rfl ?_
          refine v_ldc h (v := -1000000001) m931 dX10_change_56 (q := 58) rfl ?_
          refine v_callV h (As := [.int (-1000000001)]) (rest := []) (c_X10_finding (σ := σ) (e := 1) (v := -1000000001) hm (by decide) (by decide +kernel)) cal_X10_finding calV_X10_finding m932 ⟨rfl, rfl, Nat.le_of_ble_eq_true rfl, Nat.le_of_ble_eq_true rfl⟩ rfl hm.1.1 hm.1.2 ⟨_, _, rfl⟩ rfl (Nat.le_of_ble_eq_true rfl) dX10_change_58 (q := 61) rfl (kI ?_)
          exact v_iret h dX10_change_61 (pM_of (by unfold oChange; rw [if_neg (fun z => by first | exact c28_3 (hR.isb.mpr z.1)), ref1]) (hR.err (by decide)))
      · refine v_iconst h (v := 1) dX10_change_17 (q := 18) rfl (by decide) ?_
        refine v_goto h (t := 22) dX10_change_18 (by decide) ?_
        refine v_istore h (i := 4) (ls1 := [(4, .int 1), (0, .ref (b_ad w 0)), (1, .int b), (2, .int what), (3, .int v)]) dX10_change_22 (q := 24) rfl (Nat.le_of_ble_eq_true rfl) rfl ?_
        have hgood : (what = 2 ∧ wj v 0 63) ∨ what = 3 := by first | exact Or.inl ⟨by assumption, by assumption⟩ | exact Or.inr (by assumption)
        refine v_aload_n h (i := 0) dX10_change_24 (q := 25) rfl rfl 1 rfl ?_
        refine v_iload_n h (i := 1) dX10_change_25 (q := 26) rfl rfl 2 rfl ?_
        refine v_bipush h (v := 7) dX10_change_26 (q := 28) rfl (by decide) ?_
        refine v_callV h (As := [.int b, .int 7]) (rest := []) (c_X10_is (σ := σ) (k := b) (c := 7) hm (by decide)) cal_X10_is calV_X10_is m953 ⟨rfl, rfl, Nat.le_of_ble_eq_true rfl, Nat.le_of_ble_eq_true rfl⟩ rfl hm.1.1 hm.1.2 ⟨_, _, rfl⟩ rfl (Nat.le_of_ble_eq_true rfl) dX10_change_28 (q := 31) rfl (kB (fun c28_4 => ?_) (fun c28_4 => ?_))
        · refine v_if_eq h (t := 55) dX10_change_31 (by decide) (q := 34) rfl (fun c => absurd c (by decide)) (fun _ => ?_)
          refine v_iload h (i := 4) dX10_change_34 (q := 36) rfl 0 rfl ?_
          refine v_if_eq h (t := 55) dX10_change_36 (by decide) (q := 39) rfl (fun c => absurd c (by decide)) (fun _ => ?_)
          obtain ⟨n, hn, rfl⟩ := inN_nI (hR.isb.mp c28_4)
          have hb9 : n < 9 := by have := hR.af.2; omega
          have hww : what = nI (cl what) ∧ 2 ≤ cl what ∧ cl what ≤ 3 := by
            rcases hgood with z | z
            · rw [z.1]; exact ⟨rfl, by decide, by decide⟩
            · rw [z]; exact ⟨rfl, by decide, by decide⟩
          refine v_aload_n h (i := 0) dX10_change_39 (q := 40) rfl rfl 1 rfl ?_
          refine v_bipush h (v := 12) dX10_change_40 (q := 42) rfl (by decide) ?_
          refine v_iconst h (v := 4) dX10_change_42 (q := 43) rfl (by decide) ?_
          refine v_iload_n h (i := 1) dX10_change_43 (q := 44) rfl rfl 2 rfl ?_
          refine v_imul h dX10_change_44 (q := 45) rfl ?_
          rw [show (4 * (nI n) : Int32) = nI (4 * n) from (nI_mulN 4 _)]
          refine v_iadd h dX10_change_45 (q := 46) rfl ?_
          rw [show (12 + (nI (4 * n)) : Int32) = nI (12 + 4 * n) from (nI_add 12 _)]
          refine v_iload_n h (i := 2) dX10_change_46 (q := 47) rfl rfl 3 rfl ?_
          refine v_iadd h dX10_change_47 (q := 48) rfl ?_
          rw [show ((nI (12 + 4 * n)) + what : Int32) = nI (12 + cl what + 4 * n) from (by rw [hww.1, nI_add, cl_nI (n := cl what) (by omega), show 12 + 4 * n + cl what = 12 + cl what + 4 * n by omega])]
          refine v_iload_n h (i := 3) dX10_change_48 (q := 49) rfl rfl 4 rfl ?_
          refine v_callV h (As := [.int (nI (12 + cl what + 4 * n)), .int v]) (rest := []) (c_X10_putIn (σ := σ) (p := (12 + cl what + 4 * n)) (v := v) hm (by omega)) cal_X10_putIn calV_X10_putIn m927 ⟨rfl, rfl, Nat.le_of_ble_eq_true rfl, Nat.le_of_ble_eq_true rfl⟩ rfl hm.1.1 hm.1.2 ⟨_, _, rfl⟩ rfl (Nat.le_of_ble_eq_true rfl) dX10_change_49 (q := 52) rfl (kI ?_)
          rw [show (σ 1 ((12 + cl what + 4 * n)) : Int32) = A.1.1 (12 + cl what + 4 * n) from (hR.n (by omega))]
          refine v_goto h (t := 61) dX10_change_52 (by decide) ?_
          exact v_iret h dX10_change_61 (pM_of (by unfold oChange; rw [if_pos ⟨hR.isb.mp c28_4, hgood⟩, cl_nI (n := n) (by omega)]) (hR.up1 (by omega) (hgood.elim (fun z => by rw [z.1]; exact hR.1.2.1.cellB (cell_w z.2)) (fun z => by rw [z]; exact hR.1.2.1.part hb9))))
        · refine v_if_eq h (t := 55) dX10_change_31 (by decide) (q := 34) rfl (fun _ => ?_) (fun c => absurd (by decide) c)
          refine v_aload_n h (i := 0) dX10_change_55 (q := 56) rfl rfl 1 rfl ?_
          refine v_ldc h (v := -1000000001) m931 dX10_change_56 (q := 58) rfl ?_
          refine v_callV h (As := [.int (-1000000001)]) (rest := []) (c_X10_finding (σ := σ) (e := 1) (v := -1000000001) hm (by decide) (by decide +kernel)) cal_X10_finding calV_X10_finding m932 ⟨rfl, rfl, Nat.le_of_ble_eq_true rfl, Nat.le_of_ble_eq_true rfl⟩ rfl hm.1.1 hm.1.2 ⟨_, _, rfl⟩ rfl (Nat.le_of_ble_eq_true rfl) dX10_change_58 (q := 61) rfl (kI ?_)
          exact v_iret h dX10_change_61 (pM_of (by unfold oChange; rw [if_neg (fun z => by first | exact c28_4 (hR.isb.mpr z.1)), ref1]) (hR.err (by decide)))
