/-- where boat b of the look-out is behind k beats from beat bt on -/
def pthF (σ : bSt) (me L b bt : Nat) : Nat → Int32
  | 0 => σ (me + 4) b
  | k + 1 => mvC (σ (me + 2) b) (σ (me + 3) b) (sgB σ (me + 1) b (nI ((bt + k) % 32))) (pthF σ me L b bt k) (nI ((bt + k) % 32)) (σ (L + 1) ((bt + k) % 32 / 8))
def bitF (b : Nat) : Int32 := (1 : Int32) <<< (nI b &&& 31)
def sgS (σ : bSt) (me b bt k : Nat) : Int32 := if sgB σ (me + 1) b (nI ((bt + k) % 32)) then σ (me + 6) k ||| bitF b else σ (me + 6) k &&& (bitF b ^^^ -1)
/-- what sailing boat b changes, for the first m beats -/
def slR (me L b bt m : Nat) (σ σ' : bSt) : Prop :=
  (∀ j, j ≠ me + 6 → (j < me + 8 ∨ me + 137 ≤ j) → σ' j = σ j) ∧ (∀ k, k < m → σ' (me + 8 + k) = upd (σ (me + 8 + k)) b (pthF σ me L b bt k)) ∧ (∀ k, m ≤ k → k < 129 → σ' (me + 8 + k) = σ (me + 8 + k)) ∧
  (∀ k, k < m → σ' (me + 6) k = sgS σ me b bt k) ∧ (∀ k, m ≤ k → σ' (me + 6) k = σ (me + 6) k)
theorem slR_0 {me L b bt : Nat} {σ : bSt} : slR me L b bt 0 σ σ := ⟨fun _ _ _ => rfl, fun k hk => absurd hk (Nat.not_lt_zero k), fun _ _ _ => rfl, fun k hk => absurd hk (Nat.not_lt_zero k), fun _ _ => rfl⟩
theorem slR_s {me L b bt k : Nat} {σ τ τ1 τ2 : bSt} {c s : Int32} (h : slR me L b bt k σ τ) (hk : k < 129) (e1 : b_up τ (me + 8 + k) b c = τ1) (e2 : b_up τ1 (me + 6) k s = τ2) (hc : c = pthF σ me L b bt k) (hs : s = sgS σ me b bt k) : slR me L b bt (k + 1) σ τ2 := by
  obtain ⟨h1, h2, h3, h4, h5⟩ := h
  subst e2 e1
  refine ⟨fun j j1 j2 => ?_, fun i hi => ?_, fun i hi hi2 => ?_, fun i hi => ?_, fun i hi => ?_⟩
  · rw [b_up_n j1, b_up_n (by omega)]
    exact h1 j j1 j2
  · rw [b_up_n (by omega)]
    by_cases e : i = k
    · subst e
      rw [b_up_s, h3 i (Nat.le_refl _) hk, hc]
    · rw [b_up_n (by omega)]
      exact h2 i (by omega)
  · rw [b_up_n (by omega), b_up_n (by omega)]
    exact h3 i (by omega) hi2
  · rw [b_up_s, b_up_n (by omega)]
    by_cases e : i = k
    · subst e
      rw [upd_s, hs]
    · rw [upd_n e]
      exact h4 i (by omega)
  · rw [b_up_s, b_up_n (by omega), upd_n (by omega)]
    exact h5 i (by omega)
theorem max0_min {n : Nat} (hn : n ≤ 128) : imax 0 (imin 128 (nI n)) = nI n := by
  rw [show (128 : Int32) = nI 128 from rfl, imin_nI (by decide) (by omega), Nat.min_eq_right hn]
  unfold imax
  by_cases c : 0 < nI n
  · rw [if_pos c]
  · rw [if_neg c]
    rw [i_lt, nI_toInt (by omega)] at c
    have h0 : (0 : Int32).toInt = 0 := rfl
    rw [show n = 0 by omega]
    rfl
/-- how many of the first k beats are together -/
def itF (lagf : Nat → Nat → Int32) (heard : Nat → Int32) : Nat → Nat
  | 0 => 0
  | k + 1 => if tgB (lagf k) (heard k) = true then itF lagf heard k + 1 else itF lagf heard k
theorem itF_le {lagf : Nat → Nat → Int32} {heard : Nat → Int32} : ∀ k, itF lagf heard k ≤ k
  | 0 => Nat.le_refl _
  | k + 1 => by
    have := itF_le (lagf := lagf) (heard := heard) k
    rw [itF]
    split <;> omega
theorem lagC_scr {σ τ : bSt} {L me F : Nat} {there speed t : Int32} (h : scr L σ τ) (hd : me + 5 ≤ L ∨ L + 9 ≤ me) (hF : F ≠ L + 4 ∧ F ≠ L + 7 ∧ F ≠ L + 8) : lagC τ L me F there speed t = lagC σ L me F there speed t := by
  funext b
  unfold lagC
  rw [gvS_scr h, h F hF.1 hF.2.1 hF.2.2, latB_eq (σ := σ) (h me (by omega) (by omega) (by omega)) (h (me + 1) (by omega) (by omega) (by omega)) (h (me + 2) (by omega) (by omega) (by omega))]

set_option maxHeartbeats 4000000 in
set_option maxRecDepth 100000 in
theorem c_X4_watch {w : bw} {σ : bSt} {me o n : Nat} (hs : sOutlook w me) (ht : sScene w o) (hd : me + 137 ≤ o ∨ o + 9 ≤ me) (hn : n ≤ 128) : MV yX4_watch cX4_watch 3 none (rmm 2 61) w [.ref (b_ad w me), .ref (b_ad w o), .int (nI n)] σ (pU (b_set (b_up (b_up (blk σ (me + 1) (o + 1) 5) me 1 (σ o 0)) me 2 (nI n)) (me + 6) (fun _ => 0))) := by
  refine b_met (ls := [(0, .ref (b_ad w me)), (1, .ref (b_ad w o)), (2, .int (nI n))]) (by decide) (Nat.le_of_ble_eq_true rfl) rfl (fun x h => ?_)
  refine v_aload_n h (i := 0) dX4_watch_0 (q := 1) rfl rfl 0 rfl ?_
  refine v_get h (k := 0) (v := .ref (b_ad w (me + 1))) cls4 hs.1.1 hs.1.2 (Nat.le_of_ble_eq_true rfl) m248 rfl dX4_watch_1 (q := 4) rfl ?_
  refine v_aload_n h (i := 1) dX4_watch_4 (q := 5) rfl rfl 1 rfl ?_
  refine v_getN h (k := 3) (v := .ref (b_ad w (o + 1))) cls6 ht.1.1 ht.1.2 (Nat.le_of_ble_eq_true rfl) m119 rfl dX4_watch_5 (q := 8) rfl ?_
  refine v_callV h (As := [.ref (b_ad w (o + 1))]) (rest := []) (c_X0_copy (me := me + 1) (o := o + 1) (σ := σ) hs.2.1 ht.2.1 (by omega)) cal_X0_copy calV_X0_copy m600 ⟨rfl, rfl, Nat.le_of_ble_eq_true rfl, Nat.le_of_ble_eq_true rfl⟩ rfl hs.2.1.1.1 hs.2.1.1.2 ⟨_, _, rfl⟩ rfl (Nat.le_of_ble_eq_true rfl) dX4_watch_8 (q := 11) rfl (kU ?_)
  refine v_aload_n h (i := 0) dX4_watch_11 (q := 12) rfl rfl 0 rfl ?_
  refine v_aload_n h (i := 1) dX4_watch_12 (q := 13) rfl rfl 1 rfl ?_
  refine v_getN h (k := 0) (v := .int ((blk σ (me + 1) (o + 1) 5) o 0)) cls6 ht.1.1 ht.1.2 (Nat.le_of_ble_eq_true rfl) m112 rfl dX4_watch_13 (q := 16) rfl ?_
  rw [show ((blk σ (me + 1) (o + 1) 5) o 0 : Int32) = σ o 0 from (by rw [blk_out (by omega)])]
  refine v_put h (k := 1) cls4 hs.1.1 hs.1.2 (Nat.le_of_ble_eq_true rfl) rfl m250 rfl ⟨rfl, rfl⟩ dX4_watch_16 (q := 19) rfl ?_
  refine v_aload_n h (i := 0) dX4_watch_19 (q := 20) rfl rfl 0 rfl ?_
  refine v_iconst h (v := 0) dX4_watch_20 (q := 21) rfl (by decide) ?_
  refine v_sipush h (v := 128) dX4_watch_21 (q := 24) rfl (by decide) ?_
  refine v_iload_n h (i := 2) dX4_watch_24 (q := 25) rfl rfl 2 rfl ?_
  refine v_min h m605 m411 m13 m412 ⟨Nat.le_of_ble_eq_true rfl, Nat.le_of_ble_eq_true rfl⟩ dX4_watch_25 (q := 28) rfl ?_
  refine v_max h m606 m386 m13 m387 ⟨Nat.le_of_ble_eq_true rfl, Nat.le_of_ble_eq_true rfl⟩ dX4_watch_28 (q := 31) rfl ?_
  rw [show (imax 0 (imin 128 (nI n)) : Int32) = nI n from (max0_min hn)]
  refine v_put h (k := 2) cls4 hs.1.1 hs.1.2 (Nat.le_of_ble_eq_true rfl) rfl m251 rfl ⟨rfl, rfl⟩ dX4_watch_31 (q := 34) rfl ?_
  refine v_aload_n h (i := 0) dX4_watch_34 (q := 35) rfl rfl 0 rfl ?_
  refine v_get h (k := 4) (v := .ref (b_ad w (me + 6))) cls4 hs.1.1 hs.1.2 (Nat.le_of_ble_eq_true rfl) m253 rfl dX4_watch_35 (q := 38) rfl ?_
  refine v_iconst h (v := 0) dX4_watch_38 (q := 39) rfl (by decide) ?_
  refine v_callS h (As := [.ref (b_ad w (me + 6)), .int 0]) (rest := []) (c_J7_fill_53178 (j := me + 6) (n0 := 129) (v := 0) (σ := b_up (b_up (blk σ (me + 1) (o + 1) 5) me 1 (σ o 0)) me 2 (nI n)) hs.2.2.1 (by decide)) cal_J7_fill_53178 m54 m607 ⟨rfl, rfl, Nat.le_of_ble_eq_true rfl, Nat.le_of_ble_eq_true rfl⟩ rfl rfl (Nat.le_of_ble_eq_true rfl) dX4_watch_39 (q := 42) rfl (kU ?_)
  exact v_vret h dX4_watch_42 ⟨rfl, rfl⟩

set_option maxHeartbeats 4000000 in
set_option maxRecDepth 100000 in
theorem lX4_sail_25 {w : bw} {σ : bSt} {me L b bt n : Nat} (hs : sOutlook w me) (hsL : sLaws w L) (hd : me + 137 ≤ L ∨ L + 9 ≤ me) (hb : b < 9) (hh : hB σ (me + 1) (nI b)) (ebt : σ me 1 = nI bt) (hbt : bt + 128 < 20000) (en : σ me 2 = nI n) (hn : n ≤ 128) {x : bX} (h : Cx x w cX4_sail RX4 7 none (rmm 4 92)) : ∀ n2 k : Nat, k + n2 = n + 1 → ∀ (c : Int32) (τ : bSt), c = pthF σ me L b bt k → slR me L b bt k σ τ → V x w 7 (pV (fun σ' => slR me L b bt (n + 1) σ σ')) 25 [(4, .int (nI k)), (3, .int c), (0, .ref (b_ad w me)), (1, .ref (b_ad w L)), (2, .int (nI b))] [] τ := by
  refine b_ind (fun n2 ih => ?_)
  intro k hkn c τ ec hsl
  have e1 : ∀ f, f < 6 → τ (me + f) = σ (me + f) := fun f hf => hsl.1 (me + f) (by omega) (by omega)
  have e0 : τ me = σ me := hsl.1 me (by omega) (by omega)
  refine v_iload h (i := 4) dX4_sail_25 (q := 27) rfl 0 rfl ?_
  refine v_aload_n h (i := 0) dX4_sail_27 (q := 28) rfl rfl 2 rfl ?_
  refine v_get h (k := 2) (v := .int (τ me 2)) cls4 hs.1.1 hs.1.2 (Nat.le_of_ble_eq_true rfl) m251 rfl dX4_sail_28 (q := 31) rfl ?_
  rw [show (τ me 2 : Int32) = nI n from (by rw [e0]; exact en)]
  refine v_icmp_gt h (t := 138) dX4_sail_31 (by decide) (q := 34) rfl (fun c31 => ?_) (fun c31 => ?_)
  · have hzk : n + 1 = k := by
      have := (nI_ltI (a := n) (b := k) (by omega) (by omega)).mp c31
      omega
    exact v_vret h dX4_sail_138 ⟨rfl, by rw [hzk]; exact hsl⟩
  · have hkn2 : k ≤ n := Nat.not_lt.mp (fun z => c31 (nI_lt z (by omega)))
    have hk129 : k < 129 := by omega
    have hrow := hs.2.2.2.2 k hk129
    have hht : hB τ (me + 1) (nI b) := by unfold hB; rw [e1 1 (by omega)]; exact hh
    refine v_iload h (i := 4) dX4_sail_34 (q := 36) rfl 0 rfl ?_
    refine v_sipush h (v := 128) dX4_sail_36 (q := 39) rfl (by decide) ?_
    refine v_icmp_gt h (t := 138) dX4_sail_39 (by decide) (q := 42) rfl (fun c39 => absurd c39 (fun z => absurd ((nI_ltI (a := 128) (b := k) (by decide) (by omega)).mp z) (by omega))) (fun c39 => ?_)
    refine v_aload_n h (i := 0) dX4_sail_42 (q := 43) rfl rfl 2 rfl ?_
    refine v_get h (k := 1) (v := .int (τ me 1)) cls4 hs.1.1 hs.1.2 (Nat.le_of_ble_eq_true rfl) m250 rfl dX4_sail_43 (q := 46) rfl ?_
    rw [show (τ me 1 : Int32) = nI bt from (by rw [e0]; exact ebt)]
    refine v_iload h (i := 4) dX4_sail_46 (q := 48) rfl 0 rfl ?_
    refine v_iadd h dX4_sail_48 (q := 49) rfl ?_
    rw [show ((nI bt) + (nI k) : Int32) = nI (bt + k) from (nI_add bt k)]
    refine v_bipush h (v := 31) dX4_sail_49 (q := 51) rfl (by decide) ?_
    refine v_iand h dX4_sail_51 (q := 52) rfl ?_
    rw [show ((nI (bt + k)) &&& 31 : Int32) = nI ((bt + k) % 32) from (and31 (by omega))]
    refine v_istore h (i := 5) (ls1 := [(5, .int (nI ((bt + k) % 32))), (4, .int (nI k)), (3, .int c), (0, .ref (b_ad w me)), (1, .ref (b_ad w L)), (2, .int (nI b))]) dX4_sail_52 (q := 54) rfl (Nat.le_of_ble_eq_true rfl) rfl ?_
    refine v_iconst h (v := 1) dX4_sail_54 (q := 55) rfl (by decide) ?_
    refine v_iload_n h (i := 2) dX4_sail_55 (q := 56) rfl rfl 5 rfl ?_
    refine v_ishl h dX4_sail_56 (q := 57) rfl ?_
    refine v_istore h (i := 6) (ls1 := [(6, .int (1 <<< ((nI b) &&& 31))), (5, .int (nI ((bt + k) % 32))), (4, .int (nI k)), (3, .int c), (0, .ref (b_ad w me)), (1, .ref (b_ad w L)), (2, .int (nI b))]) dX4_sail_57 (q := 59) rfl (Nat.le_of_ble_eq_true rfl) rfl ?_
    refine v_aload_n h (i := 0) dX4_sail_59 (q := 60) rfl rfl 4 rfl ?_
    refine v_get h (k := 3) (v := .ref (b_ad w (me + 7))) cls4 hs.1.1 hs.1.2 (Nat.le_of_ble_eq_true rfl) m252 rfl dX4_sail_60 (q := 63) rfl ?_
    refine v_iload h (i := 4) dX4_sail_63 (q := 65) rfl 2 rfl ?_
    refine v_aald h (cA := 0) (j2 := me + 8 + k) (ty := .array .int) hs.2.2.2.1.1 hs.2.2.2.1.2 rfl rfl (vp_in_nI hk129 (by decide)) (by rw [nI_clamp (by omega)]; rfl) dX4_sail_65 (q := 66) rfl ?_
    refine v_iload_n h (i := 2) dX4_sail_66 (q := 67) rfl rfl 6 rfl ?_
    refine v_iload_n h (i := 3) dX4_sail_67 (q := 68) rfl rfl 3 rfl ?_
    refine v_iast h (k := b) hrow.1 hrow.2 (vp_in_nI hb (by decide)) (nI_clamp (by omega)) dX4_sail_68 (q := 69) rfl ?_
    generalize eσ68 : b_up τ (me + 8 + k) b c = σ68
    refine v_aload_n h (i := 0) dX4_sail_69 (q := 70) rfl rfl 4 rfl ?_
    refine v_get h (k := 4) (v := .ref (b_ad w (me + 6))) cls4 hs.1.1 hs.1.2 (Nat.le_of_ble_eq_true rfl) m253 rfl dX4_sail_70 (q := 73) rfl ?_
    refine v_iload h (i := 4) dX4_sail_73 (q := 75) rfl 2 rfl ?_
    refine v_aload_n h (i := 0) dX4_sail_75 (q := 76) rfl rfl 4 rfl ?_
    refine v_get h (k := 0) (v := .ref (b_ad w (me + 1))) cls4 hs.1.1 hs.1.2 (Nat.le_of_ble_eq_true rfl) m248 rfl dX4_sail_76 (q := 79) rfl ?_
    refine v_iload_n h (i := 2) dX4_sail_79 (q := 80) rfl rfl 6 rfl ?_
    refine v_iload h (i := 5) dX4_sail_80 (q := 82) rfl 1 rfl ?_
    refine v_callV h (As := [.int (nI b), .int (nI ((bt + k) % 32))]) (rest := [.int (nI k), .ref (b_ad w (me + 6))]) (c_X0_sings (me := me + 1) (σ := σ68) (b := nI b) (t := nI ((bt + k) % 32)) hs.2.1) cal_X0_sings calV_X0_sings m613 ⟨rfl, rfl, Nat.le_of_ble_eq_true rfl, Nat.le_of_ble_eq_true rfl⟩ rfl hs.2.1.1.1 hs.2.1.1.2 ⟨_, _, rfl⟩ rfl (Nat.le_of_ble_eq_true rfl) dX4_sail_82 (q := 85) rfl (kB (fun c82 => ?_) (fun c82 => ?_))
    · refine v_if_eq h (t := 101) dX4_sail_85 (by decide) (q := 88) rfl (fun c => absurd c (by decide)) (fun _ => ?_)
      have sgx : sgB σ68 (me + 1) (nI b).toNatClampNeg (nI ((bt + k) % 32)) ↔ sgB σ (me + 1) b (nI ((bt + k) % 32)) := by
        unfold sgB
        rw [nI_clamp (by omega), show me + 1 + 4 = me + 5 from rfl, ← eσ68, b_up_n (by omega), e1 5 (by omega)]
      have sgv : σ (me + 6) k = σ68 (me + 6) k := by
        rw [← eσ68, b_up_n (by omega), hsl.2.2.2.2 k (Nat.le_refl _)]
      have hht2 : hB σ68 (me + 1) (nI b) := by
        unfold hB
        rw [← eσ68, b_up_n (by omega)]
        exact hht
      refine v_aload_n h (i := 0) dX4_sail_88 (q := 89) rfl rfl 4 rfl ?_
      refine v_get h (k := 4) (v := .ref (b_ad w (me + 6))) cls4 hs.1.1 hs.1.2 (Nat.le_of_ble_eq_true rfl) m253 rfl dX4_sail_89 (q := 92) rfl ?_
      refine v_iload h (i := 4) dX4_sail_92 (q := 94) rfl 2 rfl ?_
      refine v_iald h (k := k) hs.2.2.1.1 hs.2.2.1.2 (vp_in_nI (by omega) (by omega)) (nI_clamp (by omega)) dX4_sail_94 (q := 95) rfl ?_
      refine v_iload h (i := 6) dX4_sail_95 (q := 97) rfl 0 rfl ?_
      refine v_ior h dX4_sail_97 (q := 98) rfl ?_
      refine v_goto h (t := 113) dX4_sail_98 (by decide) ?_
      refine v_iast h (k := k) hs.2.2.1.1 hs.2.2.1.2 (vp_in_nI (by omega) (by omega)) (nI_clamp (by omega)) dX4_sail_113 (q := 114) rfl ?_
      generalize eσ113 : b_up σ68 (me + 6) k ((σ68 (me + 6) k) ||| (1 <<< ((nI b) &&& 31))) = σ113
      refine v_aload_n h (i := 0) dX4_sail_114 (q := 115) rfl rfl 4 rfl ?_
      refine v_get h (k := 0) (v := .ref (b_ad w (me + 1))) cls4 hs.1.1 hs.1.2 (Nat.le_of_ble_eq_true rfl) m248 rfl dX4_sail_115 (q := 118) rfl ?_
      refine v_iload_n h (i := 2) dX4_sail_118 (q := 119) rfl rfl 6 rfl ?_
      refine v_iload_n h (i := 3) dX4_sail_119 (q := 120) rfl rfl 3 rfl ?_
      refine v_iload h (i := 5) dX4_sail_120 (q := 122) rfl 1 rfl ?_
      refine v_aload_n h (i := 1) dX4_sail_122 (q := 123) rfl rfl 5 rfl ?_
      refine v_iload h (i := 5) dX4_sail_123 (q := 125) rfl 1 rfl ?_
      refine v_callV h (As := [.int (nI ((bt + k) % 32))]) (rest := [.int (nI ((bt + k) % 32)), .int c, .int (nI b), .ref (b_ad w (me + 1))]) (c_X3_tideIn (me := L) (tn := ((bt + k) % 32)) (σ := σ113) hsL (Nat.mod_lt _ (by decide))) cal_X3_tideIn calV_X3_tideIn m614 ⟨rfl, rfl, Nat.le_of_ble_eq_true rfl, Nat.le_of_ble_eq_true rfl⟩ rfl hsL.1.1 hsL.1.2 ⟨_, _, rfl⟩ rfl (Nat.le_of_ble_eq_true rfl) dX4_sail_125 (q := 128) rfl (kI ?_)
      refine v_callV h (As := [.int (nI b), .int c, .int (nI ((bt + k) % 32)), .int (σ113 (L + 1) (((bt + k) % 32) / 8))]) (rest := []) (c_X0_behind (me := me + 1) (σ := σ113) (b := nI b) (cell := c) (t := nI ((bt + k) % 32)) (tide := σ113 (L + 1) (((bt + k) % 32) / 8)) hs.2.1) cal_X0_behind calV_X0_behind m615 ⟨rfl, rfl, Nat.le_of_ble_eq_true rfl, Nat.le_of_ble_eq_true rfl⟩ rfl hs.2.1.1.1 hs.2.1.1.2 ⟨_, _, rfl⟩ rfl (Nat.le_of_ble_eq_true rfl) dX4_sail_128 (q := 131) rfl (kI ?_)
      refine v_istore_n h (i := 3) (ls1 := [(3, .int (behB σ113 (me + 1) (nI b) c (nI ((bt + k) % 32)) (σ113 (L + 1) (((bt + k) % 32) / 8)))), (6, .int (1 <<< ((nI b) &&& 31))), (5, .int (nI ((bt + k) % 32))), (4, .int (nI k)), (0, .ref (b_ad w me)), (1, .ref (b_ad w L)), (2, .int (nI b))]) dX4_sail_131 (q := 132) rfl rfl (Nat.le_of_ble_eq_true rfl) rfl ?_
      refine v_iinc h (p := 3) (u := nI (k + 1)) (ls1 := [(4, .int (nI (k + 1))), (3, .int (behB σ113 (me + 1) (nI b) c (nI ((bt + k) % 32)) (σ113 (L + 1) (((bt + k) % 32) / 8)))), (6, .int (1 <<< ((nI b) &&& 31))), (5, .int (nI ((bt + k) % 32))), (0, .ref (b_ad w me)), (1, .ref (b_ad w L)), (2, .int (nI b))]) dX4_sail_132 (q := 135) rfl rfl (nI_1 k) (Nat.le_of_ble_eq_true rfl) rfl ?_
      refine v_goto h (t := 25) dX4_sail_135 (by decide) ?_
      refine v_ls [0, 1, 4, 5, 6] (ls2 := [(4, .int (nI (k + 1))), (3, .int (behB σ113 (me + 1) (nI b) c (nI ((bt + k) % 32)) (σ113 (L + 1) (((bt + k) % 32) / 8)))), (0, .ref (b_ad w me)), (1, .ref (b_ad w L)), (2, .int (nI b))]) rfl ?_
      have hst := slR_s hsl (by omega) eσ68 eσ113 ec (by unfold sgS; first | (rw [if_pos (sgx.mp c82.2), sgv]; rfl) | (rw [if_neg (fun z => c82 ⟨hht2, sgx.mpr z⟩), sgv]; rfl))
      have e2 : ∀ f, f < 6 → σ113 (me + f) = σ (me + f) := fun f hf => hst.1 (me + f) (by omega) (by omega)
      refine ih (n2 - 1) (by omega) (k + 1) (by omega) _ σ113 ?_ hst
      rw [pthF, ← ec]
      unfold behB
      rw [if_pos (show hB σ113 (me + 1) (nI b) from by unfold hB; rw [e2 1 (by omega)]; exact hh), nI_clamp (by omega), show me + 1 + 1 = me + 2 from rfl, show me + 1 + 2 = me + 3 from rfl, e2 2 (by omega), e2 3 (by omega)]
      unfold sgB
      rw [show me + 1 + 4 = me + 5 from rfl, e2 5 (by omega), hst.1 (L + 1) (by omega) (by omega)]
    · refine v_if_eq h (t := 101) dX4_sail_85 (by decide) (q := 88) rfl (fun _ => ?_) (fun c => absurd (by decide) c)
      have sgx : sgB σ68 (me + 1) (nI b).toNatClampNeg (nI ((bt + k) % 32)) ↔ sgB σ (me + 1) b (nI ((bt + k) % 32)) := by
        unfold sgB
        rw [nI_clamp (by omega), show me + 1 + 4 = me + 5 from rfl, ← eσ68, b_up_n (by omega), e1 5 (by omega)]
      have sgv : σ (me + 6) k = σ68 (me + 6) k := by
        rw [← eσ68, b_up_n (by omega), hsl.2.2.2.2 k (Nat.le_refl _)]
      have hht2 : hB σ68 (me + 1) (nI b) := by
        unfold hB
        rw [← eσ68, b_up_n (by omega)]
        exact hht
      refine v_aload_n h (i := 0) dX4_sail_101 (q := 102) rfl rfl 4 rfl ?_
      refine v_get h (k := 4) (v := .ref (b_ad w (me + 6))) cls4 hs.1.1 hs.1.2 (Nat.le_of_ble_eq_true rfl) m253 rfl dX4_sail_102 (q := 105) rfl ?_
      refine v_iload h (i := 4) dX4_sail_105 (q := 107) rfl 2 rfl ?_
      refine v_iald h (k := k) hs.2.2.1.1 hs.2.2.1.2 (vp_in_nI (by omega) (by omega)) (nI_clamp (by omega)) dX4_sail_107 (q := 108) rfl ?_
      refine v_iload h (i := 6) dX4_sail_108 (q := 110) rfl 0 rfl ?_
      refine v_iconst h (v := -1) dX4_sail_110 (q := 111) rfl (by decide) ?_
      refine v_ixor h dX4_sail_111 (q := 112) rfl ?_
      refine v_iand h dX4_sail_112 (q := 113) rfl ?_
      refine v_iast h (k := k) hs.2.2.1.1 hs.2.2.1.2 (vp_in_nI (by omega) (by omega)) (nI_clamp (by omega)) dX4_sail_113 (q := 114) rfl ?_
      generalize eσ113_1 : b_up σ68 (me + 6) k ((σ68 (me + 6) k) &&& ((1 <<< ((nI b) &&& 31)) ^^^ (-1))) = σ113_1
      refine v_aload_n h (i := 0) dX4_sail_114 (q := 115) rfl rfl 4 rfl ?_
      refine v_get h (k := 0) (v := .ref (b_ad w (me + 1))) cls4 hs.1.1 hs.1.2 (Nat.le_of_ble_eq_true rfl) m248 rfl dX4_sail_115 (q := 118) rfl ?_
      refine v_iload_n h (i := 2) dX4_sail_118 (q := 119) rfl rfl 6 rfl ?_
      refine v_iload_n h (i := 3) dX4_sail_119 (q := 120) rfl rfl 3 rfl ?_
      refine v_iload h (i := 5) dX4_sail_120 (q := 122) rfl 1 rfl ?_
      refine v_aload_n h (i := 1) dX4_sail_122 (q := 123) rfl rfl 5 rfl ?_
      refine v_iload h (i := 5) dX4_sail_123 (q := 125) rfl 1 rfl ?_
      refine v_callV h (As := [.int (nI ((bt + k) % 32))]) (rest := [.int (nI ((bt + k) % 32)), .int c, .int (nI b), .ref (b_ad w (me + 1))]) (c_X3_tideIn (me := L) (tn := ((bt + k) % 32)) (σ := σ113_1) hsL (Nat.mod_lt _ (by decide))) cal_X3_tideIn calV_X3_tideIn m614 ⟨rfl, rfl, Nat.le_of_ble_eq_true rfl, Nat.le_of_ble_eq_true rfl⟩ rfl hsL.1.1 hsL.1.2 ⟨_, _, rfl⟩ rfl (Nat.le_of_ble_eq_true rfl) dX4_sail_125 (q := 128) rfl (kI ?_)
      refine v_callV h (As := [.int (nI b), .int c, .int (nI ((bt + k) % 32)), .int (σ113_1 (L + 1) (((bt + k) % 32) / 8))]) (rest := []) (c_X0_behind (me := me + 1) (σ := σ113_1) (b := nI b) (cell := c) (t := nI ((bt + k) % 32)) (tide := σ113_1 (L + 1) (((bt + k) % 32) / 8)) hs.2.1) cal_X0_behind calV_X0_behind m615 ⟨rfl, rfl, Nat.le_of_ble_eq_true rfl, Nat.le_of_ble_eq_true rfl⟩ rfl hs.2.1.1.1 hs.2.1.1.2 ⟨_, _, rfl⟩ rfl (Nat.le_of_ble_eq_true rfl) dX4_sail_128 (q := 131) rfl (kI ?_)
      refine v_istore_n h (i := 3) (ls1 := [(3, .int (behB σ113_1 (me + 1) (nI b) c (nI ((bt + k) % 32)) (σ113_1 (L + 1) (((bt + k) % 32) / 8)))), (6, .int (1 <<< ((nI b) &&& 31))), (5, .int (nI ((bt + k) % 32))), (4, .int (nI k)), (0, .ref (b_ad w me)), (1, .ref (b_ad w L)), (2, .int (nI b))]) dX4_sail_131 (q := 132) rfl rfl (Nat.le_of_ble_eq_true rfl) rfl ?_
      refine v_iinc h (p := 3) (u := nI (k + 1)) (ls1 := [(4, .int (nI (k + 1))), (3, .int (behB σ113_1 (me + 1) (nI b) c (nI ((bt + k) % 32)) (σ113_1 (L + 1) (((bt + k) % 32) / 8)))), (6, .int (1 <<< ((nI b) &&& 31))), (5, .int (nI ((bt + k) % 32))), (0, .ref (b_ad w me)), (1, .ref (b_ad w L)), (2, .int (nI b))]) dX4_sail_132 (q := 135) rfl rfl (nI_1 k) (Nat.le_of_ble_eq_true rfl) rfl ?_
      refine v_goto h (t := 25) dX4_sail_135 (by decide) ?_
      refine v_ls [0, 1, 4, 5, 6] (ls2 := [(4, .int (nI (k + 1))), (3, .int (behB σ113_1 (me + 1) (nI b) c (nI ((bt + k) % 32)) (σ113_1 (L + 1) (((bt + k) % 32) / 8)))), (0, .ref (b_ad w me)), (1, .ref (b_ad w L)), (2, .int (nI b))]) rfl ?_
      have hst := slR_s hsl (by omega) eσ68 eσ113_1 ec (by unfold sgS; first | (rw [if_pos (sgx.mp c82.2), sgv]; rfl) | (rw [if_neg (fun z => c82 ⟨hht2, sgx.mpr z⟩), sgv]; rfl))
      have e2 : ∀ f, f < 6 → σ113_1 (me + f) = σ (me + f) := fun f hf => hst.1 (me + f) (by omega) (by omega)
      refine ih (n2 - 1) (by omega) (k + 1) (by omega) _ σ113_1 ?_ hst
      rw [pthF, ← ec]
      unfold behB
      rw [if_pos (show hB σ113_1 (me + 1) (nI b) from by unfold hB; rw [e2 1 (by omega)]; exact hh), nI_clamp (by omega), show me + 1 + 1 = me + 2 from rfl, show me + 1 + 2 = me + 3 from rfl, e2 2 (by omega), e2 3 (by omega)]
      unfold sgB
      rw [show me + 1 + 4 = me + 5 from rfl, e2 5 (by omega), hst.1 (L + 1) (by omega) (by omega)]
set_option maxHeartbeats 4000000 in
set_option maxRecDepth 100000 in
theorem c_X4_sail {w : bw} {σ : bSt} {me L b bt n : Nat} (hs : sOutlook w me) (hsL : sLaws w L) (hd : me + 137 ≤ L ∨ L + 9 ≤ me) (hb : b < 9) (hh : hB σ (me + 1) (nI b)) (ebt : σ me 1 = nI bt) (hbt : bt + 128 < 20000) (en : σ me 2 = nI n) (hn : n ≤ 128) : MV yX4_sail cX4_sail 7 none (rmm 4 92) w [.ref (b_ad w me), .ref (b_ad w L), .int (nI b)] σ (pV (fun σ' => slR me L b bt (n + 1) σ σ')) := by
  refine b_met (ls := [(0, .ref (b_ad w me)), (1, .ref (b_ad w L)), (2, .int (nI b))]) (by decide) (Nat.le_of_ble_eq_true rfl) rfl (fun x h => ?_)
  refine v_aload_n h (i := 0) dX4_sail_0 (q := 1) rfl rfl 0 rfl ?_
  refine v_get h (k := 0) (v := .ref (b_ad w (me + 1))) cls4 hs.1.1 hs.1.2 (Nat.le_of_ble_eq_true rfl) m248 rfl dX4_sail_1 (q := 4) rfl ?_
  refine v_iload_n h (i := 2) dX4_sail_4 (q := 5) rfl rfl 2 rfl ?_
  refine v_callV h (As := [.int (nI b)]) (rest := []) (c_X0_hold (me := me + 1) (σ := σ) (b := nI b) hs.2.1) cal_X0_hold calV_X0_hold m612 ⟨rfl, rfl, Nat.le_of_ble_eq_true rfl, Nat.le_of_ble_eq_true rfl⟩ rfl hs.2.1.1.1 hs.2.1.1.2 ⟨_, _, rfl⟩ rfl (Nat.le_of_ble_eq_true rfl) dX4_sail_5 (q := 8) rfl (kB (fun c5 => ?_) (fun c5 => absurd (show hB σ (me + 1) (nI b) from hh) c5))
  refine v_if_ne h (t := 12) dX4_sail_8 (by decide) (q := 11) rfl (fun _ => ?_) (fun c => absurd c (by decide))
  refine v_aload_n h (i := 0) dX4_sail_12 (q := 13) rfl rfl 0 rfl ?_
  refine v_get h (k := 0) (v := .ref (b_ad w (me + 1))) cls4 hs.1.1 hs.1.2 (Nat.le_of_ble_eq_true rfl) m248 rfl dX4_sail_13 (q := 16) rfl ?_
  refine v_getN h (k := 3) (v := .ref (b_ad w (me + 4))) cls0 hs.2.1.1.1 hs.2.1.1.2 (Nat.le_of_ble_eq_true rfl) m95 rfl dX4_sail_16 (q := 19) rfl ?_
  refine v_iload_n h (i := 2) dX4_sail_19 (q := 20) rfl rfl 2 rfl ?_
  refine v_iald h (k := b) hs.2.1.2.2.2.1.1 hs.2.1.2.2.2.1.2 (vp_in_nI hb (by decide)) (nI_clamp (by omega)) dX4_sail_20 (q := 21) rfl ?_
  refine v_istore_n h (i := 3) (ls1 := [(3, .int (σ (me + 4) b)), (0, .ref (b_ad w me)), (1, .ref (b_ad w L)), (2, .int (nI b))]) dX4_sail_21 (q := 22) rfl rfl (Nat.le_of_ble_eq_true rfl) rfl ?_
  refine v_iconst h (v := 0) dX4_sail_22 (q := 23) rfl (by decide) ?_
  refine v_istore h (i := 4) (ls1 := [(4, .int 0), (3, .int (σ (me + 4) b)), (0, .ref (b_ad w me)), (1, .ref (b_ad w L)), (2, .int (nI b))]) dX4_sail_23 (q := 25) rfl (Nat.le_of_ble_eq_true rfl) rfl ?_
  exact lX4_sail_25 hs hsL hd hb hh ebt hbt en hn h (n + 1) 0 (by omega) _ σ (by first | rfl | rw [nI_clamp (n := b) (by omega)]; rfl) slR_0

set_option maxHeartbeats 4000000 in
set_option maxRecDepth 100000 in
theorem c_X4_cellBehind {w : bw} {σ : bSt} {me k b : Nat} (hs : sOutlook w me) (hk : k ≤ 128) (hb : b < 9) (hh : hB σ (me + 1) (nI b)) : MV yX4_cellBehind cX4_cellBehind 3 (some .int) (rmm 1 21) w [.ref (b_ad w me), .int (nI k), .int (nI b)] σ (pI (σ (me + 8 + k) b) σ) := by
  refine b_met (ls := [(0, .ref (b_ad w me)), (1, .int (nI k)), (2, .int (nI b))]) (by decide) (Nat.le_of_ble_eq_true rfl) rfl (fun x h => ?_)
  refine v_iload_n h (i := 1) dX4_cellBehind_0 (q := 1) rfl rfl 1 rfl ?_
  refine v_if_lt h (t := 33) dX4_cellBehind_1 (by decide) (q := 4) rfl (fun c1 => absurd c1 (nI_pos (by omega))) (fun c1 => ?_)
  refine v_iload_n h (i := 1) dX4_cellBehind_4 (q := 5) rfl rfl 1 rfl ?_
  refine v_sipush h (v := 128) dX4_cellBehind_5 (q := 8) rfl (by decide) ?_
  refine v_icmp_gt h (t := 33) dX4_cellBehind_8 (by decide) (q := 11) rfl (fun c8 => absurd c8 (fun z => absurd ((nI_ltI (a := 128) (b := k) (by decide) (by omega)).mp z) (by omega))) (fun c8 => ?_)
  refine v_aload_n h (i := 0) dX4_cellBehind_11 (q := 12) rfl rfl 0 rfl ?_
  refine v_get h (k := 0) (v := .ref (b_ad w (me + 1))) cls4 hs.1.1 hs.1.2 (Nat.le_of_ble_eq_true rfl) m248 rfl dX4_cellBehind_12 (q := 15) rfl ?_
  refine v_iload_n h (i := 2) dX4_cellBehind_15 (q := 16) rfl rfl 2 rfl ?_
  refine v_callV h (As := [.int (nI b)]) (rest := []) (c_X0_hold (me := me + 1) (σ := σ) (b := nI b) hs.2.1) cal_X0_hold calV_X0_hold m612 ⟨rfl, rfl, Nat.le_of_ble_eq_true rfl, Nat.le_of_ble_eq_true rfl⟩ rfl hs.2.1.1.1 hs.2.1.1.2 ⟨_, _, rfl⟩ rfl (Nat.le_of_ble_eq_true rfl) dX4_cellBehind_16 (q := 19) rfl (kB (fun c16 => ?_) (fun c16 => absurd hh c16))
  refine v_if_eq h (t := 33) dX4_cellBehind_19 (by decide) (q := 22) rfl (fun c => absurd c (by decide)) (fun _ => ?_)
  have hk129 : k < 129 := by omega
  have hrow := hs.2.2.2.2 k hk129
  refine v_aload_n h (i := 0) dX4_cellBehind_22 (q := 23) rfl rfl 0 rfl ?_
  refine v_get h (k := 3) (v := .ref (b_ad w (me + 7))) cls4 hs.1.1 hs.1.2 (Nat.le_of_ble_eq_true rfl) m252 rfl dX4_cellBehind_23 (q := 26) rfl ?_
  refine v_iload_n h (i := 1) dX4_cellBehind_26 (q := 27) rfl rfl 1 rfl ?_
  refine v_aald h (cA := 0) (j2 := me + 8 + k) (ty := .array .int) hs.2.2.2.1.1 hs.2.2.2.1.2 rfl rfl (vp_in_nI hk129 (by decide)) (by rw [nI_clamp (by omega)]; rfl) dX4_cellBehind_27 (q := 28) rfl ?_
  refine v_iload_n h (i := 2) dX4_cellBehind_28 (q := 29) rfl rfl 2 rfl ?_
  refine v_iald h (k := b) hrow.1 hrow.2 (vp_in_nI hb (by decide)) (nI_clamp (by omega)) dX4_cellBehind_29 (q := 30) rfl ?_
  refine v_goto h (t := 34) dX4_cellBehind_30 (by decide) ?_
  exact v_iret h dX4_cellBehind_34 ⟨rfl, rfl⟩

set_option maxHeartbeats 4000000 in
set_option maxRecDepth 100000 in
theorem lX4_inTime_6 {w : bw} {σ : bSt} {me L bt n y vn : Nat} (hs : sOutlook w me) (hsL : sLaws w L) (hd : me + 137 ≤ L ∨ L + 9 ≤ me) (hok : okL σ L) (hca : cacheOK σ L) (h1 : 1 ≤ vn) (h2 : vn ≤ 9) (hy : y < 64) (ebt : σ me 1 = nI bt) (hbt : bt + 128 < 20000) (en : σ me 2 = nI n) (hn : n ≤ 128) (hrc : ∀ k, k < 129 → ∀ b, b < 9 → ∃ c, c < 64 ∧ σ (me + 8 + k) b = nI c) {x : bX} (h : Cx x w cX4_inTime RX4 6 (some .int) (rmm 5 127)) : ∀ n2 k : Nat, k + n2 = n → ∀ (s : Int32) (τ : bSt), s = nI (itF (fun k => lagC σ L (me + 1) (me + 8 + k) (nI y) (nI vn) (nI ((bt + k) % 32))) (σ (me + 6)) k) → scr L σ τ → cacheOK τ L → V x w 6 (pR (fun r σ' => r = nI (itF (fun k => lagC σ L (me + 1) (me + 8 + k) (nI y) (nI vn) (nI ((bt + k) % 32))) (σ (me + 6)) n) ∧ scr L σ σ' ∧ cacheOK σ' L)) 6 [(5, .int (nI k)), (4, .int s), (0, .ref (b_ad w me)), (1, .ref (b_ad w L)), (2, .int (nI y)), (3, .int (nI vn))] [] τ := by
  refine b_ind (fun n2 ih => ?_)
  intro k hkn s τ es hsc hct
  have e0 : τ me = σ me := hsc me (by omega) (by omega) (by omega)
  refine v_iload h (i := 5) dX4_inTime_6 (q := 8) rfl 0 rfl ?_
  refine v_aload_n h (i := 0) dX4_inTime_8 (q := 9) rfl rfl 2 rfl ?_
  refine v_get h (k := 2) (v := .int (τ me 2)) cls4 hs.1.1 hs.1.2 (Nat.le_of_ble_eq_true rfl) m251 rfl dX4_inTime_9 (q := 12) rfl ?_
  rw [show (τ me 2 : Int32) = nI n from (by rw [e0]; exact en)]
  refine v_icmp_ge h (t := 69) dX4_inTime_12 (by decide) (q := 15) rfl (fun c12 => ?_) (fun c12 => ?_)
  · refine v_iload h (i := 4) dX4_inTime_69 (q := 71) rfl 1 rfl ?_
    exact v_iret h dX4_inTime_71 ⟨_, rfl, by rw [es, show n = k by have := nge (k := n) (nI_toInt (by omega)) (by omega) c12; omega], hsc, hct⟩
  · have hkn2 : k < n := nlt (nI_toInt (by omega)) (by omega) c12
    have hk129 : k < 129 := by omega
    have hrow := hs.2.2.2.2 k hk129
    have hct32 : (bt + k) % 32 < 32 := Nat.mod_lt _ (by decide)
    refine v_iload h (i := 5) dX4_inTime_15 (q := 17) rfl 0 rfl ?_
    refine v_sipush h (v := 128) dX4_inTime_17 (q := 20) rfl (by decide) ?_
    refine v_icmp_ge h (t := 69) dX4_inTime_20 (by decide) (q := 23) rfl (fun c20 => absurd c20 (nnle (k := 128) rfl (by omega) (by decide))) (fun c20 => ?_)
    refine v_aload_n h (i := 0) dX4_inTime_23 (q := 24) rfl rfl 2 rfl ?_
    refine v_get h (k := 0) (v := .ref (b_ad w (me + 1))) cls4 hs.1.1 hs.1.2 (Nat.le_of_ble_eq_true rfl) m248 rfl dX4_inTime_24 (q := 27) rfl ?_
    refine v_aload_n h (i := 1) dX4_inTime_27 (q := 28) rfl rfl 3 rfl ?_
    refine v_aload_n h (i := 0) dX4_inTime_28 (q := 29) rfl rfl 2 rfl ?_
    refine v_get h (k := 3) (v := .ref (b_ad w (me + 7))) cls4 hs.1.1 hs.1.2 (Nat.le_of_ble_eq_true rfl) m252 rfl dX4_inTime_29 (q := 32) rfl ?_
    refine v_iload h (i := 5) dX4_inTime_32 (q := 34) rfl 0 rfl ?_
    refine v_aald h (cA := 0) (j2 := me + 8 + k) (ty := .array .int) hs.2.2.2.1.1 hs.2.2.2.1.2 rfl rfl (vp_in_nI hk129 (by decide)) (by rw [nI_clamp (by omega)]; rfl) dX4_inTime_34 (q := 35) rfl ?_
    refine v_iload_n h (i := 2) dX4_inTime_35 (q := 36) rfl rfl 4 rfl ?_
    refine v_aload_n h (i := 0) dX4_inTime_36 (q := 37) rfl rfl 2 rfl ?_
    refine v_get h (k := 1) (v := .int (τ me 1)) cls4 hs.1.1 hs.1.2 (Nat.le_of_ble_eq_true rfl) m250 rfl dX4_inTime_37 (q := 40) rfl ?_
    rw [show (τ me 1 : Int32) = nI bt from (by rw [e0]; exact ebt)]
    refine v_iload h (i := 5) dX4_inTime_40 (q := 42) rfl 0 rfl ?_
    refine v_iadd h dX4_inTime_42 (q := 43) rfl ?_
    rw [show ((nI bt) + (nI k) : Int32) = nI (bt + k) from (nI_add bt k)]
    refine v_bipush h (v := 31) dX4_inTime_43 (q := 45) rfl (by decide) ?_
    refine v_iand h dX4_inTime_45 (q := 46) rfl ?_
    rw [show ((nI (bt + k)) &&& 31 : Int32) = nI ((bt + k) % 32) from (and31 (by omega))]
    refine v_iload_n h (i := 3) dX4_inTime_46 (q := 47) rfl rfl 5 rfl ?_
    refine v_aload_n h (i := 0) dX4_inTime_47 (q := 48) rfl rfl 2 rfl ?_
    refine v_get h (k := 4) (v := .ref (b_ad w (me + 6))) cls4 hs.1.1 hs.1.2 (Nat.le_of_ble_eq_true rfl) m253 rfl dX4_inTime_48 (q := 51) rfl ?_
    refine v_iload h (i := 5) dX4_inTime_51 (q := 53) rfl 0 rfl ?_
    refine v_iald h (k := k) hs.2.2.1.1 hs.2.2.1.2 (vp_in_nI (by omega) (by omega)) (nI_clamp (by omega)) dX4_inTime_53 (q := 54) rfl ?_
    refine v_callV h (As := [.ref (b_ad w L), .ref (b_ad w (me + 8 + k)), .int (nI y), .int (nI ((bt + k) % 32)), .int (nI vn), .int (τ (me + 6) k)]) (rest := []) (c_X0_together (me := me + 1) (L := L) (F := me + 8 + k) (y := y) (tn := (bt + k) % 32) (vn := vn) (heard := τ (me + 6) k) (σ := τ) hs.2.1 hsL hrow (okL_scr hsc hok) hct h1 h2 hct32 hy (fun b hb => by rw [hsc (me + 8 + k) (by omega) (by omega) (by omega)]; exact hrc k hk129 b hb) (by omega) ⟨by omega, by omega, by omega⟩) cal_X0_together calV_X0_together m642 ⟨rfl, rfl, Nat.le_of_ble_eq_true rfl, Nat.le_of_ble_eq_true rfl⟩ rfl hs.2.1.1.1 hs.2.1.1.2 ⟨_, _, rfl⟩ rfl (Nat.le_of_ble_eq_true rfl) dX4_inTime_54 (q := 57) rfl (kZ (fun σ54 h54 c54 => ?_) (fun σ54 h54 c54 => ?_))
    · refine v_if_eq h (t := 63) dX4_inTime_57 (by decide) (q := 60) rfl (fun c => absurd c (by decide)) (fun _ => ?_)
      have htgz := c54
      rw [lagC_scr hsc (by omega) ⟨by omega, by omega, by omega⟩, hsc (me + 6) (by omega) (by omega) (by omega)] at htgz
      refine v_iinc h (p := 1) (u := s + 1) (ls1 := [(4, .int (s + 1)), (5, .int (nI k)), (0, .ref (b_ad w me)), (1, .ref (b_ad w L)), (2, .int (nI y)), (3, .int (nI vn))]) dX4_inTime_60 (q := 63) rfl rfl rfl (Nat.le_of_ble_eq_true rfl) rfl ?_
      skip
      refine v_iinc h (p := 1) (u := nI (k + 1)) (ls1 := [(5, .int (nI (k + 1))), (4, .int (s + 1)), (0, .ref (b_ad w me)), (1, .ref (b_ad w L)), (2, .int (nI y)), (3, .int (nI vn))]) dX4_inTime_63 (q := 66) rfl rfl (nI_1 k) (Nat.le_of_ble_eq_true rfl) rfl ?_
      refine v_goto h (t := 6) dX4_inTime_66 (by decide) ?_
      exact ih (n2 - 1) (by omega) (k + 1) (by omega) _ σ54 (by rw [itF, if_pos (tgB_iff.mp htgz), es, nI_1]) (hsc.trans h54.1) h54.2
    · refine v_if_eq h (t := 63) dX4_inTime_57 (by decide) (q := 60) rfl (fun _ => ?_) (fun c => absurd (by decide) c)
      have htgz := c54
      rw [lagC_scr hsc (by omega) ⟨by omega, by omega, by omega⟩, hsc (me + 6) (by omega) (by omega) (by omega)] at htgz
      refine v_iinc h (p := 0) (u := nI (k + 1)) (ls1 := [(5, .int (nI (k + 1))), (4, .int s), (0, .ref (b_ad w me)), (1, .ref (b_ad w L)), (2, .int (nI y)), (3, .int (nI vn))]) dX4_inTime_63 (q := 66) rfl rfl (nI_1 k) (Nat.le_of_ble_eq_true rfl) rfl ?_
      refine v_goto h (t := 6) dX4_inTime_66 (by decide) ?_
      exact ih (n2 - 1) (by omega) (k + 1) (by omega) _ σ54 (by rw [itF, if_neg (fun z => htgz (tgB_iff.mpr z)), es]) (hsc.trans h54.1) h54.2
set_option maxHeartbeats 4000000 in
set_option maxRecDepth 100000 in
theorem c_X4_inTime {w : bw} {σ : bSt} {me L bt n y vn : Nat} (hs : sOutlook w me) (hsL : sLaws w L) (hd : me + 137 ≤ L ∨ L + 9 ≤ me) (hok : okL σ L) (hca : cacheOK σ L) (h1 : 1 ≤ vn) (h2 : vn ≤ 9) (hy : y < 64) (ebt : σ me 1 = nI bt) (hbt : bt + 128 < 20000) (en : σ me 2 = nI n) (hn : n ≤ 128) (hrc : ∀ k, k < 129 → ∀ b, b < 9 → ∃ c, c < 64 ∧ σ (me + 8 + k) b = nI c) : MV yX4_inTime cX4_inTime 6 (some .int) (rmm 5 127) w [.ref (b_ad w me), .ref (b_ad w L), .int (nI y), .int (nI vn)] σ (pR (fun r σ' => r = nI (itF (fun k => lagC σ L (me + 1) (me + 8 + k) (nI y) (nI vn) (nI ((bt + k) % 32))) (σ (me + 6)) n) ∧ scr L σ σ' ∧ cacheOK σ' L)) := by
  refine b_met (ls := [(0, .ref (b_ad w me)), (1, .ref (b_ad w L)), (2, .int (nI y)), (3, .int (nI vn))]) (by decide) (Nat.le_of_ble_eq_true rfl) rfl (fun x h => ?_)
  refine v_iconst h (v := 0) dX4_inTime_0 (q := 1) rfl (by decide) ?_
  refine v_istore h (i := 4) (ls1 := [(4, .int 0), (0, .ref (b_ad w me)), (1, .ref (b_ad w L)), (2, .int (nI y)), (3, .int (nI vn))]) dX4_inTime_1 (q := 3) rfl (Nat.le_of_ble_eq_true rfl) rfl ?_
  refine v_iconst h (v := 0) dX4_inTime_3 (q := 4) rfl (by decide) ?_
  refine v_istore h (i := 5) (ls1 := [(5, .int 0), (4, .int 0), (0, .ref (b_ad w me)), (1, .ref (b_ad w L)), (2, .int (nI y)), (3, .int (nI vn))]) dX4_inTime_4 (q := 6) rfl (Nat.le_of_ble_eq_true rfl) rfl ?_
  exact lX4_inTime_6 hs hsL hd hok hca h1 h2 hy ebt hbt en hn hrc h n 0 (by omega) _ σ rfl scr_rfl hca
