/-! the model's smallest -/
theorem ssub {a b : Int32} : a - (a - b) = b := by
  rw [Int32.sub_eq_add_neg, Int32.sub_eq_add_neg, Int32.neg_add, Int32.sub_eq_add_neg, Int32.neg_neg, ← Int32.add_assoc, Int32.add_right_neg, Int32.zero_add]
def abM (k : Int32) : Int32 := if k = 0 then -1 else if k = 4 then 1 else if k = 5 then 2 else if k = 6 then 3 else 0
theorem ab_M : ∀ k : Nat, k < 7 → abM (nI k) = abv (nI k) := by decide +kernel
theorem far_M : ∀ a : Nat, a < 64 → ∀ b : Nat, b < 64 → imax (iabs (nI a / 8 - nI b / 8)) (iabs (nI a - nI a / 8 * 8 - (nI b - nI b / 8 * 8))) = nI (farN a b) := by decide +kernel
def nxM (cell way : Int32) : Int32 :=
  if wj (cell / 8 + (if way = 3 then 1 else if way = 1 then -1 else 0)) 0 7 ∧ wj (irm cell 8 + (if way = 2 then 1 else if way = 4 then -1 else 0)) 0 7 then 8 * (cell / 8 + (if way = 3 then 1 else if way = 1 then -1 else 0)) + (irm cell 8 + (if way = 2 then 1 else if way = 4 then -1 else 0)) else cell
theorem kc_le : ∀ n : Nat, n &&& (n - 1) ≤ n := fun n => Nat.and_le_left
theorem kc_step : ∀ k n : Nat, 0 < n → n < 2 ^ k → cn k (n &&& (n - 1)) + 1 = cn k n ∧ n &&& (n - 1) < n
  | 0, n, h, h2 => by omega
  | k + 1, n, h, h2 => by
    rcases Nat.mod_two_eq_zero_or_one n with e | e
    · obtain ⟨m, rfl⟩ : ∃ m, n = 2 * m := ⟨n / 2, by omega⟩
      have ih := kc_step k m (by omega) (by rw [Nat.pow_succ] at h2; omega)
      have e2 : 2 * m &&& (2 * m - 1) = 2 * (m &&& (m - 1)) := by
        apply Nat.eq_of_testBit_eq
        intro i
        cases i with
        | zero => rw [Nat.testBit_and, Nat.testBit_zero, Nat.testBit_zero, Nat.testBit_zero]; simp
        | succ i => rw [Nat.testBit_and, Nat.testBit_succ, Nat.testBit_succ, Nat.testBit_succ, show (2 * m - 1) / 2 = m - 1 by omega, show 2 * m / 2 = m by omega, show 2 * (m &&& (m - 1)) / 2 = m &&& (m - 1) by omega, Nat.testBit_and]
      rw [e2, cn, cn, show 2 * (m &&& (m - 1)) / 2 = m &&& (m - 1) by omega, show 2 * m / 2 = m by omega]
      omega
    · obtain ⟨m, rfl⟩ : ∃ m, n = 2 * m + 1 := ⟨n / 2, by omega⟩
      have e2 : (2 * m + 1) &&& (2 * m + 1 - 1) = 2 * m := by
        apply Nat.eq_of_testBit_eq
        intro i
        cases i with
        | zero => rw [Nat.testBit_and, Nat.testBit_zero, Nat.testBit_zero]; simp
        | succ i => rw [Nat.testBit_and, Nat.testBit_succ, Nat.testBit_succ, show (2 * m + 1 - 1) / 2 = m by omega, show (2 * m + 1) / 2 = m by omega, Bool.and_self]; rw [Nat.testBit_succ, show 2 * m / 2 = m by omega]
      rw [e2, cn, cn, show 2 * m / 2 = m by omega, show (2 * m + 1) / 2 = m by omega]
      omega
theorem nI_z {x : Nat} (hx : x < 4294967296) : nI x = 0 ↔ x = 0 := by
  constructor
  · intro h
    have h2 := congrArg (fun z : Int32 => z.toBitVec.toNat) h
    have h3 : (nI x).toBitVec.toNat = x := by rw [nI_bv, BitVec.toNat_ofNat]; exact Nat.mod_eq_of_lt hx
    have h4 : (0 : Int32).toBitVec.toNat = 0 := rfl
    have h5 : (nI x).toBitVec.toNat = (0 : Int32).toBitVec.toNat := h2
    omega
  · intro h
    subst h
    rfl
theorem cn_0 : ∀ k, cn k 0 = 0
  | 0 => rfl
  | k + 1 => by rw [cn, show 0 / 2 = 0 from rfl, cn_0 k]
def doM (op a b : Int32) : Int32 :=
  if op = 20000 then (if a ≠ 0 ∨ b ≠ 0 then 1 else 0) else if op = 20001 then (if a ≠ 0 ∧ b ≠ 0 then 1 else 0) else if op = 20002 then (if a < b then 1 else 0) else if op = 20003 then (if a = b then 1 else 0) else
  if op = 20004 then (if b < a then 1 else 0) else if op = 20005 then a + b else if op = 20006 then a - b else if op = 20007 then a * b else if op = 20008 then (if b = 0 then 0 else a / b) else (if b = 0 then 0 else irm a b)
def hoM (k a : Int32) : Prop := if k = 0 then True else if k = 1 ∨ k = 4 then a = 1 else if k = 2 then a = 0 else if k = 3 then a = 2 else if k = 5 then a = 3 else 1 < a
theorem bx_sh2 : ∀ n : Nat, n < 32 → ((nI n &&& 31).toBitVec.smod 32).toNat = n := by decide +kernel
theorem sshr1 {x : Int32} {t : Nat} (ht : t < 32) : (x >>> (nI t &&& 31)) &&& 1 = ushr x (nI t) &&& 1 := by
  apply Int32.toBitVec_inj.mp
  rw [Int32.toBitVec_and, Int32.toBitVec_and, bv_ushr x ht]
  have e : (x >>> (nI t &&& 31)).toBitVec = x.toBitVec.sshiftRight t := by
    rw [Int32.toBitVec_shiftRight]
    show x.toBitVec.sshiftRight ((nI t &&& 31).toBitVec.smod 32).toNat = _
    rw [bx_sh2 t ht]
  rw [e]
  apply BitVec.eq_of_getLsbD_eq
  intro i hi
  rw [BitVec.getLsbD_and, BitVec.getLsbD_and, bx_one i hi]
  by_cases c : i = 0
  · subst c
    rw [BitVec.getLsbD_sshiftRight, BitVec.getLsbD_ushiftRight, Nat.add_zero]
    simp [ht]
  · rw [decide_eq_false c, Bool.and_false, Bool.and_false]
theorem w3 {k : Int32} (h : k = 3) : (if k = 3 then (1 : Int32) else if k = 1 then -1 else 0) = 1 := if_pos h
theorem w1 {k : Int32} (h3 : ¬ k = 3) (h : k = 1) : (if k = 3 then (1 : Int32) else if k = 1 then -1 else 0) = -1 := by rw [if_neg h3, if_pos h]
theorem w0 {k : Int32} (h3 : ¬ k = 3) (h : ¬ k = 1) : (if k = 3 then (1 : Int32) else if k = 1 then -1 else 0) = 0 := by rw [if_neg h3, if_neg h]
theorem v2 {k : Int32} (h : k = 2) : (if k = 2 then (1 : Int32) else if k = 4 then -1 else 0) = 1 := if_pos h
theorem v4 {k : Int32} (h3 : ¬ k = 2) (h : k = 4) : (if k = 2 then (1 : Int32) else if k = 4 then -1 else 0) = -1 := by rw [if_neg h3, if_pos h]
theorem v0 {k : Int32} (h3 : ¬ k = 2) (h : ¬ k = 4) : (if k = 2 then (1 : Int32) else if k = 4 then -1 else 0) = 0 := by rw [if_neg h3, if_neg h]

set_option maxHeartbeats 4000000 in
set_option maxRecDepth 100000 in
theorem c_X10_finding {w : bw} {σ : bSt} {e : Nat} {v : Int32} (hm : sModel w) (he : e < 6) (hv : v = -1000000000 - nI e) : MV yX10_finding cX10_finding 2 (some .int) (rmm 0 0) w [.ref (b_ad w 0), .int v] σ (pI v (b_up σ 4 e (σ 4 e + 1))) := by
  refine b_met (ls := [(0, .ref (b_ad w 0)), (1, .int v)]) (by decide) (Nat.le_of_ble_eq_true rfl) rfl (fun x h => ?_)
  refine v_aload_n h (i := 0) dX10_finding_0 (q := 1) rfl rfl 0 rfl ?_
  refine v_get h (k := 4) (v := .ref (b_ad w 4)) cls10 hm.1.1 hm.1.2 (Nat.le_of_ble_eq_true rfl) m853 rfl dX10_finding_1 (q := 4) rfl ?_
  refine v_ldc h (v := -1000000000) m936 dX10_finding_4 (q := 6) rfl ?_
  refine v_iload_n h (i := 1) dX10_finding_6 (q := 7) rfl rfl 1 rfl ?_
  refine v_isub h dX10_finding_7 (q := 8) rfl ?_
  rw [show ((-1000000000) - v : Int32) = nI e from (by rw [hv]; exact ssub)]
  refine v_dup2 h dX10_finding_8 (q := 9) rfl rfl rfl ?_
  refine v_iald h (k := e) hm.2.2.2.2.1.1 hm.2.2.2.2.1.2 (vp_in_nI he (by decide)) (nI_clamp (by omega)) dX10_finding_9 (q := 10) rfl ?_
  refine v_iconst h (v := 1) dX10_finding_10 (q := 11) rfl (by decide) ?_
  refine v_iadd h dX10_finding_11 (q := 12) rfl ?_
  refine v_iast h (k := e) hm.2.2.2.2.1.1 hm.2.2.2.2.1.2 (vp_in_nI he (by decide)) (nI_clamp (by omega)) dX10_finding_12 (q := 13) rfl ?_
  refine v_iload_n h (i := 1) dX10_finding_13 (q := 14) rfl rfl 1 rfl ?_
  exact v_iret h dX10_finding_14 ⟨rfl, rfl⟩

set_option maxHeartbeats 4000000 in
set_option maxRecDepth 100000 in
theorem c_X10_within {w : bw} {σ : bSt} {v l m : Int32}  : MV yX10_within cX10_within 3 (some .boolean) (rmm 0 0) w [.int v, .int l, .int m] σ (pB (wi v l m) σ) := by
  refine b_met (ls := [(0, .int v), (1, .int l), (2, .int m)]) (by decide) (Nat.le_of_ble_eq_true rfl) rfl (fun x h => ?_)
  refine v_iload_n h (i := 0) dX10_within_0 (q := 1) rfl rfl 0 rfl ?_
  refine v_iload_n h (i := 1) dX10_within_1 (q := 2) rfl rfl 1 rfl ?_
  refine v_icmp_lt h (t := 14) dX10_within_2 (by decide) (q := 5) rfl (fun c2 => ?_) (fun c2 => ?_)
  · refine v_iconst h (v := 0) dX10_within_14 (q := 15) rfl (by decide) ?_
    exact v_zret h rfl dX10_within_15 (pB0 (fun z => by first | exact z.1 (by assumption) | exact z.2 (by assumption)))
  · refine v_iload_n h (i := 0) dX10_within_5 (q := 6) rfl rfl 0 rfl ?_
    refine v_iload_n h (i := 2) dX10_within_6 (q := 7) rfl rfl 2 rfl ?_
    refine v_icmp_gt h (t := 14) dX10_within_7 (by decide) (q := 10) rfl (fun c7 => ?_) (fun c7 => ?_)
    · refine v_iconst h (v := 0) dX10_within_14 (q := 15) rfl (by decide) ?_
      exact v_zret h rfl dX10_within_15 (pB0 (fun z => by first | exact z.1 (by assumption) | exact z.2 (by assumption)))
    · refine v_iconst h (v := 1) dX10_within_10 (q := 11) rfl (by decide) ?_
      refine v_goto h (t := 15) dX10_within_11 (by decide) ?_
      exact v_zret h rfl dX10_within_15 (pB1 ⟨by assumption, by assumption⟩)

set_option maxHeartbeats 4000000 in
set_option maxRecDepth 100000 in
theorem c_X10_held {w : bw} {σ : bSt} {v l m : Int32}  : MV yX10_held cX10_held 3 (some .int) (rmm 1 14) w [.int v, .int l, .int m] σ (pI (imax l (imin m v)) σ) := by
  refine b_met (ls := [(0, .int v), (1, .int l), (2, .int m)]) (by decide) (Nat.le_of_ble_eq_true rfl) rfl (fun x h => ?_)
  refine v_iload_n h (i := 1) dX10_held_0 (q := 1) rfl rfl 1 rfl ?_
  refine v_iload_n h (i := 2) dX10_held_1 (q := 2) rfl rfl 2 rfl ?_
  refine v_iload_n h (i := 0) dX10_held_2 (q := 3) rfl rfl 0 rfl ?_
  refine v_min h m1020 m411 m13 m412 ⟨Nat.le_of_ble_eq_true rfl, Nat.le_of_ble_eq_true rfl⟩ dX10_held_3 (q := 6) rfl ?_
  refine v_max h m1001 m386 m13 m387 ⟨Nat.le_of_ble_eq_true rfl, Nat.le_of_ble_eq_true rfl⟩ dX10_held_6 (q := 9) rfl ?_
  exact v_iret h dX10_held_9 ⟨rfl, rfl⟩

set_option maxHeartbeats 4000000 in
set_option maxRecDepth 100000 in
theorem c_X10_is {w : bw} {σ : bSt} {k : Int32} {c : Nat} (hm : sModel w) (hc : c < 240) : MV yX10_is cX10_is 3 (some .boolean) (rmm 1 22) w [.ref (b_ad w 0), .int k, .int (nI c)] σ (pB (wi k 0 (σ 1 c - 1)) σ) := by
  refine b_met (ls := [(0, .ref (b_ad w 0)), (1, .int k), (2, .int (nI c))]) (by decide) (Nat.le_of_ble_eq_true rfl) rfl (fun x h => ?_)
  refine v_iload_n h (i := 1) dX10_is_0 (q := 1) rfl rfl 1 rfl ?_
  refine v_iconst h (v := 0) dX10_is_1 (q := 2) rfl (by decide) ?_
  refine v_aload_n h (i := 0) dX10_is_2 (q := 3) rfl rfl 0 rfl ?_
  refine v_get h (k := 0) (v := .ref (b_ad w 1)) cls10 hm.1.1 hm.1.2 (Nat.le_of_ble_eq_true rfl) m849 rfl dX10_is_3 (q := 6) rfl ?_
  refine v_iload_n h (i := 2) dX10_is_6 (q := 7) rfl rfl 2 rfl ?_
  refine v_iald h (k := c) hm.2.1.1 hm.2.1.2 (vp_in_nI hc (by decide)) (nI_clamp (by omega)) dX10_is_7 (q := 8) rfl ?_
  refine v_iconst h (v := 1) dX10_is_8 (q := 9) rfl (by decide) ?_
  refine v_isub h dX10_is_9 (q := 10) rfl ?_
  refine v_callS h (As := [.int k, .int 0, .int ((σ 1 c) - 1)]) (rest := []) (c_X10_within (v := k) (l := 0) (m := (σ 1 c) - 1)) cal_X10_within m925 m924 ⟨rfl, rfl, Nat.le_of_ble_eq_true rfl, Nat.le_of_ble_eq_true rfl⟩ rfl rfl (Nat.le_of_ble_eq_true rfl) dX10_is_10 (q := 13) rfl (kB (fun c10 => ?_) (fun c10 => ?_))
  · exact v_zret h rfl dX10_is_13 (pB1 (by first | assumption | exact ⟨by assumption, by assumption⟩ | simp_all))
  · exact v_zret h rfl dX10_is_13 (pB0 (by first | assumption | simp_all))

set_option maxHeartbeats 4000000 in
set_option maxRecDepth 100000 in
theorem lX10_copy_2 {w : bw} {σ : bSt} {a b : Nat} (ha : sI w a 240) (hb : sI w b 240) (hab : a ≠ b) {x : bX} (h : Cx x w cX10_copy RX10 3 none (rmm 0 0)) : ∀ n i : Nat, i + n = 240 → ∀ τ : bSt, (∀ j, j ≠ b → τ j = σ j) → (∀ k, k < i → τ b k = σ a k) → V x w 3 (pU (b_set σ b (σ a))) 2 [(2, .int (nI i)), (0, .ref (b_ad w a)), (1, .ref (b_ad w b))] [] τ := by
  refine b_ind (fun n ih => ?_)
  intro i hin τ ho hk
  refine v_iload_n h (i := 2) dX10_copy_2 (q := 3) rfl rfl 0 rfl ?_
  refine v_sipush h (v := 240) dX10_copy_3 (q := 6) rfl (by decide) ?_
  refine v_icmp_ge h (t := 21) dX10_copy_6 (by decide) (q := 9) rfl (fun c6 => ?_) (fun c6 => ?_)
  · have hi : 240 ≤ i := nge rfl (by omega) c6
    refine v_conv (bEq_i (σ2 := b_set σ b (σ a)) (fun j hj => by rw [b_set_n hj]; exact ho j hj) hb (fun k hk2 => by rw [b_set_s]; exact hk k (by omega))) ?_
    exact v_vret h dX10_copy_21 ⟨rfl, rfl⟩
  · have hi : i < 240 := nlt rfl (by omega) c6
    refine v_aload_n h (i := 1) dX10_copy_9 (q := 10) rfl rfl 2 rfl ?_
    refine v_iload_n h (i := 2) dX10_copy_10 (q := 11) rfl rfl 0 rfl ?_
    refine v_aload_n h (i := 0) dX10_copy_11 (q := 12) rfl rfl 1 rfl ?_
    refine v_iload_n h (i := 2) dX10_copy_12 (q := 13) rfl rfl 0 rfl ?_
    refine v_iald h (k := i) ha.1 ha.2 (vp_in_nI hi (by decide)) (nI_clamp (by omega)) dX10_copy_13 (q := 14) rfl ?_
    refine v_iast h (k := i) hb.1 hb.2 (vp_in_nI hi (by decide)) (nI_clamp (by omega)) dX10_copy_14 (q := 15) rfl ?_
    generalize eσ14 : b_up τ b i (τ a i) = σ14
    refine v_iinc h (p := 0) (u := nI (i + 1)) (ls1 := [(2, .int (nI (i + 1))), (0, .ref (b_ad w a)), (1, .ref (b_ad w b))]) dX10_copy_15 (q := 18) rfl rfl (nI_1 i) (Nat.le_of_ble_eq_true rfl) rfl ?_
    refine v_goto h (t := 2) dX10_copy_18 (by decide) ?_
    exact ih (n - 1) (by omega) (i + 1) (by omega) σ14 (fun j hj => by rw [← eσ14, b_up_n hj]; exact ho j hj) (fun k hk2 => by
      rw [← eσ14, b_up_s]
      by_cases e : k = i
      · rw [e, upd_s, ho a hab]
      · rw [upd_n e]; exact hk k (by omega))
set_option maxHeartbeats 4000000 in
set_option maxRecDepth 100000 in
theorem c_X10_copy {w : bw} {σ : bSt} {a b : Nat} (ha : sI w a 240) (hb : sI w b 240) (hab : a ≠ b) : MV yX10_copy cX10_copy 3 none (rmm 0 0) w [.ref (b_ad w a), .ref (b_ad w b)] σ (pU (b_set σ b (σ a))) := by
  refine b_met (ls := [(0, .ref (b_ad w a)), (1, .ref (b_ad w b))]) (by decide) (Nat.le_of_ble_eq_true rfl) rfl (fun x h => ?_)
  refine v_iconst h (v := 0) dX10_copy_0 (q := 1) rfl (by decide) ?_
  refine v_istore_n h (i := 2) (ls1 := [(2, .int 0), (0, .ref (b_ad w a)), (1, .ref (b_ad w b))]) dX10_copy_1 (q := 2) rfl rfl (Nat.le_of_ble_eq_true rfl) rfl ?_
  exact lX10_copy_2 ha hb hab h 240 0 rfl σ (fun _ _ => rfl) (fun k hk => absurd hk (Nat.not_lt_zero k))

set_option maxHeartbeats 4000000 in
set_option maxRecDepth 100000 in
theorem c_X10_putIn {w : bw} {σ : bSt} {p : Nat} {v : Int32} (hm : sModel w) (hp : p < 240) : MV yX10_putIn cX10_putIn 4 (some .int) (rmm 0 0) w [.ref (b_ad w 0), .int (nI p), .int v] σ (pI (σ 1 p) (b_up σ 1 p v)) := by
  refine b_met (ls := [(0, .ref (b_ad w 0)), (1, .int (nI p)), (2, .int v)]) (by decide) (Nat.le_of_ble_eq_true rfl) rfl (fun x h => ?_)
  refine v_aload_n h (i := 0) dX10_putIn_0 (q := 1) rfl rfl 0 rfl ?_
  refine v_get h (k := 0) (v := .ref (b_ad w 1)) cls10 hm.1.1 hm.1.2 (Nat.le_of_ble_eq_true rfl) m849 rfl dX10_putIn_1 (q := 4) rfl ?_
  refine v_iload_n h (i := 1) dX10_putIn_4 (q := 5) rfl rfl 1 rfl ?_
  refine v_iald h (k := p) hm.2.1.1 hm.2.1.2 (vp_in_nI hp (by decide)) (nI_clamp (by omega)) dX10_putIn_5 (q := 6) rfl ?_
  refine v_istore_n h (i := 3) (ls1 := [(3, .int (σ 1 p)), (0, .ref (b_ad w 0)), (1, .int (nI p)), (2, .int v)]) dX10_putIn_6 (q := 7) rfl rfl (Nat.le_of_ble_eq_true rfl) rfl ?_
  refine v_aload_n h (i := 0) dX10_putIn_7 (q := 8) rfl rfl 1 rfl ?_
  refine v_get h (k := 0) (v := .ref (b_ad w 1)) cls10 hm.1.1 hm.1.2 (Nat.le_of_ble_eq_true rfl) m849 rfl dX10_putIn_8 (q := 11) rfl ?_
  refine v_iload_n h (i := 1) dX10_putIn_11 (q := 12) rfl rfl 2 rfl ?_
  refine v_iload_n h (i := 2) dX10_putIn_12 (q := 13) rfl rfl 3 rfl ?_
  refine v_iast h (k := p) hm.2.1.1 hm.2.1.2 (vp_in_nI hp (by decide)) (nI_clamp (by omega)) dX10_putIn_13 (q := 14) rfl ?_
  refine v_iload_n h (i := 3) dX10_putIn_14 (q := 15) rfl rfl 0 rfl ?_
  exact v_iret h dX10_putIn_15 ⟨rfl, rfl⟩

set_option maxHeartbeats 4000000 in
set_option maxRecDepth 100000 in
theorem c_X10_putBack {w : bw} {σ : bSt} {v : Int32} (hm : sModel w) : MV yX10_putBack cX10_putBack 2 (some .int) (rmm 1 22) w [.ref (b_ad w 0), .int v] σ (pI v (b_set σ 1 (σ 3))) := by
  refine b_met (ls := [(0, .ref (b_ad w 0)), (1, .int v)]) (by decide) (Nat.le_of_ble_eq_true rfl) rfl (fun x h => ?_)
  refine v_aload_n h (i := 0) dX10_putBack_0 (q := 1) rfl rfl 0 rfl ?_
  refine v_get h (k := 2) (v := .ref (b_ad w 3)) cls10 hm.1.1 hm.1.2 (Nat.le_of_ble_eq_true rfl) m851 rfl dX10_putBack_1 (q := 4) rfl ?_
  refine v_aload_n h (i := 0) dX10_putBack_4 (q := 5) rfl rfl 0 rfl ?_
  refine v_get h (k := 0) (v := .ref (b_ad w 1)) cls10 hm.1.1 hm.1.2 (Nat.le_of_ble_eq_true rfl) m849 rfl dX10_putBack_5 (q := 8) rfl ?_
  refine v_callS h (As := [.ref (b_ad w 3), .ref (b_ad w 1)]) (rest := []) (c_X10_copy (σ := σ) (a := 3) (b := 1) hm.2.2.2.1 hm.2.1 (by decide)) cal_X10_copy m1203 m1202 ⟨rfl, rfl, Nat.le_of_ble_eq_true rfl, Nat.le_of_ble_eq_true rfl⟩ rfl rfl (Nat.le_of_ble_eq_true rfl) dX10_putBack_8 (q := 11) rfl (kU ?_)
  refine v_iload_n h (i := 1) dX10_putBack_11 (q := 12) rfl rfl 1 rfl ?_
  exact v_iret h dX10_putBack_12 ⟨rfl, rfl⟩

set_option maxHeartbeats 4000000 in
set_option maxRecDepth 100000 in
theorem c_X10_isCell {w : bw} {σ : bSt} {v : Int32}  : MV yX10_isCell cX10_isCell 1 (some .boolean) (rmm 1 22) w [.int v] σ (pB (wi v 0 63) σ) := by
  refine b_met (ls := [(0, .int v)]) (by decide) (Nat.le_of_ble_eq_true rfl) rfl (fun x h => ?_)
  refine v_iload_n h (i := 0) dX10_isCell_0 (q := 1) rfl rfl 0 rfl ?_
  refine v_iconst h (v := 0) dX10_isCell_1 (q := 2) rfl (by decide) ?_
  refine v_bipush h (v := 63) dX10_isCell_2 (q := 4) rfl (by decide) ?_
  refine v_callS h (As := [.int v, .int 0, .int 63]) (rest := []) (c_X10_within (v := v) (l := 0) (m := 63)) cal_X10_within m925 m924 ⟨rfl, rfl, Nat.le_of_ble_eq_true rfl, Nat.le_of_ble_eq_true rfl⟩ rfl rfl (Nat.le_of_ble_eq_true rfl) dX10_isCell_4 (q := 7) rfl (kB (fun c4 => ?_) (fun c4 => ?_))
  · exact v_zret h rfl dX10_isCell_7 (pB1 (by first | assumption | exact ⟨by assumption, by assumption⟩ | simp_all))
  · exact v_zret h rfl dX10_isCell_7 (pB0 (by first | assumption | simp_all))

set_option maxHeartbeats 4000000 in
set_option maxRecDepth 100000 in
theorem c_X10_isAhead {w : bw} {σ : bSt} {v : Int32}  : MV yX10_isAhead cX10_isAhead 1 (some .boolean) (rmm 1 22) w [.int v] σ (pB (wi v 0 128) σ) := by
  refine b_met (ls := [(0, .int v)]) (by decide) (Nat.le_of_ble_eq_true rfl) rfl (fun x h => ?_)
  refine v_iload_n h (i := 0) dX10_isAhead_0 (q := 1) rfl rfl 0 rfl ?_
  refine v_iconst h (v := 0) dX10_isAhead_1 (q := 2) rfl (by decide) ?_
  refine v_sipush h (v := 128) dX10_isAhead_2 (q := 5) rfl (by decide) ?_
  refine v_callS h (As := [.int v, .int 0, .int 128]) (rest := []) (c_X10_within (v := v) (l := 0) (m := 128)) cal_X10_within m925 m924 ⟨rfl, rfl, Nat.le_of_ble_eq_true rfl, Nat.le_of_ble_eq_true rfl⟩ rfl rfl (Nat.le_of_ble_eq_true rfl) dX10_isAhead_5 (q := 8) rfl (kB (fun c5 => ?_) (fun c5 => ?_))
  · exact v_zret h rfl dX10_isAhead_8 (pB1 (by first | assumption | exact ⟨by assumption, by assumption⟩ | simp_all))
  · exact v_zret h rfl dX10_isAhead_8 (pB0 (by first | assumption | simp_all))

set_option maxHeartbeats 4000000 in
set_option maxRecDepth 100000 in
theorem c_X10_isSheet {w : bw} {σ : bSt} {v : Int32}  : MV yX10_isSheet cX10_isSheet 1 (some .boolean) (rmm 1 22) w [.int v] σ (pB (wi v 0 3) σ) := by
  refine b_met (ls := [(0, .int v)]) (by decide) (Nat.le_of_ble_eq_true rfl) rfl (fun x h => ?_)
  refine v_iload_n h (i := 0) dX10_isSheet_0 (q := 1) rfl rfl 0 rfl ?_
  refine v_iconst h (v := 0) dX10_isSheet_1 (q := 2) rfl (by decide) ?_
  refine v_iconst h (v := 3) dX10_isSheet_2 (q := 3) rfl (by decide) ?_
  refine v_callS h (As := [.int v, .int 0, .int 3]) (rest := []) (c_X10_within (v := v) (l := 0) (m := 3)) cal_X10_within m925 m924 ⟨rfl, rfl, Nat.le_of_ble_eq_true rfl, Nat.le_of_ble_eq_true rfl⟩ rfl rfl (Nat.le_of_ble_eq_true rfl) dX10_isSheet_3 (q := 6) rfl (kB (fun c3 => ?_) (fun c3 => ?_))
  · exact v_zret h rfl dX10_isSheet_6 (pB1 (by first | assumption | exact ⟨by assumption, by assumption⟩ | simp_all))
  · exact v_zret h rfl dX10_isSheet_6 (pB0 (by first | assumption | simp_all))

set_option maxHeartbeats 4000000 in
set_option maxRecDepth 100000 in
theorem c_X10_areTold {w : bw} {σ : bSt} {v u : Int32}  : MV yX10_areTold cX10_areTold 2 (some .boolean) (rmm 1 22) w [.int v, .int u] σ (pB (wi v 0 262143 ∧ wi u 0 999999) σ) := by
  refine b_met (ls := [(0, .int v), (1, .int u)]) (by decide) (Nat.le_of_ble_eq_true rfl) rfl (fun x h => ?_)
  refine v_iload_n h (i := 0) dX10_areTold_0 (q := 1) rfl rfl 0 rfl ?_
  refine v_iconst h (v := 0) dX10_areTold_1 (q := 2) rfl (by decide) ?_
  refine v_ldc h (v := 262143) m1252 dX10_areTold_2 (q := 4) rfl ?_
  refine v_callS h (As := [.int v, .int 0, .int 262143]) (rest := []) (c_X10_within (v := v) (l := 0) (m := 262143)) cal_X10_within m925 m924 ⟨rfl, rfl, Nat.le_of_ble_eq_true rfl, Nat.le_of_ble_eq_true rfl⟩ rfl rfl (Nat.le_of_ble_eq_true rfl) dX10_areTold_4 (q := 7) rfl (kB (fun c4 => ?_) (fun c4 => ?_))
  · refine v_if_eq h (t := 24) dX10_areTold_7 (by decide) (q := 10) rfl (fun c => absurd c (by decide)) (fun _ => ?_)
    refine v_iload_n h (i := 1) dX10_areTold_10 (q := 11) rfl rfl 1 rfl ?_
    refine v_iconst h (v := 0) dX10_areTold_11 (q := 12) rfl (by decide) ?_
    refine v_ldc h (v := 999999) m1179 dX10_areTold_12 (q := 14) rfl ?_
    refine v_callS h (As := [.int u, .int 0, .int 999999]) (rest := []) (c_X10_within (v := u) (l := 0) (m := 999999)) cal_X10_within m925 m924 ⟨rfl, rfl, Nat.le_of_ble_eq_true rfl, Nat.le_of_ble_eq_true rfl⟩ rfl rfl (Nat.le_of_ble_eq_true rfl) dX10_areTold_14 (q := 17) rfl (kB (fun c14 => ?_) (fun c14 => ?_))
    · refine v_if_eq h (t := 24) dX10_areTold_17 (by decide) (q := 20) rfl (fun c => absurd c (by decide)) (fun _ => ?_)
      refine v_iconst h (v := 1) dX10_areTold_20 (q := 21) rfl (by decide) ?_
      refine v_goto h (t := 25) dX10_areTold_21 (by decide) ?_
      exact v_zret h rfl dX10_areTold_25 (pB1 ⟨c4, c14⟩)
    · refine v_if_eq h (t := 24) dX10_areTold_17 (by decide) (q := 20) rfl (fun _ => ?_) (fun c => absurd (by decide) c)
      refine v_iconst h (v := 0) dX10_areTold_24 (q := 25) rfl (by decide) ?_
      exact v_zret h rfl dX10_areTold_25 (pB0 (fun z => by first | exact c4 z.1 | exact c14 z.2))
  · refine v_if_eq h (t := 24) dX10_areTold_7 (by decide) (q := 10) rfl (fun _ => ?_) (fun c => absurd (by decide) c)
    refine v_iconst h (v := 0) dX10_areTold_24 (q := 25) rfl (by decide) ?_
    exact v_zret h rfl dX10_areTold_25 (pB0 (fun z => by first | exact c4 z.1 | exact c14 z.2))

set_option maxHeartbeats 4000000 in
set_option maxRecDepth 100000 in
theorem c_X10_above {w : bw} {σ : bSt} {k : Int32}  : MV yX10_above cX10_above 1 (some .int) (rmm 0 0) w [.int k] σ (pI (abM k) σ) := by
  refine b_met (ls := [(0, .int k)]) (by decide) (Nat.le_of_ble_eq_true rfl) rfl (fun x h => ?_)
  refine v_iload_n h (i := 0) dX10_above_0 (q := 1) rfl rfl 0 rfl ?_
  refine v_if_ne h (t := 8) dX10_above_1 (by decide) (q := 4) rfl (fun c1 => ?_) (fun c1 => ?_)
  · refine v_iload_n h (i := 0) dX10_above_8 (q := 9) rfl rfl 0 rfl ?_
    refine v_iconst h (v := 4) dX10_above_9 (q := 10) rfl (by decide) ?_
    refine v_icmp_ne h (t := 17) dX10_above_10 (by decide) (q := 13) rfl (fun c10 => ?_) (fun c10 => ?_)
    · refine v_iload_n h (i := 0) dX10_above_17 (q := 18) rfl rfl 0 rfl ?_
      refine v_iconst h (v := 5) dX10_above_18 (q := 19) rfl (by decide) ?_
      refine v_icmp_ne h (t := 26) dX10_above_19 (by decide) (q := 22) rfl (fun c19 => ?_) (fun c19 => ?_)
      · refine v_iload_n h (i := 0) dX10_above_26 (q := 27) rfl rfl 0 rfl ?_
        refine v_bipush h (v := 6) dX10_above_27 (q := 29) rfl (by decide) ?_
        refine v_icmp_ne h (t := 36) dX10_above_29 (by decide) (q := 32) rfl (fun c29 => ?_) (fun c29 => ?_)
        · refine v_iconst h (v := 0) dX10_above_36 (q := 37) rfl (by decide) ?_
          exact v_iret h dX10_above_37 ⟨by unfold abM; simp [*], rfl⟩
        · refine v_iconst h (v := 3) dX10_above_32 (q := 33) rfl (by decide) ?_
          refine v_goto h (t := 37) dX10_above_33 (by decide) ?_
          exact v_iret h dX10_above_37 ⟨by unfold abM; simp [*], rfl⟩
      · refine v_iconst h (v := 2) dX10_above_22 (q := 23) rfl (by decide) ?_
        refine v_goto h (t := 37) dX10_above_23 (by decide) ?_
        exact v_iret h dX10_above_37 ⟨by unfold abM; simp [*], rfl⟩
    · refine v_iconst h (v := 1) dX10_above_13 (q := 14) rfl (by decide) ?_
      refine v_goto h (t := 37) dX10_above_14 (by decide) ?_
      exact v_iret h dX10_above_37 ⟨by unfold abM; simp [*], rfl⟩
  · refine v_iconst h (v := -1) dX10_above_4 (q := 5) rfl (by decide) ?_
    refine v_goto h (t := 37) dX10_above_5 (by decide) ?_
    exact v_iret h dX10_above_37 ⟨by unfold abM; simp [*], rfl⟩

set_option maxHeartbeats 4000000 in
set_option maxRecDepth 100000 in
theorem c_X10_far {w : bw} {σ : bSt} {a b : Nat} (ha : a < 64) (hb : b < 64) : MV yX10_far cX10_far 2 (some .int) (rmm 1 14) w [.int (nI a), .int (nI b)] σ (pI (nI (farN a b)) σ) := by
  refine b_met (ls := [(0, .int (nI a)), (1, .int (nI b))]) (by decide) (Nat.le_of_ble_eq_true rfl) rfl (fun x h => ?_)
  refine v_iload_n h (i := 0) dX10_far_0 (q := 1) rfl rfl 0 rfl ?_
  refine v_bipush h (v := 8) dX10_far_1 (q := 3) rfl (by decide) ?_
  refine v_idiv h dX10_far_3 (q := 4) rfl (by decide) ?_
  refine v_iload_n h (i := 1) dX10_far_4 (q := 5) rfl rfl 1 rfl ?_
  refine v_bipush h (v := 8) dX10_far_5 (q := 7) rfl (by decide) ?_
  refine v_idiv h dX10_far_7 (q := 8) rfl (by decide) ?_
  refine v_isub h dX10_far_8 (q := 9) rfl ?_
  refine v_abs h m1000 m383 m13 m384 ⟨Nat.le_of_ble_eq_true rfl, Nat.le_of_ble_eq_true rfl⟩ dX10_far_9 (q := 12) rfl ?_
  refine v_iload_n h (i := 0) dX10_far_12 (q := 13) rfl rfl 0 rfl ?_
  refine v_bipush h (v := 8) dX10_far_13 (q := 15) rfl (by decide) ?_
  refine v_irem h dX10_far_15 (q := 16) rfl (by decide) ?_
  refine v_iload_n h (i := 1) dX10_far_16 (q := 17) rfl rfl 1 rfl ?_
  refine v_bipush h (v := 8) dX10_far_17 (q := 19) rfl (by decide) ?_
  refine v_irem h dX10_far_19 (q := 20) rfl (by decide) ?_
  refine v_isub h dX10_far_20 (q := 21) rfl ?_
  refine v_abs h m1000 m383 m13 m384 ⟨Nat.le_of_ble_eq_true rfl, Nat.le_of_ble_eq_true rfl⟩ dX10_far_21 (q := 24) rfl ?_
  refine v_max h m1001 m386 m13 m387 ⟨Nat.le_of_ble_eq_true rfl, Nat.le_of_ble_eq_true rfl⟩ dX10_far_24 (q := 27) rfl ?_
  exact v_iret h dX10_far_27 ⟨by rw [far_M a ha b hb], rfl⟩

set_option maxHeartbeats 4000000 in
set_option maxRecDepth 100000 in
theorem c_X10_next {w : bw} {σ : bSt} {c k : Int32}  : MV yX10_next cX10_next 4 (some .int) (rmm 1 22) w [.int c, .int k] σ (pI (nxM c k) σ) := by
  refine b_met (ls := [(0, .int c), (1, .int k)]) (by decide) (Nat.le_of_ble_eq_true rfl) rfl (fun x h => ?_)
  refine v_iload_n h (i := 0) dX10_next_0 (q := 1) rfl rfl 0 rfl ?_
  refine v_bipush h (v := 8) dX10_next_1 (q := 3) rfl (by decide) ?_
  refine v_idiv h dX10_next_3 (q := 4) rfl (by decide) ?_
  refine v_iload_n h (i := 1) dX10_next_4 (q := 5) rfl rfl 1 rfl ?_
  refine v_iconst h (v := 3) dX10_next_5 (q := 6) rfl (by decide) ?_
  refine v_icmp_ne h (t := 13) dX10_next_6 (by decide) (q := 9) rfl (fun c6 => ?_) (fun c6 => ?_)
  · refine v_iload_n h (i := 1) dX10_next_13 (q := 14) rfl rfl 1 rfl ?_
    refine v_iconst h (v := 1) dX10_next_14 (q := 15) rfl (by decide) ?_
    refine v_icmp_ne h (t := 22) dX10_next_15 (by decide) (q := 18) rfl (fun c15 => ?_) (fun c15 => ?_)
    · refine v_iconst h (v := 0) dX10_next_22 (q := 23) rfl (by decide) ?_
      refine v_iadd h dX10_next_23 (q := 24) rfl ?_
      generalize erv : (c / 8) + 0 = rv
      refine v_istore_n h (i := 2) (ls1 := [(2, .int rv), (0, .int c), (1, .int k)]) dX10_next_24 (q := 25) rfl rfl (Nat.le_of_ble_eq_true rfl) rfl ?_
      refine v_iload_n h (i := 0) dX10_next_25 (q := 26) rfl rfl 1 rfl ?_
      refine v_bipush h (v := 8) dX10_next_26 (q := 28) rfl (by decide) ?_
      refine v_irem h dX10_next_28 (q := 29) rfl (by decide) ?_
      refine v_iload_n h (i := 1) dX10_next_29 (q := 30) rfl rfl 2 rfl ?_
      refine v_iconst h (v := 2) dX10_next_30 (q := 31) rfl (by decide) ?_
      refine v_icmp_ne h (t := 38) dX10_next_31 (by decide) (q := 34) rfl (fun c31 => ?_) (fun c31 => ?_)
      · refine v_iload_n h (i := 1) dX10_next_38 (q := 39) rfl rfl 2 rfl ?_
        refine v_iconst h (v := 4) dX10_next_39 (q := 40) rfl (by decide) ?_
        refine v_icmp_ne h (t := 47) dX10_next_40 (by decide) (q := 43) rfl (fun c40 => ?_) (fun c40 => ?_)
        · refine v_iconst h (v := 0) dX10_next_47 (q := 48) rfl (by decide) ?_
          refine v_iadd h dX10_next_48 (q := 49) rfl ?_
          generalize ecv : (c - c / 8 * 8) + 0 = cv
          refine v_istore_n h (i := 3) (ls1 := [(3, .int cv), (2, .int rv), (0, .int c), (1, .int k)]) dX10_next_49 (q := 50) rfl rfl (Nat.le_of_ble_eq_true rfl) rfl ?_
          refine v_iload_n h (i := 2) dX10_next_50 (q := 51) rfl rfl 1 rfl ?_
          refine v_iconst h (v := 0) dX10_next_51 (q := 52) rfl (by decide) ?_
          refine v_bipush h (v := 7) dX10_next_52 (q := 54) rfl (by decide) ?_
          refine v_callS h (As := [.int rv, .int 0, .int 7]) (rest := []) (c_X10_within (v := rv) (l := 0) (m := 7)) cal_X10_within m925 m924 ⟨rfl, rfl, Nat.le_of_ble_eq_true rfl, Nat.le_of_ble_eq_true rfl⟩ rfl rfl (Nat.le_of_ble_eq_true rfl) dX10_next_54 (q := 57) rfl (kB (fun c54 => ?_) (fun c54 => ?_))
          · refine v_if_eq h (t := 79) dX10_next_57 (by decide) (q := 60) rfl (fun c => absurd c (by decide)) (fun _ => ?_)
            refine v_iload_n h (i := 3) dX10_next_60 (q := 61) rfl rfl 0 rfl ?_
            refine v_iconst h (v := 0) dX10_next_61 (q := 62) rfl (by decide) ?_
            refine v_bipush h (v := 7) dX10_next_62 (q := 64) rfl (by decide) ?_
            refine v_callS h (As := [.int cv, .int 0, .int 7]) (rest := []) (c_X10_within (v := cv) (l := 0) (m := 7)) cal_X10_within m925 m924 ⟨rfl, rfl, Nat.le_of_ble_eq_true rfl, Nat.le_of_ble_eq_true rfl⟩ rfl rfl (Nat.le_of_ble_eq_true rfl) dX10_next_64 (q := 67) rfl (kB (fun c64 => ?_) (fun c64 => ?_))
            · refine v_if_eq h (t := 79) dX10_next_67 (by decide) (q := 70) rfl (fun c => absurd c (by decide)) (fun _ => ?_)
              refine v_bipush h (v := 8) dX10_next_70 (q := 72) rfl (by decide) ?_
              refine v_iload_n h (i := 2) dX10_next_72 (q := 73) rfl rfl 1 rfl ?_
              refine v_imul h dX10_next_73 (q := 74) rfl ?_
              refine v_iload_n h (i := 3) dX10_next_74 (q := 75) rfl rfl 0 rfl ?_
              refine v_iadd h dX10_next_75 (q := 76) rfl ?_
              refine v_goto h (t := 80) dX10_next_76 (by decide) ?_
              exact v_iret h dX10_next_80 ⟨by have er : c / 8 + (if k = 3 then 1 else if k = 1 then -1 else 0) = rv := (by rw [← erv]; exact congrArg (fun z => c / 8 + z) (by first | (simp [*]; done) | exact absurd (c15.symm.trans c31_1) (by decide) | exact absurd (c15.symm.trans c40_1) (by decide) | exact absurd (c6.symm.trans c31_2) (by decide) | exact absurd (c6.symm.trans c40_2) (by decide))); have ec : irm c 8 + (if k = 2 then 1 else if k = 4 then -1 else 0) = cv := (by rw [← ecv]; exact congrArg (fun z => irm c 8 + z) (by first | (simp [*]; done) | exact absurd (c15.symm.trans c31_1) (by decide) | exact absurd (c15.symm.trans c40_1) (by decide) | exact absurd (c6.symm.trans c31_2) (by decide) | exact absurd (c6.symm.trans c40_2) (by decide))); unfold nxM; rw [er, ec]; first | rw [if_pos ⟨(by assumption : wi rv 0 7), (by assumption : wi cv 0 7)⟩] | rw [if_neg (fun z => absurd (show wi rv 0 7 from z.1) (by assumption))] | rw [if_neg (fun z => absurd (show wi cv 0 7 from z.2) (by assumption))], rfl⟩
            · refine v_if_eq h (t := 79) dX10_next_67 (by decide) (q := 70) rfl (fun _ => ?_) (fun c => absurd (by decide) c)
              refine v_iload_n h (i := 0) dX10_next_79 (q := 80) rfl rfl 2 rfl ?_
              exact v_iret h dX10_next_80 ⟨by have er : c / 8 + (if k = 3 then 1 else if k = 1 then -1 else 0) = rv := (by rw [← erv]; exact congrArg (fun z => c / 8 + z) (by first | (simp [*]; done) | exact absurd (c15.symm.trans c31_1) (by decide) | exact absurd (c15.symm.trans c40_1) (by decide) | exact absurd (c6.symm.trans c31_2) (by decide) | exact absurd (c6.symm.trans c40_2) (by decide))); have ec : irm c 8 + (if k = 2 then 1 else if k = 4 then -1 else 0) = cv := (by rw [← ecv]; exact congrArg (fun z => irm c 8 + z) (by first | (simp [*]; done) | exact absurd (c15.symm.trans c31_1) (by decide) | exact absurd (c15.symm.trans c40_1) (by decide) | exact absurd (c6.symm.trans c31_2) (by decide) | exact absurd (c6.symm.trans c40_2) (by decide))); unfold nxM; rw [er, ec]; first | rw [if_pos ⟨(by assumption : wi rv 0 7), (by assumption : wi cv 0 7)⟩] | rw [if_neg (fun z => absurd (show wi rv 0 7 from z.1) (by assumption))] | rw [if_neg (fun z => absurd (show wi cv 0 7 from z.2) (by assumption))], rfl⟩
          · refine v_if_eq h (t := 79) dX10_next_57 (by decide) (q := 60) rfl (fun _ => ?_) (fun c => absurd (by decide) c)
            refine v_iload_n h (i := 0) dX10_next_79 (q := 80) rfl rfl 2 rfl ?_
            exact v_iret h dX10_next_80 ⟨by have er : c / 8 + (if k = 3 then 1 else if k = 1 then -1 else 0) = rv := (by rw [← erv]; exact congrArg (fun z => c / 8 + z) (by first | (simp [*]; done) | exact absurd (c15.symm.trans c31_1) (by decide) | exact absurd (c15.symm.trans c40_1) (by decide) | exact absurd (c6.symm.trans c31_2) (by decide) | exact absurd (c6.symm.trans c40_2) (by decide))); have ec : irm c 8 + (if k = 2 then 1 else if k = 4 then -1 else 0) = cv := (by rw [← ecv]; exact congrArg (fun z => irm c 8 + z) (by first | (simp [*]; done) | exact absurd (c15.symm.trans c31_1) (by decide) | exact absurd (c15.symm.trans c40_1) (by decide) | exact absurd (c6.symm.trans c31_2) (by decide) | exact absurd (c6.symm.trans c40_2) (by decide))); unfold nxM; rw [er, ec]; first | rw [if_pos ⟨(by assumption : wi rv 0 7), (by assumption : wi cv 0 7)⟩] | rw [if_neg (fun z => absurd (show wi rv 0 7 from z.1) (by assumption))] | rw [if_neg (fun z => absurd (show wi cv 0 7 from z.2) (by assumption))], rfl⟩
        · refine v_iconst h (v := -1) dX10_next_43 (q := 44) rfl (by decide) ?_
          refine v_goto h (t := 48) dX10_next_44 (by decide) ?_
          refine v_iadd h dX10_next_48 (q := 49) rfl ?_
          generalize ecv_1 : (c - c / 8 * 8) + (-1) = cv_1
          refine v_istore_n h (i := 3) (ls1 := [(3, .int cv_1), (2, .int rv), (0, .int c), (1, .int k)]) dX10_next_49 (q := 50) rfl rfl (Nat.le_of_ble_eq_true rfl) rfl ?_
          refine v_iload_n h (i := 2) dX10_next_50 (q := 51) rfl rfl 1 rfl ?_
          refine v_iconst h (v := 0) dX10_next_51 (q := 52) rfl (by decide) ?_
          refine v_bipush h (v := 7) dX10_next_52 (q := 54) rfl (by decide) ?_
          refine v_callS h (As := [.int rv, .int 0, .int 7]) (rest := []) (c_X10_within (v := rv) (l := 0) (m := 7)) cal_X10_within m925 m924 ⟨rfl, rfl, Nat.le_of_ble_eq_true rfl, Nat.le_of_ble_eq_true rfl⟩ rfl rfl (Nat.le_of_ble_eq_true rfl) dX10_next_54 (q := 57) rfl (kB (fun c54_1 => ?_) (fun c54_1 => ?_))
          · refine v_if_eq h (t := 79) dX10_next_57 (by decide) (q := 60) rfl (fun c => absurd c (by decide)) (fun _ => ?_)
            refine v_iload_n h (i := 3) dX10_next_60 (q := 61) rfl rfl 0 rfl ?_
            refine v_iconst h (v := 0) dX10_next_61 (q := 62) rfl (by decide) ?_
            refine v_bipush h (v := 7) dX10_next_62 (q := 64) rfl (by decide) ?_
            refine v_callS h (As := [.int cv_1, .int 0, .int 7]) (rest := []) (c_X10_within (v := cv_1) (l := 0) (m := 7)) cal_X10_within m925 m924 ⟨rfl, rfl, Nat.le_of_ble_eq_true rfl, Nat.le_of_ble_eq_true rfl⟩ rfl rfl (Nat.le_of_ble_eq_true rfl) dX10_next_64 (q := 67) rfl (kB (fun c64_1 => ?_) (fun c64_1 => ?_))
            · refine v_if_eq h (t := 79) dX10_next_67 (by decide) (q := 70) rfl (fun c => absurd c (by decide)) (fun _ => ?_)
              refine v_bipush h (v := 8) dX10_next_70 (q := 72) rfl (by decide) ?_
              refine v_iload_n h (i := 2) dX10_next_72 (q := 73) rfl rfl 1 rfl ?_
              refine v_imul h dX10_next_73 (q := 74) rfl ?_
              refine v_iload_n h (i := 3) dX10_next_74 (q := 75) rfl rfl 0 rfl ?_
              refine v_iadd h dX10_next_75 (q := 76) rfl ?_
              refine v_goto h (t := 80) dX10_next_76 (by decide) ?_
              exact v_iret h dX10_next_80 ⟨by have er : c / 8 + (if k = 3 then 1 else if k = 1 then -1 else 0) = rv := (by rw [← erv]; exact congrArg (fun z => c / 8 + z) (by first | (simp [*]; done) | exact absurd (c15.symm.trans c31_1) (by decide) | exact absurd (c15.symm.trans c40_1) (by decide) | exact absurd (c6.symm.trans c31_2) (by decide) | exact absurd (c6.symm.trans c40_2) (by decide))); have ec : irm c 8 + (if k = 2 then 1 else if k = 4 then -1 else 0) = cv_1 := (by rw [← ecv_1]; exact congrArg (fun z => irm c 8 + z) (by first | (simp [*]; done) | exact absurd (c15.symm.trans c31_1) (by decide) | exact absurd (c15.symm.trans c40_1) (by decide) | exact absurd (c6.symm.trans c31_2) (by decide) | exact absurd (c6.symm.trans c40_2) (by decide))); unfold nxM; rw [er, ec]; first | rw [if_pos ⟨(by assumption : wi rv 0 7), (by assumption : wi cv_1 0 7)⟩] | rw [if_neg (fun z => absurd (show wi rv 0 7 from z.1) (by assumption))] | rw [if_neg (fun z => absurd (show wi cv_1 0 7 from z.2) (by assumption))], rfl⟩
            · refine v_if_eq h (t := 79) dX10_next_67 (by decide) (q := 70) rfl (fun _ => ?_) (fun c => absurd (by decide) c)
              refine v_iload_n h (i := 0) dX10_next_79 (q := 80) rfl rfl 2 rfl ?_
              exact v_iret h dX10_next_80 ⟨by have er : c / 8 + (if k = 3 then 1 else if k = 1 then -1 else 0) = rv := (by rw [← erv]; exact congrArg (fun z => c / 8 + z) (by first | (simp [*]; done) | exact absurd (c15.symm.trans c31_1) (by decide) | exact absurd (c15.symm.trans c40_1) (by decide) | exact absurd (c6.symm.trans c31_2) (by decide) | exact absurd (c6.symm.trans c40_2) (by decide))); have ec : irm c 8 + (if k = 2 then 1 else if k = 4 then -1 else 0) = cv_1 := (by rw [← ecv_1]; exact congrArg (fun z => irm c 8 + z) (by first | (simp [*]; done) | exact absurd (c15.symm.trans c31_1) (by decide) | exact absurd (c15.symm.trans c40_1) (by decide) | exact absurd (c6.symm.trans c31_2) (by decide) | exact absurd (c6.symm.trans c40_2) (by decide))); unfold nxM; rw [er, ec]; first | rw [if_pos ⟨(by assumption : wi rv 0 7), (by assumption : wi cv_1 0 7)⟩] | rw [if_neg (fun z => absurd (show wi rv 0 7 from z.1) (by assumption))] | rw [if_neg (fun z => absurd (show wi cv_1 0 7 from z.2) (by assumption))], rfl⟩
          · refine v_if_eq h (t := 79) dX10_next_57 (by decide) (q := 60) rfl (fun _ => ?_) (fun c => absurd (by decide) c)
            refine v_iload_n h (i := 0) dX10_next_79 (q := 80) rfl rfl 2 rfl ?_
            exact v_iret h dX10_next_80 ⟨by have er : c / 8 + (if k = 3 then 1 else if k = 1 then -1 else 0) = rv := (by rw [← erv]; exact congrArg (fun z => c / 8 + z) (by first | (simp [*]; done) | exact absurd (c15.symm.trans c31_1) (by decide) | exact absurd (c15.symm.trans c40_1) (by decide) | exact absurd (c6.symm.trans c31_2) (by decide) | exact absurd (c6.symm.trans c40_2) (by decide))); have ec : irm c 8 + (if k = 2 then 1 else if k = 4 then -1 else 0) = cv_1 := (by rw [← ecv_1]; exact congrArg (fun z => irm c 8 + z) (by first | (simp [*]; done) | exact absurd (c15.symm.trans c31_1) (by decide) | exact absurd (c15.symm.trans c40_1) (by decide) | exact absurd (c6.symm.trans c31_2) (by decide) | exact absurd (c6.symm.trans c40_2) (by decide))); unfold nxM; rw [er, ec]; first | rw [if_pos ⟨(by assumption : wi rv 0 7), (by assumption : wi cv_1 0 7)⟩] | rw [if_neg (fun z => absurd (show wi rv 0 7 from z.1) (by assumption))] | rw [if_neg (fun z => absurd (show wi cv_1 0 7 from z.2) (by assumption))], rfl⟩
      · refine v_iconst h (v := 1) dX10_next_34 (q := 35) rfl (by decide) ?_
        refine v_goto h (t := 48) dX10_next_35 (by decide) ?_
        refine v_iadd h dX10_next_48 (q := 49) rfl ?_
        generalize ecv_2 : (c - c / 8 * 8) + 1 = cv_2
        refine v_istore_n h (i := 3) (ls1 := [(3, .int cv_2), (2, .int rv), (0, .int c), (1, .int k)]) dX10_next_49 (q := 50) rfl rfl (Nat.le_of_ble_eq_true rfl) rfl ?_
        refine v_iload_n h (i := 2) dX10_next_50 (q := 51) rfl rfl 1 rfl ?_
        refine v_iconst h (v := 0) dX10_next_51 (q := 52) rfl (by decide) ?_
        refine v_bipush h (v := 7) dX10_next_52 (q := 54) rfl (by decide) ?_
        refine v_callS h (As := [.int rv, .int 0, .int 7]) (rest := []) (c_X10_within (v := rv) (l := 0) (m := 7)) cal_X10_within m925 m924 ⟨rfl, rfl, Nat.le_of_ble_eq_true rfl, Nat.le_of_ble_eq_true rfl⟩ rfl rfl (Nat.le_of_ble_eq_true rfl) dX10_next_54 (q := 57) rfl (kB (fun c54_2 => ?_) (fun c54_2 => ?_))
        · refine v_if_eq h (t := 79) dX10_next_57 (by decide) (q := 60) rfl (fun c => absurd c (by decide)) (fun _ => ?_)
          refine v_iload_n h (i := 3) dX10_next_60 (q := 61) rfl rfl 0 rfl ?_
          refine v_iconst h (v := 0) dX10_next_61 (q := 62) rfl (by decide) ?_
          refine v_bipush h (v := 7) dX10_next_62 (q := 64) rfl (by decide) ?_
          refine v_callS h (As := [.int cv_2, .int 0, .int 7]) (rest := []) (c_X10_within (v := cv_2) (l := 0) (m := 7)) cal_X10_within m925 m924 ⟨rfl, rfl, Nat.le_of_ble_eq_true rfl, Nat.le_of_ble_eq_true rfl⟩ rfl rfl (Nat.le_of_ble_eq_true rfl) dX10_next_64 (q := 67) rfl (kB (fun c64_2 => ?_) (fun c64_2 => ?_))
          · refine v_if_eq h (t := 79) dX10_next_67 (by decide) (q := 70) rfl (fun c => absurd c (by decide)) (fun _ => ?_)
            refine v_bipush h (v := 8) dX10_next_70 (q := 72) rfl (by decide) ?_
            refine v_iload_n h (i := 2) dX10_next_72 (q := 73) rfl rfl 1 rfl ?_
            refine v_imul h dX10_next_73 (q := 74) rfl ?_
            refine v_iload_n h (i := 3) dX10_next_74 (q := 75) rfl rfl 0 rfl ?_
            refine v_iadd h dX10_next_75 (q := 76) rfl ?_
            refine v_goto h (t := 80) dX10_next_76 (by decide) ?_
            exact v_iret h dX10_next_80 ⟨by have er : c / 8 + (if k = 3 then 1 else if k = 1 then -1 else 0) = rv := (by rw [← erv]; exact congrArg (fun z => c / 8 + z) (by first | (simp [*]; done) | exact absurd (c15.symm.trans c31_1) (by decide) | exact absurd (c15.symm.trans c40_1) (by decide) | exact absurd (c6.symm.trans c31_2) (by decide) | exact absurd (c6.symm.trans c40_2) (by decide))); have ec : irm c 8 + (if k = 2 then 1 else if k = 4 then -1 else 0) = cv_2 := (by rw [← ecv_2]; exact congrArg (fun z => irm c 8 + z) (by first | (simp [*]; done) | exact absurd (c15.symm.trans c31_1) (by decide) | exact absurd (c15.symm.trans c40_1) (by decide) | exact absurd (c6.symm.trans c31_2) (by decide) | exact absurd (c6.symm.trans c40_2) (by decide))); unfold nxM; rw [er, ec]; first | rw [if_pos ⟨(by assumption : wi rv 0 7), (by assumption : wi cv_2 0 7)⟩] | rw [if_neg (fun z => absurd (show wi rv 0 7 from z.1) (by assumption))] | rw [if_neg (fun z => absurd (show wi cv_2 0 7 from z.2) (by assumption))], rfl⟩
          · refine v_if_eq h (t := 79) dX10_next_67 (by decide) (q := 70) rfl (fun _ => ?_) (fun c => absurd (by decide) c)
            refine v_iload_n h (i := 0) dX10_next_79 (q := 80) rfl rfl 2 rfl ?_
            exact v_iret h dX10_next_80 ⟨by have er : c / 8 + (if k = 3 then 1 else if k = 1 then -1 else 0) = rv := (by rw [← erv]; exact congrArg (fun z => c / 8 + z) (by first | (simp [*]; done) | exact absurd (c15.symm.trans c31_1) (by decide) | exact absurd (c15.symm.trans c40_1) (by decide) | exact absurd (c6.symm.trans c31_2) (by decide) | exact absurd (c6.symm.trans c40_2) (by decide))); have ec : irm c 8 + (if k = 2 then 1 else if k = 4 then -1 else 0) = cv_2 := (by rw [← ecv_2]; exact congrArg (fun z => irm c 8 + z) (by first | (simp [*]; done) | exact absurd (c15.symm.trans c31_1) (by decide) | exact absurd (c15.symm.trans c40_1) (by decide) | exact absurd (c6.symm.trans c31_2) (by decide) | exact absurd (c6.symm.trans c40_2) (by decide))); unfold nxM; rw [er, ec]; first | rw [if_pos ⟨(by assumption : wi rv 0 7), (by assumption : wi cv_2 0 7)⟩] | rw [if_neg (fun z => absurd (show wi rv 0 7 from z.1) (by assumption))] | rw [if_neg (fun z => absurd (show wi cv_2 0 7 from z.2) (by assumption))], rfl⟩
        · refine v_if_eq h (t := 79) dX10_next_57 (by decide) (q := 60) rfl (fun _ => ?_) (fun c => absurd (by decide) c)
          refine v_iload_n h (i := 0) dX10_next_79 (q := 80) rfl rfl 2 rfl ?_
          exact v_iret h dX10_next_80 ⟨by have er : c / 8 + (if k = 3 then 1 else if k = 1 then -1 else 0) = rv := (by rw [← erv]; exact congrArg (fun z => c / 8 + z) (by first | (simp [*]; done) | exact absurd (c15.symm.trans c31_1) (by decide) | exact absurd (c15.symm.trans c40_1) (by decide) | exact absurd (c6.symm.trans c31_2) (by decide) | exact absurd (c6.symm.trans c40_2) (by decide))); have ec : irm c 8 + (if k = 2 then 1 else if k = 4 then -1 else 0) = cv_2 := (by rw [← ecv_2]; exact congrArg (fun z => irm c 8 + z) (by first | (simp [*]; done) | exact absurd (c15.symm.trans c31_1) (by decide) | exact absurd (c15.symm.trans c40_1) (by decide) | exact absurd (c6.symm.trans c31_2) (by decide) | exact absurd (c6.symm.trans c40_2) (by decide))); unfold nxM; rw [er, ec]; first | rw [if_pos ⟨(by assumption : wi rv 0 7), (by assumption : wi cv_2 0 7)⟩] | rw [if_neg (fun z => absurd (show wi rv 0 7 from z.1) (by assumption))] | rw [if_neg (fun z => absurd (show wi cv_2 0 7 from z.2) (by assumption))], rfl⟩
    · refine v_iconst h (v := -1) dX10_next_18 (q := 19) rfl (by decide) ?_
      refine v_goto h (t := 23) dX10_next_19 (by decide) ?_
      refine v_iadd h dX10_next_23 (q := 24) rfl ?_
      generalize erv_1 : (c / 8) + (-1) = rv_1
      refine v_istore_n h (i := 2) (ls1 := [(2, .int rv_1), (0, .int c), (1, .int k)]) dX10_next_24 (q := 25) rfl rfl (Nat.le_of_ble_eq_true rfl) rfl ?_
      refine v_iload_n h (i := 0) dX10_next_25 (q := 26) rfl rfl 1 rfl ?_
      refine v_bipush h (v := 8) dX10_next_26 (q := 28) rfl (by decide) ?_
      refine v_irem h dX10_next_28 (q := 29) rfl (by decide) ?_
      refine v_iload_n h (i := 1) dX10_next_29 (q := 30) rfl rfl 2 rfl ?_
      refine v_iconst h (v := 2) dX10_next_30 (q := 31) rfl (by decide) ?_
      refine v_icmp_ne h (t := 38) dX10_next_31 (by decide) (q := 34) rfl (fun c31_1 => ?_) (fun c31_1 => ?_)
      · refine v_iload_n h (i := 1) dX10_next_38 (q := 39) rfl rfl 2 rfl ?_
        refine v_iconst h (v := 4) dX10_next_39 (q := 40) rfl (by decide) ?_
        refine v_icmp_ne h (t := 47) dX10_next_40 (by decide) (q := 43) rfl (fun c40_1 => ?_) (fun c40_1 => ?_)
        · refine v_iconst h (v := 0) dX10_next_47 (q := 48) rfl (by decide) ?_
          refine v_iadd h dX10_next_48 (q := 49) rfl ?_
          generalize ecv_3 : (c - c / 8 * 8) + 0 = cv_3
          refine v_istore_n h (i := 3) (ls1 := [(3, .int cv_3), (2, .int rv_1), (0, .int c), (1, .int k)]) dX10_next_49 (q := 50) rfl rfl (Nat.le_of_ble_eq_true rfl) rfl ?_
          refine v_iload_n h (i := 2) dX10_next_50 (q := 51) rfl rfl 1 rfl ?_
          refine v_iconst h (v := 0) dX10_next_51 (q := 52) rfl (by decide) ?_
          refine v_bipush h (v := 7) dX10_next_52 (q := 54) rfl (by decide) ?_
          refine v_callS h (As := [.int rv_1, .int 0, .int 7]) (rest := []) (c_X10_within (v := rv_1) (l := 0) (m := 7)) cal_X10_within m925 m924 ⟨rfl, rfl, Nat.le_of_ble_eq_true rfl, Nat.le_of_ble_eq_true rfl⟩ rfl rfl (Nat.le_of_ble_eq_true rfl) dX10_next_54 (q := 57) rfl (kB (fun c54_3 => ?_) (fun c54_3 => ?_))
          · refine v_if_eq h (t := 79) dX10_next_57 (by decide) (q := 60) rfl (fun c => absurd c (by decide)) (fun _ => ?_)
            refine v_iload_n h (i := 3) dX10_next_60 (q := 61) rfl rfl 0 rfl ?_
            refine v_iconst h (v := 0) dX10_next_61 (q := 62) rfl (by decide) ?_
            refine v_bipush h (v := 7) dX10_next_62 (q := 64) rfl (by decide) ?_
            refine v_callS h (As := [.int cv_3, .int 0, .int 7]) (rest := []) (c_X10_within (v := cv_3) (l := 0) (m := 7)) cal_X10_within m925 m924 ⟨rfl, rfl, Nat.le_of_ble_eq_true rfl, Nat.le_of_ble_eq_true rfl⟩ rfl rfl (Nat.le_of_ble_eq_true rfl) dX10_next_64 (q := 67) rfl (kB (fun c64_3 => ?_) (fun c64_3 => ?_))
            · refine v_if_eq h (t := 79) dX10_next_67 (by decide) (q := 70) rfl (fun c => absurd c (by decide)) (fun _ => ?_)
              refine v_bipush h (v := 8) dX10_next_70 (q := 72) rfl (by decide) ?_
              refine v_iload_n h (i := 2) dX10_next_72 (q := 73) rfl rfl 1 rfl ?_
              refine v_imul h dX10_next_73 (q := 74) rfl ?_
              refine v_iload_n h (i := 3) dX10_next_74 (q := 75) rfl rfl 0 rfl ?_
              refine v_iadd h dX10_next_75 (q := 76) rfl ?_
              refine v_goto h (t := 80) dX10_next_76 (by decide) ?_
              exact v_iret h dX10_next_80 ⟨by have er : c / 8 + (if k = 3 then 1 else if k = 1 then -1 else 0) = rv_1 := (by rw [← erv_1]; exact congrArg (fun z => c / 8 + z) (by first | (simp [*]; done) | exact absurd (c15.symm.trans c31_1) (by decide) | exact absurd (c15.symm.trans c40_1) (by decide) | exact absurd (c6.symm.trans c31_2) (by decide) | exact absurd (c6.symm.trans c40_2) (by decide))); have ec : irm c 8 + (if k = 2 then 1 else if k = 4 then -1 else 0) = cv_3 := (by rw [← ecv_3]; exact congrArg (fun z => irm c 8 + z) (by first | (simp [*]; done) | exact absurd (c15.symm.trans c31_1) (by decide) | exact absurd (c15.symm.trans c40_1) (by decide) | exact absurd (c6.symm.trans c31_2) (by decide) | exact absurd (c6.symm.trans c40_2) (by decide))); unfold nxM; rw [er, ec]; first | rw [if_pos ⟨(by assumption : wi rv_1 0 7), (by assumption : wi cv_3 0 7)⟩] | rw [if_neg (fun z => absurd (show wi rv_1 0 7 from z.1) (by assumption))] | rw [if_neg (fun z => absurd (show wi cv_3 0 7 from z.2) (by assumption))], rfl⟩
            · refine v_if_eq h (t := 79) dX10_next_67 (by decide) (q := 70) rfl (fun _ => ?_) (fun c => absurd (by decide) c)
              refine v_iload_n h (i := 0) dX10_next_79 (q := 80) rfl rfl 2 rfl ?_
              exact v_iret h dX10_next_80 ⟨by have er : c / 8 + (if k = 3 then 1 else if k = 1 then -1 else 0) = rv_1 := (by rw [← erv_1]; exact congrArg (fun z => c / 8 + z) (by first | (simp [*]; done) | exact absurd (c15.symm.trans c31_1) (by decide) | exact absurd (c15.symm.trans c40_1) (by decide) | exact absurd (c6.symm.trans c31_2) (by decide) | exact absurd (c6.symm.trans c40_2) (by decide))); have ec : irm c 8 + (if k = 2 then 1 else if k = 4 then -1 else 0) = cv_3 := (by rw [← ecv_3]; exact congrArg (fun z => irm c 8 + z) (by first | (simp [*]; done) | exact absurd (c15.symm.trans c31_1) (by decide) | exact absurd (c15.symm.trans c40_1) (by decide) | exact absurd (c6.symm.trans c31_2) (by decide) | exact absurd (c6.symm.trans c40_2) (by decide))); unfold nxM; rw [er, ec]; first | rw [if_pos ⟨(by assumption : wi rv_1 0 7), (by assumption : wi cv_3 0 7)⟩] | rw [if_neg (fun z => absurd (show wi rv_1 0 7 from z.1) (by assumption))] | rw [if_neg (fun z => absurd (show wi cv_3 0 7 from z.2) (by assumption))], rfl⟩
          · refine v_if_eq h (t := 79) dX10_next_57 (by decide) (q := 60) rfl (fun _ => ?_) (fun c => absurd (by decide) c)
            refine v_iload_n h (i := 0) dX10_next_79 (q := 80) rfl rfl 2 rfl ?_
            exact v_iret h dX10_next_80 ⟨by have er : c / 8 + (if k = 3 then 1 else if k = 1 then -1 else 0) = rv_1 := (by rw [← erv_1]; exact congrArg (fun z => c / 8 + z) (by first | (simp [*]; done) | exact absurd (c15.symm.trans c31_1) (by decide) | exact absurd (c15.symm.trans c40_1) (by decide) | exact absurd (c6.symm.trans c31_2) (by decide) | exact absurd (c6.symm.trans c40_2) (by decide))); have ec : irm c 8 + (if k = 2 then 1 else if k = 4 then -1 else 0) = cv_3 := (by rw [← ecv_3]; exact congrArg (fun z => irm c 8 + z) (by first | (simp [*]; done) | exact absurd (c15.symm.trans c31_1) (by decide) | exact absurd (c15.symm.trans c40_1) (by decide) | exact absurd (c6.symm.trans c31_2) (by decide) | exact absurd (c6.symm.trans c40_2) (by decide))); unfold nxM; rw [er, ec]; first | rw [if_pos ⟨(by assumption : wi rv_1 0 7), (by assumption : wi cv_3 0 7)⟩] | rw [if_neg (fun z => absurd (show wi rv_1 0 7 from z.1) (by assumption))] | rw [if_neg (fun z => absurd (show wi cv_3 0 7 from z.2) (by assumption))], rfl⟩
        · refine v_iconst h (v := -1) dX10_next_43 (q := 44) rfl (by decide) ?_
          refine v_goto h (t := 48) dX10_next_44 (by decide) ?_
          refine v_iadd h dX10_next_48 (q := 49) rfl ?_
          generalize ecv_4 : (c - c / 8 * 8) + (-1) = cv_4
          refine v_istore_n h (i := 3) (ls1 := [(3, .int cv_4), (2, .int rv_1), (0, .int c), (1, .int k)]) dX10_next_49 (q := 50) rfl rfl (Nat.le_of_ble_eq_true rfl) rfl ?_
          refine v_iload_n h (i := 2) dX10_next_50 (q := 51) rfl rfl 1 rfl ?_
          refine v_iconst h (v := 0) dX10_next_51 (q := 52) rfl (by decide) ?_
          refine v_bipush h (v := 7) dX10_next_52 (q := 54) rfl (by decide) ?_
          refine v_callS h (As := [.int rv_1, .int 0, .int 7]) (rest := []) (c_X10_within (v := rv_1) (l := 0) (m := 7)) cal_X10_within m925 m924 ⟨rfl, rfl, Nat.le_of_ble_eq_true rfl, Nat.le_of_ble_eq_true rfl⟩ rfl rfl (Nat.le_of_ble_eq_true rfl) dX10_next_54 (q := 57) rfl (kB (fun c54_4 => ?_) (fun c54_4 => ?_))
          · refine v_if_eq h (t := 79) dX10_next_57 (by decide) (q := 60) rfl (fun c => absurd c (by decide)) (fun _ => ?_)
            refine v_iload_n h (i := 3) dX10_next_60 (q := 61) rfl rfl 0 rfl ?_
            refine v_iconst h (v := 0) dX10_next_61 (q := 62) rfl (by decide) ?_
            refine v_bipush h (v := 7) dX10_next_62 (q := 64) rfl (by decide) ?_
            refine v_callS h (As := [.int cv_4, .int 0, .int 7]) (rest := []) (c_X10_within (v := cv_4) (l := 0) (m := 7)) cal_X10_within m925 m924 ⟨rfl, rfl, Nat.le_of_ble_eq_true rfl, Nat.le_of_ble_eq_true rfl⟩ rfl rfl (Nat.le_of_ble_eq_true rfl) dX10_next_64 (q := 67) rfl (kB (fun c64_4 => ?_) (fun c64_4 => ?_))
            · refine v_if_eq h (t := 79) dX10_next_67 (by decide) (q := 70) rfl (fun c => absurd c (by decide)) (fun _ => ?_)
              refine v_bipush h (v := 8) dX10_next_70 (q := 72) rfl (by decide) ?_
              refine v_iload_n h (i := 2) dX10_next_72 (q := 73) rfl rfl 1 rfl ?_
              refine v_imul h dX10_next_73 (q := 74) rfl ?_
              refine v_iload_n h (i := 3) dX10_next_74 (q := 75) rfl rfl 0 rfl ?_
              refine v_iadd h dX10_next_75 (q := 76) rfl ?_
              refine v_goto h (t := 80) dX10_next_76 (by decide) ?_
              exact v_iret h dX10_next_80 ⟨by have er : c / 8 + (if k = 3 then 1 else if k = 1 then -1 else 0) = rv_1 := (by rw [← erv_1]; exact congrArg (fun z => c / 8 + z) (by first | (simp [*]; done) | exact absurd (c15.symm.trans c31_1) (by decide) | exact absurd (c15.symm.trans c40_1) (by decide) | exact absurd (c6.symm.trans c31_2) (by decide) | exact absurd (c6.symm.trans c40_2) (by decide))); have ec : irm c 8 + (if k = 2 then 1 else if k = 4 then -1 else 0) = cv_4 := (by rw [← ecv_4]; exact congrArg (fun z => irm c 8 + z) (by first | (simp [*]; done) | exact absurd (c15.symm.trans c31_1) (by decide) | exact absurd (c15.symm.trans c40_1) (by decide) | exact absurd (c6.symm.trans c31_2) (by decide) | exact absurd (c6.symm.trans c40_2) (by decide))); unfold nxM; rw [er, ec]; first | rw [if_pos ⟨(by assumption : wi rv_1 0 7), (by assumption : wi cv_4 0 7)⟩] | rw [if_neg (fun z => absurd (show wi rv_1 0 7 from z.1) (by assumption))] | rw [if_neg (fun z => absurd (show wi cv_4 0 7 from z.2) (by assumption))], rfl⟩
            · refine v_if_eq h (t := 79) dX10_next_67 (by decide) (q := 70) rfl (fun _ => ?_) (fun c => absurd (by decide) c)
              refine v_iload_n h (i := 0) dX10_next_79 (q := 80) rfl rfl 2 rfl ?_
              exact v_iret h dX10_next_80 ⟨by have er : c / 8 + (if k = 3 then 1 else if k = 1 then -1 else 0) = rv_1 := (by rw [← erv_1]; exact congrArg (fun z => c / 8 + z) (by first | (simp [*]; done) | exact absurd (c15.symm.trans c31_1) (by decide) | exact absurd (c15.symm.trans c40_1) (by decide) | exact absurd (c6.symm.trans c31_2) (by decide) | exact absurd (c6.symm.trans c40_2) (by decide))); have ec : irm c 8 + (if k = 2 then 1 else if k = 4 then -1 else 0) = cv_4 := (by rw [← ecv_4]; exact congrArg (fun z => irm c 8 + z) (by first | (simp [*]; done) | exact absurd (c15.symm.trans c31_1) (by decide) | exact absurd (c15.symm.trans c40_1) (by decide) | exact absurd (c6.symm.trans c31_2) (by decide) | exact absurd (c6.symm.trans c40_2) (by decide))); unfold nxM; rw [er, ec]; first | rw [if_pos ⟨(by assumption : wi rv_1 0 7), (by assumption : wi cv_4 0 7)⟩] | rw [if_neg (fun z => absurd (show wi rv_1 0 7 from z.1) (by assumption))] | rw [if_neg (fun z => absurd (show wi cv_4 0 7 from z.2) (by assumption))], rfl⟩
          · refine v_if_eq h (t := 79) dX10_next_57 (by decide) (q := 60) rfl (fun _ => ?_) (fun c => absurd (by decide) c)
            refine v_iload_n h (i := 0) dX10_next_79 (q := 80) rfl rfl 2 rfl ?_
            exact v_iret h dX10_next_80 ⟨by have er : c / 8 + (if k = 3 then 1 else if k = 1 then -1 else 0) = rv_1 := (by rw [← erv_1]; exact congrArg (fun z => c / 8 + z) (by first | (simp [*]; done) | exact absurd (c15.symm.trans c31_1) (by decide) | exact absurd (c15.symm.trans c40_1) (by decide) | exact absurd (c6.symm.trans c31_2) (by decide) | exact absurd (c6.symm.trans c40_2) (by decide))); have ec : irm c 8 + (if k = 2 then 1 else if k = 4 then -1 else 0) = cv_4 := (by rw [← ecv_4]; exact congrArg (fun z => irm c 8 + z) (by first | (simp [*]; done) | exact absurd (c15.symm.trans c31_1) (by decide) | exact absurd (c15.symm.trans c40_1) (by decide) | exact absurd (c6.symm.trans c31_2) (by decide) | exact absurd (c6.symm.trans c40_2) (by decide))); unfold nxM; rw [er, ec]; first | rw [if_pos ⟨(by assumption : wi rv_1 0 7), (by assumption : wi cv_4 0 7)⟩] | rw [if_neg (fun z => absurd (show wi rv_1 0 7 from z.1) (by assumption))] | rw [if_neg (fun z => absurd (show wi cv_4 0 7 from z.2) (by assumption))], rfl⟩
      · refine v_iconst h (v := 1) dX10_next_34 (q := 35) rfl (by decide) ?_
        refine v_goto h (t := 48) dX10_next_35 (by decide) ?_
        refine v_iadd h dX10_next_48 (q := 49) rfl ?_
        generalize ecv_5 : (c - c / 8 * 8) + 1 = cv_5
        refine v_istore_n h (i := 3) (ls1 := [(3, .int cv_5), (2, .int rv_1), (0, .int c), (1, .int k)]) dX10_next_49 (q := 50) rfl rfl (Nat.le_of_ble_eq_true rfl) rfl ?_
        refine v_iload_n h (i := 2) dX10_next_50 (q := 51) rfl rfl 1 rfl ?_
        refine v_iconst h (v := 0) dX10_next_51 (q := 52) rfl (by decide) ?_
        refine v_bipush h (v := 7) dX10_next_52 (q := 54) rfl (by decide) ?_
        refine v_callS h (As := [.int rv_1, .int 0, .int 7]) (rest := []) (c_X10_within (v := rv_1) (l := 0) (m := 7)) cal_X10_within m925 m924 ⟨rfl, rfl, Nat.le_of_ble_eq_true rfl, Nat.le_of_ble_eq_true rfl⟩ rfl rfl (Nat.le_of_ble_eq_true rfl) dX10_next_54 (q := 57) rfl (kB (fun c54_5 => ?_) (fun c54_5 => ?_))
        · refine v_if_eq h (t := 79) dX10_next_57 (by decide) (q := 60) rfl (fun c => absurd c (by decide)) (fun _ => ?_)
          refine v_iload_n h (i := 3) dX10_next_60 (q := 61) rfl rfl 0 rfl ?_
          refine v_iconst h (v := 0) dX10_next_61 (q := 62) rfl (by decide) ?_
          refine v_bipush h (v := 7) dX10_next_62 (q := 64) rfl (by decide) ?_
          refine v_callS h (As := [.int cv_5, .int 0, .int 7]) (rest := []) (c_X10_within (v := cv_5) (l := 0) (m := 7)) cal_X10_within m925 m924 ⟨rfl, rfl, Nat.le_of_ble_eq_true rfl, Nat.le_of_ble_eq_true rfl⟩ rfl rfl (Nat.le_of_ble_eq_true rfl) dX10_next_64 (q := 67) rfl (kB (fun c64_5 => ?_) (fun c64_5 => ?_))
          · refine v_if_eq h (t := 79) dX10_next_67 (by decide) (q := 70) rfl (fun c => absurd c (by decide)) (fun _ => ?_)
            refine v_bipush h (v := 8) dX10_next_70 (q := 72) rfl (by decide) ?_
            refine v_iload_n h (i := 2) dX10_next_72 (q := 73) rfl rfl 1 rfl ?_
            refine v_imul h dX10_next_73 (q := 74) rfl ?_
            refine v_iload_n h (i := 3) dX10_next_74 (q := 75) rfl rfl 0 rfl ?_
            refine v_iadd h dX10_next_75 (q := 76) rfl ?_
            refine v_goto h (t := 80) dX10_next_76 (by decide) ?_
            exact v_iret h dX10_next_80 ⟨by have er : c / 8 + (if k = 3 then 1 else if k = 1 then -1 else 0) = rv_1 := (by rw [← erv_1]; exact congrArg (fun z => c / 8 + z) (by first | (simp [*]; done) | exact absurd (c15.symm.trans c31_1) (by decide) | exact absurd (c15.symm.trans c40_1) (by decide) | exact absurd (c6.symm.trans c31_2) (by decide) | exact absurd (c6.symm.trans c40_2) (by decide))); have ec : irm c 8 + (if k = 2 then 1 else if k = 4 then -1 else 0) = cv_5 := (by rw [← ecv_5]; exact congrArg (fun z => irm c 8 + z) (by first | (simp [*]; done) | exact absurd (c15.symm.trans c31_1) (by decide) | exact absurd (c15.symm.trans c40_1) (by decide) | exact absurd (c6.symm.trans c31_2) (by decide) | exact absurd (c6.symm.trans c40_2) (by decide))); unfold nxM; rw [er, ec]; first | rw [if_pos ⟨(by assumption : wi rv_1 0 7), (by assumption : wi cv_5 0 7)⟩] | rw [if_neg (fun z => absurd (show wi rv_1 0 7 from z.1) (by assumption))] | rw [if_neg (fun z => absurd (show wi cv_5 0 7 from z.2) (by assumption))], rfl⟩
          · refine v_if_eq h (t := 79) dX10_next_67 (by decide) (q := 70) rfl (fun _ => ?_) (fun c => absurd (by decide) c)
            refine v_iload_n h (i := 0) dX10_next_79 (q := 80) rfl rfl 2 rfl ?_
            exact v_iret h dX10_next_80 ⟨by have er : c / 8 + (if k = 3 then 1 else if k = 1 then -1 else 0) = rv_1 := (by rw [← erv_1]; exact congrArg (fun z => c / 8 + z) (by first | (simp [*]; done) | exact absurd (c15.symm.trans c31_1) (by decide) | exact absurd (c15.symm.trans c40_1) (by decide) | exact absurd (c6.symm.trans c31_2) (by decide) | exact absurd (c6.symm.trans c40_2) (by decide))); have ec : irm c 8 + (if k = 2 then 1 else if k = 4 then -1 else 0) = cv_5 := (by rw [← ecv_5]; exact congrArg (fun z => irm c 8 + z) (by first | (simp [*]; done) | exact absurd (c15.symm.trans c31_1) (by decide) | exact absurd (c15.symm.trans c40_1) (by decide) | exact absurd (c6.symm.trans c31_2) (by decide) | exact absurd (c6.symm.trans c40_2) (by decide))); unfold nxM; rw [er, ec]; first | rw [if_pos ⟨(by assumption : wi rv_1 0 7), (by assumption : wi cv_5 0 7)⟩] | rw [if_neg (fun z => absurd (show wi rv_1 0 7 from z.1) (by assumption))] | rw [if_neg (fun z => absurd (show wi cv_5 0 7 from z.2) (by assumption))], rfl⟩
        · refine v_if_eq h (t := 79) dX10_next_57 (by decide) (q := 60) rfl (fun _ => ?_) (fun c => absurd (by decide) c)
          refine v_iload_n h (i := 0) dX10_next_79 (q := 80) rfl rfl 2 rfl ?_
          exact v_iret h dX10_next_80 ⟨by have er : c / 8 + (if k = 3 then 1 else if k = 1 then -1 else 0) = rv_1 := (by rw [← erv_1]; exact congrArg (fun z => c / 8 + z) (by first | (simp [*]; done) | exact absurd (c15.symm.trans c31_1) (by decide) | exact absurd (c15.symm.trans c40_1) (by decide) | exact absurd (c6.symm.trans c31_2) (by decide) | exact absurd (c6.symm.trans c40_2) (by decide))); have ec : irm c 8 + (if k = 2 then 1 else if k = 4 then -1 else 0) = cv_5 := (by rw [← ecv_5]; exact congrArg (fun z => irm c 8 + z) (by first | (simp [*]; done) | exact absurd (c15.symm.trans c31_1) (by decide) | exact absurd (c15.symm.trans c40_1) (by decide) | exact absurd (c6.symm.trans c31_2) (by decide) | exact absurd (c6.symm.trans c40_2) (by decide))); unfold nxM; rw [er, ec]; first | rw [if_pos ⟨(by assumption : wi rv_1 0 7), (by assumption : wi cv_5 0 7)⟩] | rw [if_neg (fun z => absurd (show wi rv_1 0 7 from z.1) (by assumption))] | rw [if_neg (fun z => absurd (show wi cv_5 0 7 from z.2) (by assumption))], rfl⟩
  · refine v_iconst h (v := 1) dX10_next_9 (q := 10) rfl (by decide) ?_
    refine v_goto h (t := 23) dX10_next_10 (by decide) ?_
    refine v_iadd h dX10_next_23 (q := 24) rfl ?_
    generalize erv_2 : (c / 8) + 1 = rv_2
    refine v_istore_n h (i := 2) (ls1 := [(2, .int rv_2), (0, .int c), (1, .int k)]) dX10_next_24 (q := 25) rfl rfl (Nat.le_of_ble_eq_true rfl) rfl ?_
    refine v_iload_n h (i := 0) dX10_next_25 (q := 26) rfl rfl 1 rfl ?_
    refine v_bipush h (v := 8) dX10_next_26 (q := 28) rfl (by decide) ?_
    refine v_irem h dX10_next_28 (q := 29) rfl (by decide) ?_
    refine v_iload_n h (i := 1) dX10_next_29 (q := 30) rfl rfl 2 rfl ?_
    refine v_iconst h (v := 2) dX10_next_30 (q := 31) rfl (by decide) ?_
    refine v_icmp_ne h (t := 38) dX10_next_31 (by decide) (q := 34) rfl (fun c31_2 => ?_) (fun c31_2 => ?_)
    · refine v_iload_n h (i := 1) dX10_next_38 (q := 39) rfl rfl 2 rfl ?_
      refine v_iconst h (v := 4) dX10_next_39 (q := 40) rfl (by decide) ?_
      refine v_icmp_ne h (t := 47) dX10_next_40 (by decide) (q := 43) rfl (fun c40_2 => ?_) (fun c40_2 => ?_)
      · refine v_iconst h (v := 0) dX10_next_47 (q := 48) rfl (by decide) ?_
        refine v_iadd h dX10_next_48 (q := 49) rfl ?_
        generalize ecv_6 : (c - c / 8 * 8) + 0 = cv_6
        refine v_istore_n h (i := 3) (ls1 := [(3, .int cv_6), (2, .int rv_2), (0, .int c), (1, .int k)]) dX10_next_49 (q := 50) rfl rfl (Nat.le_of_ble_eq_true rfl) rfl ?_
        refine v_iload_n h (i := 2) dX10_next_50 (q := 51) rfl rfl 1 rfl ?_
        refine v_iconst h (v := 0) dX10_next_51 (q := 52) rfl (by decide) ?_
        refine v_bipush h (v := 7) dX10_next_52 (q := 54) rfl (by decide) ?_
        refine v_callS h (As := [.int rv_2, .int 0, .int 7]) (rest := []) (c_X10_within (v := rv_2) (l := 0) (m := 7)) cal_X10_within m925 m924 ⟨rfl, rfl, Nat.le_of_ble_eq_true rfl, Nat.le_of_ble_eq_true rfl⟩ rfl rfl (Nat.le_of_ble_eq_true rfl) dX10_next_54 (q := 57) rfl (kB (fun c54_6 => ?_) (fun c54_6 => ?_))
        · refine v_if_eq h (t := 79) dX10_next_57 (by decide) (q := 60) rfl (fun c => absurd c (by decide)) (fun _ => ?_)
          refine v_iload_n h (i := 3) dX10_next_60 (q := 61) rfl rfl 0 rfl ?_
          refine v_iconst h (v := 0) dX10_next_61 (q := 62) rfl (by decide) ?_
          refine v_bipush h (v := 7) dX10_next_62 (q := 64) rfl (by decide) ?_
          refine v_callS h (As := [.int cv_6, .int 0, .int 7]) (rest := []) (c_X10_within (v := cv_6) (l := 0) (m := 7)) cal_X10_within m925 m924 ⟨rfl, rfl, Nat.le_of_ble_eq_true rfl, Nat.le_of_ble_eq_true rfl⟩ rfl rfl (Nat.le_of_ble_eq_true rfl) dX10_next_64 (q := 67) rfl (kB (fun c64_6 => ?_) (fun c64_6 => ?_))
          · refine v_if_eq h (t := 79) dX10_next_67 (by decide) (q := 70) rfl (fun c => absurd c (by decide)) (fun _ => ?_)
            refine v_bipush h (v := 8) dX10_next_70 (q := 72) rfl (by decide) ?_
            refine v_iload_n h (i := 2) dX10_next_72 (q := 73) rfl rfl 1 rfl ?_
            refine v_imul h dX10_next_73 (q := 74) rfl ?_
            refine v_iload_n h (i := 3) dX10_next_74 (q := 75) rfl rfl 0 rfl ?_
            refine v_iadd h dX10_next_75 (q := 76) rfl ?_
            refine v_goto h (t := 80) dX10_next_76 (by decide) ?_
            exact v_iret h dX10_next_80 ⟨by have er : c / 8 + (if k = 3 then 1 else if k = 1 then -1 else 0) = rv_2 := (by rw [← erv_2]; exact congrArg (fun z => c / 8 + z) (by first | (simp [*]; done) | exact absurd (c15.symm.trans c31_1) (by decide) | exact absurd (c15.symm.trans c40_1) (by decide) | exact absurd (c6.symm.trans c31_2) (by decide) | exact absurd (c6.symm.trans c40_2) (by decide))); have ec : irm c 8 + (if k = 2 then 1 else if k = 4 then -1 else 0) = cv_6 := (by rw [← ecv_6]; exact congrArg (fun z => irm c 8 + z) (by first | (simp [*]; done) | exact absurd (c15.symm.trans c31_1) (by decide) | exact absurd (c15.symm.trans c40_1) (by decide) | exact absurd (c6.symm.trans c31_2) (by decide) | exact absurd (c6.symm.trans c40_2) (by decide))); unfold nxM; rw [er, ec]; first | rw [if_pos ⟨(by assumption : wi rv_2 0 7), (by assumption : wi cv_6 0 7)⟩] | rw [if_neg (fun z => absurd (show wi rv_2 0 7 from z.1) (by assumption))] | rw [if_neg (fun z => absurd (show wi cv_6 0 7 from z.2) (by assumption))], rfl⟩
          · refine v_if_eq h (t := 79) dX10_next_67 (by decide) (q := 70) rfl (fun _ => ?_) (fun c => absurd (by decide) c)
            refine v_iload_n h (i := 0) dX10_next_79 (q := 80) rfl rfl 2 rfl ?_
            exact v_iret h dX10_next_80 ⟨by have er : c / 8 + (if k = 3 then 1 else if k = 1 then -1 else 0) = rv_2 := (by rw [← erv_2]; exact congrArg (fun z => c / 8 + z) (by first | (simp [*]; done) | exact absurd (c15.symm.trans c31_1) (by decide) | exact absurd (c15.symm.trans c40_1) (by decide) | exact absurd (c6.symm.trans c31_2) (by decide) | exact absurd (c6.symm.trans c40_2) (by decide))); have ec : irm c 8 + (if k = 2 then 1 else if k = 4 then -1 else 0) = cv_6 := (by rw [← ecv_6]; exact congrArg (fun z => irm c 8 + z) (by first | (simp [*]; done) | exact absurd (c15.symm.trans c31_1) (by decide) | exact absurd (c15.symm.trans c40_1) (by decide) | exact absurd (c6.symm.trans c31_2) (by decide) | exact absurd (c6.symm.trans c40_2) (by decide))); unfold nxM; rw [er, ec]; first | rw [if_pos ⟨(by assumption : wi rv_2 0 7), (by assumption : wi cv_6 0 7)⟩] | rw [if_neg (fun z => absurd (show wi rv_2 0 7 from z.1) (by assumption))] | rw [if_neg (fun z => absurd (show wi cv_6 0 7 from z.2) (by assumption))], rfl⟩
        · refine v_if_eq h (t := 79) dX10_next_57 (by decide) (q := 60) rfl (fun _ => ?_) (fun c => absurd (by decide) c)
          refine v_iload_n h (i := 0) dX10_next_79 (q := 80) rfl rfl 2 rfl ?_
          exact v_iret h dX10_next_80 ⟨by have er : c / 8 + (if k = 3 then 1 else if k = 1 then -1 else 0) = rv_2 := (by rw [← erv_2]; exact congrArg (fun z => c / 8 + z) (by first | (simp [*]; done) | exact absurd (c15.symm.trans c31_1) (by decide) | exact absurd (c15.symm.trans c40_1) (by decide) | exact absurd (c6.symm.trans c31_2) (by decide) | exact absurd (c6.symm.trans c40_2) (by decide))); have ec : irm c 8 + (if k = 2 then 1 else if k = 4 then -1 else 0) = cv_6 := (by rw [← ecv_6]; exact congrArg (fun z => irm c 8 + z) (by first | (simp [*]; done) | exact absurd (c15.symm.trans c31_1) (by decide) | exact absurd (c15.symm.trans c40_1) (by decide) | exact absurd (c6.symm.trans c31_2) (by decide) | exact absurd (c6.symm.trans c40_2) (by decide))); unfold nxM; rw [er, ec]; first | rw [if_pos ⟨(by assumption : wi rv_2 0 7), (by assumption : wi cv_6 0 7)⟩] | rw [if_neg (fun z => absurd (show wi rv_2 0 7 from z.1) (by assumption))] | rw [if_neg (fun z => absurd (show wi cv_6 0 7 from z.2) (by assumption))], rfl⟩
      · refine v_iconst h (v := -1) dX10_next_43 (q := 44) rfl (by decide) ?_
        refine v_goto h (t := 48) dX10_next_44 (by decide) ?_
        refine v_iadd h dX10_next_48 (q := 49) rfl ?_
        generalize ecv_7 : (c - c / 8 * 8) + (-1) = cv_7
        refine v_istore_n h (i := 3) (ls1 := [(3, .int cv_7), (2, .int rv_2), (0, .int c), (1, .int k)]) dX10_next_49 (q := 50) rfl rfl (Nat.le_of_ble_eq_true rfl) rfl ?_
        refine v_iload_n h (i := 2) dX10_next_50 (q := 51) rfl rfl 1 rfl ?_
        refine v_iconst h (v := 0) dX10_next_51 (q := 52) rfl (by decide) ?_
        refine v_bipush h (v := 7) dX10_next_52 (q := 54) rfl (by decide) ?_
        refine v_callS h (As := [.int rv_2, .int 0, .int 7]) (rest := []) (c_X10_within (v := rv_2) (l := 0) (m := 7)) cal_X10_within m925 m924 ⟨rfl, rfl, Nat.le_of_ble_eq_true rfl, Nat.le_of_ble_eq_true rfl⟩ rfl rfl (Nat.le_of_ble_eq_true rfl) dX10_next_54 (q := 57) rfl (kB (fun c54_7 => ?_) (fun c54_7 => ?_))
        · refine v_if_eq h (t := 79) dX10_next_57 (by decide) (q := 60) rfl (fun c => absurd c (by decide)) (fun _ => ?_)
          refine v_iload_n h (i := 3) dX10_next_60 (q := 61) rfl rfl 0 rfl ?_
          refine v_iconst h (v := 0) dX10_next_61 (q := 62) rfl (by decide) ?_
          refine v_bipush h (v := 7) dX10_next_62 (q := 64) rfl (by decide) ?_
          refine v_callS h (As := [.int cv_7, .int 0, .int 7]) (rest := []) (c_X10_within (v := cv_7) (l := 0) (m := 7)) cal_X10_within m925 m924 ⟨rfl, rfl, Nat.le_of_ble_eq_true rfl, Nat.le_of_ble_eq_true rfl⟩ rfl rfl (Nat.le_of_ble_eq_true rfl) dX10_next_64 (q := 67) rfl (kB (fun c64_7 => ?_) (fun c64_7 => ?_))
          · refine v_if_eq h (t := 79) dX10_next_67 (by decide) (q := 70) rfl (fun c => absurd c (by decide)) (fun _ => ?_)
            refine v_bipush h (v := 8) dX10_next_70 (q := 72) rfl (by decide) ?_
            refine v_iload_n h (i := 2) dX10_next_72 (q := 73) rfl rfl 1 rfl ?_
            refine v_imul h dX10_next_73 (q := 74) rfl ?_
            refine v_iload_n h (i := 3) dX10_next_74 (q := 75) rfl rfl 0 rfl ?_
            refine v_iadd h dX10_next_75 (q := 76) rfl ?_
            refine v_goto h (t := 80) dX10_next_76 (by decide) ?_
            exact v_iret h dX10_next_80 ⟨by have er : c / 8 + (if k = 3 then 1 else if k = 1 then -1 else 0) = rv_2 := (by rw [← erv_2]; exact congrArg (fun z => c / 8 + z) (by first | (simp [*]; done) | exact absurd (c15.symm.trans c31_1) (by decide) | exact absurd (c15.symm.trans c40_1) (by decide) | exact absurd (c6.symm.trans c31_2) (by decide) | exact absurd (c6.symm.trans c40_2) (by decide))); have ec : irm c 8 + (if k = 2 then 1 else if k = 4 then -1 else 0) = cv_7 := (by rw [← ecv_7]; exact congrArg (fun z => irm c 8 + z) (by first | (simp [*]; done) | exact absurd (c15.symm.trans c31_1) (by decide) | exact absurd (c15.symm.trans c40_1) (by decide) | exact absurd (c6.symm.trans c31_2) (by decide) | exact absurd (c6.symm.trans c40_2) (by decide))); unfold nxM; rw [er, ec]; first | rw [if_pos ⟨(by assumption : wi rv_2 0 7), (by assumption : wi cv_7 0 7)⟩] | rw [if_neg (fun z => absurd (show wi rv_2 0 7 from z.1) (by assumption))] | rw [if_neg (fun z => absurd (show wi cv_7 0 7 from z.2) (by assumption))], rfl⟩
          · refine v_if_eq h (t := 79) dX10_next_67 (by decide) (q := 70) rfl (fun _ => ?_) (fun c => absurd (by decide) c)
            refine v_iload_n h (i := 0) dX10_next_79 (q := 80) rfl rfl 2 rfl ?_
            exact v_iret h dX10_next_80 ⟨by have er : c / 8 + (if k = 3 then 1 else if k = 1 then -1 else 0) = rv_2 := (by rw [← erv_2]; exact congrArg (fun z => c / 8 + z) (by first | (simp [*]; done) | exact absurd (c15.symm.trans c31_1) (by decide) | exact absurd (c15.symm.trans c40_1) (by decide) | exact absurd (c6.symm.trans c31_2) (by decide) | exact absurd (c6.symm.trans c40_2) (by decide))); have ec : irm c 8 + (if k = 2 then 1 else if k = 4 then -1 else 0) = cv_7 := (by rw [← ecv_7]; exact congrArg (fun z => irm c 8 + z) (by first | (simp [*]; done) | exact absurd (c15.symm.trans c31_1) (by decide) | exact absurd (c15.symm.trans c40_1) (by decide) | exact absurd (c6.symm.trans c31_2) (by decide) | exact absurd (c6.symm.trans c40_2) (by decide))); unfold nxM; rw [er, ec]; first | rw [if_pos ⟨(by assumption : wi rv_2 0 7), (by assumption : wi cv_7 0 7)⟩] | rw [if_neg (fun z => absurd (show wi rv_2 0 7 from z.1) (by assumption))] | rw [if_neg (fun z => absurd (show wi cv_7 0 7 from z.2) (by assumption))], rfl⟩
        · refine v_if_eq h (t := 79) dX10_next_57 (by decide) (q := 60) rfl (fun _ => ?_) (fun c => absurd (by decide) c)
          refine v_iload_n h (i := 0) dX10_next_79 (q := 80) rfl rfl 2 rfl ?_
          exact v_iret h dX10_next_80 ⟨by have er : c / 8 + (if k = 3 then 1 else if k = 1 then -1 else 0) = rv_2 := (by rw [← erv_2]; exact congrArg (fun z => c / 8 + z) (by first | (simp [*]; done) | exact absurd (c15.symm.trans c31_1) (by decide) | exact absurd (c15.symm.trans c40_1) (by decide) | exact absurd (c6.symm.trans c31_2) (by decide) | exact absurd (c6.symm.trans c40_2) (by decide))); have ec : irm c 8 + (if k = 2 then 1 else if k = 4 then -1 else 0) = cv_7 := (by rw [← ecv_7]; exact congrArg (fun z => irm c 8 + z) (by first | (simp [*]; done) | exact absurd (c15.symm.trans c31_1) (by decide) | exact absurd (c15.symm.trans c40_1) (by decide) | exact absurd (c6.symm.trans c31_2) (by decide) | exact absurd (c6.symm.trans c40_2) (by decide))); unfold nxM; rw [er, ec]; first | rw [if_pos ⟨(by assumption : wi rv_2 0 7), (by assumption : wi cv_7 0 7)⟩] | rw [if_neg (fun z => absurd (show wi rv_2 0 7 from z.1) (by assumption))] | rw [if_neg (fun z => absurd (show wi cv_7 0 7 from z.2) (by assumption))], rfl⟩
    · refine v_iconst h (v := 1) dX10_next_34 (q := 35) rfl (by decide) ?_
      refine v_goto h (t := 48) dX10_next_35 (by decide) ?_
      refine v_iadd h dX10_next_48 (q := 49) rfl ?_
      generalize ecv_8 : (c - c / 8 * 8) + 1 = cv_8
      refine v_istore_n h (i := 3) (ls1 := [(3, .int cv_8), (2, .int rv_2), (0, .int c), (1, .int k)]) dX10_next_49 (q := 50) rfl rfl (Nat.le_of_ble_eq_true rfl) rfl ?_
      refine v_iload_n h (i := 2) dX10_next_50 (q := 51) rfl rfl 1 rfl ?_
      refine v_iconst h (v := 0) dX10_next_51 (q := 52) rfl (by decide) ?_
      refine v_bipush h (v := 7) dX10_next_52 (q := 54) rfl (by decide) ?_
      refine v_callS h (As := [.int rv_2, .int 0, .int 7]) (rest := []) (c_X10_within (v := rv_2) (l := 0) (m := 7)) cal_X10_within m925 m924 ⟨rfl, rfl, Nat.le_of_ble_eq_true rfl, Nat.le_of_ble_eq_true rfl⟩ rfl rfl (Nat.le_of_ble_eq_true rfl) dX10_next_54 (q := 57) rfl (kB (fun c54_8 => ?_) (fun c54_8 => ?_))
      · refine v_if_eq h (t := 79) dX10_next_57 (by decide) (q := 60) rfl (fun c => absurd c (by decide)) (fun _ => ?_)
        refine v_iload_n h (i := 3) dX10_next_60 (q := 61) rfl rfl 0 rfl ?_
        refine v_iconst h (v := 0) dX10_next_61 (q := 62) rfl (by decide) ?_
        refine v_bipush h (v := 7) dX10_next_62 (q := 64) rfl (by decide) ?_
        refine v_callS h (As := [.int cv_8, .int 0, .int 7]) (rest := []) (c_X10_within (v := cv_8) (l := 0) (m := 7)) cal_X10_within m925 m924 ⟨rfl, rfl, Nat.le_of_ble_eq_true rfl, Nat.le_of_ble_eq_true rfl⟩ rfl rfl (Nat.le_of_ble_eq_true rfl) dX10_next_64 (q := 67) rfl (kB (fun c64_8 => ?_) (fun c64_8 => ?_))
        · refine v_if_eq h (t := 79) dX10_next_67 (by decide) (q := 70) rfl (fun c => absurd c (by decide)) (fun _ => ?_)
          refine v_bipush h (v := 8) dX10_next_70 (q := 72) rfl (by decide) ?_
          refine v_iload_n h (i := 2) dX10_next_72 (q := 73) rfl rfl 1 rfl ?_
          refine v_imul h dX10_next_73 (q := 74) rfl ?_
          refine v_iload_n h (i := 3) dX10_next_74 (q := 75) rfl rfl 0 rfl ?_
          refine v_iadd h dX10_next_75 (q := 76) rfl ?_
          refine v_goto h (t := 80) dX10_next_76 (by decide) ?_
          exact v_iret h dX10_next_80 ⟨by have er : c / 8 + (if k = 3 then 1 else if k = 1 then -1 else 0) = rv_2 := (by rw [← erv_2]; exact congrArg (fun z => c / 8 + z) (by first | (simp [*]; done) | exact absurd (c15.symm.trans c31_1) (by decide) | exact absurd (c15.symm.trans c40_1) (by decide) | exact absurd (c6.symm.trans c31_2) (by decide) | exact absurd (c6.symm.trans c40_2) (by decide))); have ec : irm c 8 + (if k = 2 then 1 else if k = 4 then -1 else 0) = cv_8 := (by rw [← ecv_8]; exact congrArg (fun z => irm c 8 + z) (by first | (simp [*]; done) | exact absurd (c15.symm.trans c31_1) (by decide) | exact absurd (c15.symm.trans c40_1) (by decide) | exact absurd (c6.symm.trans c31_2) (by decide) | exact absurd (c6.symm.trans c40_2) (by decide))); unfold nxM; rw [er, ec]; first | rw [if_pos ⟨(by assumption : wi rv_2 0 7), (by assumption : wi cv_8 0 7)⟩] | rw [if_neg (fun z => absurd (show wi rv_2 0 7 from z.1) (by assumption))] | rw [if_neg (fun z => absurd (show wi cv_8 0 7 from z.2) (by assumption))], rfl⟩
        · refine v_if_eq h (t := 79) dX10_next_67 (by decide) (q := 70) rfl (fun _ => ?_) (fun c => absurd (by decide) c)
          refine v_iload_n h (i := 0) dX10_next_79 (q := 80) rfl rfl 2 rfl ?_
          exact v_iret h dX10_next_80 ⟨by have er : c / 8 + (if k = 3 then 1 else if k = 1 then -1 else 0) = rv_2 := (by rw [← erv_2]; exact congrArg (fun z => c / 8 + z) (by first | (simp [*]; done) | exact absurd (c15.symm.trans c31_1) (by decide) | exact absurd (c15.symm.trans c40_1) (by decide) | exact absurd (c6.symm.trans c31_2) (by decide) | exact absurd (c6.symm.trans c40_2) (by decide))); have ec : irm c 8 + (if k = 2 then 1 else if k = 4 then -1 else 0) = cv_8 := (by rw [← ecv_8]; exact congrArg (fun z => irm c 8 + z) (by first | (simp [*]; done) | exact absurd (c15.symm.trans c31_1) (by decide) | exact absurd (c15.symm.trans c40_1) (by decide) | exact absurd (c6.symm.trans c31_2) (by decide) | exact absurd (c6.symm.trans c40_2) (by decide))); unfold nxM; rw [er, ec]; first | rw [if_pos ⟨(by assumption : wi rv_2 0 7), (by assumption : wi cv_8 0 7)⟩] | rw [if_neg (fun z => absurd (show wi rv_2 0 7 from z.1) (by assumption))] | rw [if_neg (fun z => absurd (show wi cv_8 0 7 from z.2) (by assumption))], rfl⟩
      · refine v_if_eq h (t := 79) dX10_next_57 (by decide) (q := 60) rfl (fun _ => ?_) (fun c => absurd (by decide) c)
        refine v_iload_n h (i := 0) dX10_next_79 (q := 80) rfl rfl 2 rfl ?_
        exact v_iret h dX10_next_80 ⟨by have er : c / 8 + (if k = 3 then 1 else if k = 1 then -1 else 0) = rv_2 := (by rw [← erv_2]; exact congrArg (fun z => c / 8 + z) (by first | (simp [*]; done) | exact absurd (c15.symm.trans c31_1) (by decide) | exact absurd (c15.symm.trans c40_1) (by decide) | exact absurd (c6.symm.trans c31_2) (by decide) | exact absurd (c6.symm.trans c40_2) (by decide))); have ec : irm c 8 + (if k = 2 then 1 else if k = 4 then -1 else 0) = cv_8 := (by rw [← ecv_8]; exact congrArg (fun z => irm c 8 + z) (by first | (simp [*]; done) | exact absurd (c15.symm.trans c31_1) (by decide) | exact absurd (c15.symm.trans c40_1) (by decide) | exact absurd (c6.symm.trans c31_2) (by decide) | exact absurd (c6.symm.trans c40_2) (by decide))); unfold nxM; rw [er, ec]; first | rw [if_pos ⟨(by assumption : wi rv_2 0 7), (by assumption : wi cv_8 0 7)⟩] | rw [if_neg (fun z => absurd (show wi rv_2 0 7 from z.1) (by assumption))] | rw [if_neg (fun z => absurd (show wi cv_8 0 7 from z.2) (by assumption))], rfl⟩

set_option maxHeartbeats 4000000 in
set_option maxRecDepth 100000 in
theorem lX10_bits_4 {w : bw} {σ : bSt} {n : Nat} (hn : n < 4294967296) {x : bX} (h : Cx x w cX10_bits RX10 3 (some .int) (rmm 0 0)) : ∀ x0 c : Nat, x0 < 4294967296 → c + cn 32 x0 = cn 32 n → V x w 3 (pI (nI (cn 32 n)) σ) 4 [(2, .int (nI x0)), (1, .int (nI c)), (0, .int (nI n))] [] σ := by
  refine b_ind (fun x0 ih => ?_)
  intro c hx hc
  refine v_iload_n h (i := 2) dX10_bits_4 (q := 5) rfl rfl 0 rfl ?_
  refine v_if_eq h (t := 20) dX10_bits_5 (by decide) (q := 8) rfl (fun c5 => ?_) (fun c5 => ?_)
  · refine v_iload_n h (i := 1) dX10_bits_20 (q := 21) rfl rfl 1 rfl ?_
    exact v_iret h dX10_bits_21 ⟨by rw [← hc, (nI_z hx).mp c5, cn_0]; rfl, rfl⟩
  · have hx0 : 0 < x0 := by
      rcases Nat.eq_zero_or_pos x0 with z | z
      · exact absurd ((nI_z hx).mpr z) c5
      · exact z
    have hk := kc_step 32 x0 hx0 (by omega)
    refine v_iinc h (p := 1) (u := nI (c + 1)) (ls1 := [(1, .int (nI (c + 1))), (2, .int (nI x0)), (0, .int (nI n))]) dX10_bits_8 (q := 11) rfl rfl (nI_1 c) (Nat.le_of_ble_eq_true rfl) rfl ?_
    refine v_iload_n h (i := 2) dX10_bits_11 (q := 12) rfl rfl 1 rfl ?_
    refine v_iload_n h (i := 2) dX10_bits_12 (q := 13) rfl rfl 1 rfl ?_
    refine v_iconst h (v := 1) dX10_bits_13 (q := 14) rfl (by decide) ?_
    refine v_isub h dX10_bits_14 (q := 15) rfl ?_
    rw [show ((nI x0) - 1 : Int32) = nI (x0 - 1) from (nI_sub 1 (by omega))]
    refine v_iand h dX10_bits_15 (q := 16) rfl ?_
    rw [show ((nI x0) &&& (nI (x0 - 1)) : Int32) = nI (x0 &&& (x0 - 1)) from (i_and _ _)]
    refine v_istore_n h (i := 2) (ls1 := [(2, .int (nI (x0 &&& (x0 - 1)))), (1, .int (nI (c + 1))), (0, .int (nI n))]) dX10_bits_16 (q := 17) rfl rfl (Nat.le_of_ble_eq_true rfl) rfl ?_
    refine v_goto h (t := 4) dX10_bits_17 (by decide) ?_
    exact ih (x0 &&& (x0 - 1)) hk.2 (c + 1) (by omega) (by omega)
set_option maxHeartbeats 4000000 in
set_option maxRecDepth 100000 in
theorem c_X10_bits {w : bw} {σ : bSt} {n : Nat} (hn : n < 4294967296) : MV yX10_bits cX10_bits 3 (some .int) (rmm 0 0) w [.int (nI n)] σ (pI (nI (cn 32 n)) σ) := by
  refine b_met (ls := [(0, .int (nI n))]) (by decide) (Nat.le_of_ble_eq_true rfl) rfl (fun x h => ?_)
  refine v_iconst h (v := 0) dX10_bits_0 (q := 1) rfl (by decide) ?_
  refine v_istore_n h (i := 1) (ls1 := [(1, .int 0), (0, .int (nI n))]) dX10_bits_1 (q := 2) rfl rfl (Nat.le_of_ble_eq_true rfl) rfl ?_
  refine v_iload_n h (i := 0) dX10_bits_2 (q := 3) rfl rfl 1 rfl ?_
  refine v_istore_n h (i := 2) (ls1 := [(2, .int (nI n)), (1, .int 0), (0, .int (nI n))]) dX10_bits_3 (q := 4) rfl rfl (Nat.le_of_ble_eq_true rfl) rfl ?_
  exact lX10_bits_4 hn h n 0 hn (by omega)

theorem c_bits {w : bw} {σ : bSt} {v : Int32} : MV yX10_bits cX10_bits 3 (some .int) (rmm 0 0) w [.int v] σ (pI (bcJ v) σ) := by
  have e : v = nI v.toBitVec.toNat := Int32.toBitVec_inj.mp (by rw [nI_bv, BitVec.ofNat_toNat, BitVec.setWidth_eq])
  rw [e, bc_cn v.toBitVec.isLt]
  exact c_X10_bits v.toBitVec.isLt

set_option maxHeartbeats 4000000 in
set_option maxRecDepth 100000 in
theorem c_X10_done {w : bw} {σ : bSt} {op a b : Int32}  : MV yX10_done cX10_done 3 (some .int) (rmm 0 0) w [.int op, .int a, .int b] σ (pI (doM op a b) σ) := by
  refine b_met (ls := [(0, .int op), (1, .int a), (2, .int b)]) (by decide) (Nat.le_of_ble_eq_true rfl) rfl (fun x h => ?_)
  refine v_iload_n h (i := 0) dX10_done_0 (q := 1) rfl rfl 0 rfl ?_
  by_cases e1_20000 : op = (20000 : Int32)
  · refine v_tableIn h (off := 51) (t := 52) dX10_done_1 (by rw [e1_20000]; decide) (by rw [e1_20000]; decide) (by rw [e1_20000]; rfl) (by decide) ?_
    refine v_iload_n h (i := 1) dX10_done_52 (q := 53) rfl rfl 1 rfl ?_
    refine v_if_ne h (t := 60) dX10_done_53 (by decide) (q := 56) rfl (fun c53 => ?_) (fun c53 => ?_)
    · refine v_iconst h (v := 1) dX10_done_60 (q := 61) rfl (by decide) ?_
      refine v_goto h (t := 65) dX10_done_61 (by decide) ?_
      exact v_iret h dX10_done_65 ⟨by unfold doM irm; simp [*], rfl⟩
    · refine v_iload_n h (i := 2) dX10_done_56 (q := 57) rfl rfl 2 rfl ?_
      refine v_if_eq h (t := 64) dX10_done_57 (by decide) (q := 60) rfl (fun c57 => ?_) (fun c57 => ?_)
      · refine v_iconst h (v := 0) dX10_done_64 (q := 65) rfl (by decide) ?_
        exact v_iret h dX10_done_65 ⟨by unfold doM irm; simp [*], rfl⟩
      · refine v_iconst h (v := 1) dX10_done_60 (q := 61) rfl (by decide) ?_
        refine v_goto h (t := 65) dX10_done_61 (by decide) ?_
        exact v_iret h dX10_done_65 ⟨by unfold doM irm; simp [*], rfl⟩
  by_cases e1_20001 : op = (20001 : Int32)
  · refine v_tableIn h (off := 65) (t := 66) dX10_done_1 (by rw [e1_20001]; decide) (by rw [e1_20001]; decide) (by rw [e1_20001]; rfl) (by decide) ?_
    refine v_iload_n h (i := 1) dX10_done_66 (q := 67) rfl rfl 1 rfl ?_
    refine v_if_eq h (t := 78) dX10_done_67 (by decide) (q := 70) rfl (fun c67 => ?_) (fun c67 => ?_)
    · refine v_iconst h (v := 0) dX10_done_78 (q := 79) rfl (by decide) ?_
      exact v_iret h dX10_done_79 ⟨by unfold doM irm; simp [*], rfl⟩
    · refine v_iload_n h (i := 2) dX10_done_70 (q := 71) rfl rfl 2 rfl ?_
      refine v_if_eq h (t := 78) dX10_done_71 (by decide) (q := 74) rfl (fun c71 => ?_) (fun c71 => ?_)
      · refine v_iconst h (v := 0) dX10_done_78 (q := 79) rfl (by decide) ?_
        exact v_iret h dX10_done_79 ⟨by unfold doM irm; simp [*], rfl⟩
      · refine v_iconst h (v := 1) dX10_done_74 (q := 75) rfl (by decide) ?_
        refine v_goto h (t := 79) dX10_done_75 (by decide) ?_
        exact v_iret h dX10_done_79 ⟨by unfold doM irm; simp [*], rfl⟩
  by_cases e1_20002 : op = (20002 : Int32)
  · refine v_tableIn h (off := 79) (t := 80) dX10_done_1 (by rw [e1_20002]; decide) (by rw [e1_20002]; decide) (by rw [e1_20002]; rfl) (by decide) ?_
    refine v_iload_n h (i := 1) dX10_done_80 (q := 81) rfl rfl 1 rfl ?_
    refine v_iload_n h (i := 2) dX10_done_81 (q := 82) rfl rfl 2 rfl ?_
    refine v_icmp_ge h (t := 89) dX10_done_82 (by decide) (q := 85) rfl (fun c82 => ?_) (fun c82 => ?_)
    · refine v_iconst h (v := 0) dX10_done_89 (q := 90) rfl (by decide) ?_
      exact v_iret h dX10_done_90 ⟨by unfold doM irm; simp [*], rfl⟩
    · refine v_iconst h (v := 1) dX10_done_85 (q := 86) rfl (by decide) ?_
      refine v_goto h (t := 90) dX10_done_86 (by decide) ?_
      exact v_iret h dX10_done_90 ⟨by unfold doM irm; simp [*], rfl⟩
  by_cases e1_20003 : op = (20003 : Int32)
  · refine v_tableIn h (off := 90) (t := 91) dX10_done_1 (by rw [e1_20003]; decide) (by rw [e1_20003]; decide) (by rw [e1_20003]; rfl) (by decide) ?_
    refine v_iload_n h (i := 1) dX10_done_91 (q := 92) rfl rfl 1 rfl ?_
    refine v_iload_n h (i := 2) dX10_done_92 (q := 93) rfl rfl 2 rfl ?_
    refine v_icmp_ne h (t := 100) dX10_done_93 (by decide) (q := 96) rfl (fun c93 => ?_) (fun c93 => ?_)
    · refine v_iconst h (v := 0) dX10_done_100 (q := 101) rfl (by decide) ?_
      exact v_iret h dX10_done_101 ⟨by unfold doM irm; simp [*], rfl⟩
    · refine v_iconst h (v := 1) dX10_done_96 (q := 97) rfl (by decide) ?_
      refine v_goto h (t := 101) dX10_done_97 (by decide) ?_
      exact v_iret h dX10_done_101 ⟨by unfold doM irm; simp [*], rfl⟩
  by_cases e1_20004 : op = (20004 : Int32)
  · refine v_tableIn h (off := 101) (t := 102) dX10_done_1 (by rw [e1_20004]; decide) (by rw [e1_20004]; decide) (by rw [e1_20004]; rfl) (by decide) ?_
    refine v_iload_n h (i := 1) dX10_done_102 (q := 103) rfl rfl 1 rfl ?_
    refine v_iload_n h (i := 2) dX10_done_103 (q := 104) rfl rfl 2 rfl ?_
    refine v_icmp_le h (t := 111) dX10_done_104 (by decide) (q := 107) rfl (fun c104 => ?_) (fun c104 => ?_)
    · refine v_iconst h (v := 0) dX10_done_111 (q := 112) rfl (by decide) ?_
      exact v_iret h dX10_done_112 ⟨by unfold doM irm; simp [*], rfl⟩
    · refine v_iconst h (v := 1) dX10_done_107 (q := 108) rfl (by decide) ?_
      refine v_goto h (t := 112) dX10_done_108 (by decide) ?_
      exact v_iret h dX10_done_112 ⟨by unfold doM irm; simp [*], rfl⟩
  by_cases e1_20005 : op = (20005 : Int32)
  · refine v_tableIn h (off := 112) (t := 113) dX10_done_1 (by rw [e1_20005]; decide) (by rw [e1_20005]; decide) (by rw [e1_20005]; rfl) (by decide) ?_
    refine v_iload_n h (i := 1) dX10_done_113 (q := 114) rfl rfl 1 rfl ?_
    refine v_iload_n h (i := 2) dX10_done_114 (q := 115) rfl rfl 2 rfl ?_
    refine v_iadd h dX10_done_115 (q := 116) rfl ?_
    exact v_iret h dX10_done_116 ⟨by unfold doM irm; simp [*], rfl⟩
  by_cases e1_20006 : op = (20006 : Int32)
  · refine v_tableIn h (off := 116) (t := 117) dX10_done_1 (by rw [e1_20006]; decide) (by rw [e1_20006]; decide) (by rw [e1_20006]; rfl) (by decide) ?_
    refine v_iload_n h (i := 1) dX10_done_117 (q := 118) rfl rfl 1 rfl ?_
    refine v_iload_n h (i := 2) dX10_done_118 (q := 119) rfl rfl 2 rfl ?_
    refine v_isub h dX10_done_119 (q := 120) rfl ?_
    exact v_iret h dX10_done_120 ⟨by unfold doM irm; simp [*], rfl⟩
  by_cases e1_20007 : op = (20007 : Int32)
  · refine v_tableIn h (off := 120) (t := 121) dX10_done_1 (by rw [e1_20007]; decide) (by rw [e1_20007]; decide) (by rw [e1_20007]; rfl) (by decide) ?_
    refine v_iload_n h (i := 1) dX10_done_121 (q := 122) rfl rfl 1 rfl ?_
    refine v_iload_n h (i := 2) dX10_done_122 (q := 123) rfl rfl 2 rfl ?_
    refine v_imul h dX10_done_123 (q := 124) rfl ?_
    exact v_iret h dX10_done_124 ⟨by unfold doM irm; simp [*], rfl⟩
  by_cases e1_20008 : op = (20008 : Int32)
  · refine v_tableIn h (off := 124) (t := 125) dX10_done_1 (by rw [e1_20008]; decide) (by rw [e1_20008]; decide) (by rw [e1_20008]; rfl) (by decide) ?_
    refine v_iload_n h (i := 2) dX10_done_125 (q := 126) rfl rfl 2 rfl ?_
    refine v_if_ne h (t := 133) dX10_done_126 (by decide) (q := 129) rfl (fun c126 => ?_) (fun c126 => ?_)
    · refine v_iload_n h (i := 1) dX10_done_133 (q := 134) rfl rfl 1 rfl ?_
      refine v_iload_n h (i := 2) dX10_done_134 (q := 135) rfl rfl 2 rfl ?_
      refine v_idiv h dX10_done_135 (q := 136) rfl (by assumption) ?_
      exact v_iret h dX10_done_136 ⟨by unfold doM irm; simp [*], rfl⟩
    · refine v_iconst h (v := 0) dX10_done_129 (q := 130) rfl (by decide) ?_
      refine v_goto h (t := 136) dX10_done_130 (by decide) ?_
      exact v_iret h dX10_done_136 ⟨by unfold doM irm; simp [*], rfl⟩
  have e1_20000i := sw_ne e1_20000 (z := 20000) (by decide)
  have e1_20001i := sw_ne e1_20001 (z := 20001) (by decide)
  have e1_20002i := sw_ne e1_20002 (z := 20002) (by decide)
  have e1_20003i := sw_ne e1_20003 (z := 20003) (by decide)
  have e1_20004i := sw_ne e1_20004 (z := 20004) (by decide)
  have e1_20005i := sw_ne e1_20005 (z := 20005) (by decide)
  have e1_20006i := sw_ne e1_20006 (z := 20006) (by decide)
  have e1_20007i := sw_ne e1_20007 (z := 20007) (by decide)
  have e1_20008i := sw_ne e1_20008 (z := 20008) (by decide)
  refine v_tableOut h (t := 137) dX10_done_1 (by omega) (by decide) ?_
  refine v_iload_n h (i := 2) dX10_done_137 (q := 138) rfl rfl 2 rfl ?_
  refine v_if_ne h (t := 145) dX10_done_138 (by decide) (q := 141) rfl (fun c138 => ?_) (fun c138 => ?_)
  · refine v_iload_n h (i := 1) dX10_done_145 (q := 146) rfl rfl 1 rfl ?_
    refine v_iload_n h (i := 2) dX10_done_146 (q := 147) rfl rfl 2 rfl ?_
    refine v_irem h dX10_done_147 (q := 148) rfl (by assumption) ?_
    exact v_iret h dX10_done_148 ⟨by unfold doM irm; simp [*], rfl⟩
  · refine v_iconst h (v := 0) dX10_done_141 (q := 142) rfl (by decide) ?_
    refine v_goto h (t := 148) dX10_done_142 (by decide) ?_
    exact v_iret h dX10_done_148 ⟨by unfold doM irm; simp [*], rfl⟩

set_option maxHeartbeats 4000000 in
set_option maxRecDepth 100000 in
theorem c_X10_hasOwn {w : bw} {σ : bSt} {k a : Int32}  : MV yX10_hasOwn cX10_hasOwn 2 (some .boolean) (rmm 0 0) w [.int k, .int a] σ (pB (hoM k a) σ) := by
  refine b_met (ls := [(0, .int k), (1, .int a)]) (by decide) (Nat.le_of_ble_eq_true rfl) rfl (fun x h => ?_)
  refine v_iload_n h (i := 0) dX10_hasOwn_0 (q := 1) rfl rfl 0 rfl ?_
  by_cases e1_0 : k = (0 : Int32)
  · refine v_tableIn h (off := 39) (t := 40) dX10_hasOwn_1 (by rw [e1_0]; decide) (by rw [e1_0]; decide) (by rw [e1_0]; rfl) (by decide) ?_
    refine v_iconst h (v := 1) dX10_hasOwn_40 (q := 41) rfl (by decide) ?_
    exact v_zret h rfl dX10_hasOwn_41 (pB1 (by unfold hoM; first | (simp [*]; done) | (simp [*]; exact Int32.not_le.mp (by assumption))))
  by_cases e1_1 : k = (1 : Int32)
  · refine v_tableIn h (off := 41) (t := 42) dX10_hasOwn_1 (by rw [e1_1]; decide) (by rw [e1_1]; decide) (by rw [e1_1]; rfl) (by decide) ?_
    refine v_iload_n h (i := 1) dX10_hasOwn_42 (q := 43) rfl rfl 1 rfl ?_
    refine v_iconst h (v := 1) dX10_hasOwn_43 (q := 44) rfl (by decide) ?_
    refine v_icmp_ne h (t := 51) dX10_hasOwn_44 (by decide) (q := 47) rfl (fun c44 => ?_) (fun c44 => ?_)
    · refine v_iconst h (v := 0) dX10_hasOwn_51 (q := 52) rfl (by decide) ?_
      exact v_zret h rfl dX10_hasOwn_52 (pB0 (by unfold hoM; first | (simp [*]; done) | (simp [*]; exact Int32.not_lt.mpr (by assumption))))
    · refine v_iconst h (v := 1) dX10_hasOwn_47 (q := 48) rfl (by decide) ?_
      refine v_goto h (t := 52) dX10_hasOwn_48 (by decide) ?_
      exact v_zret h rfl dX10_hasOwn_52 (pB1 (by unfold hoM; first | (simp [*]; done) | (simp [*]; exact Int32.not_le.mp (by assumption))))
  by_cases e1_2 : k = (2 : Int32)
  · refine v_tableIn h (off := 52) (t := 53) dX10_hasOwn_1 (by rw [e1_2]; decide) (by rw [e1_2]; decide) (by rw [e1_2]; rfl) (by decide) ?_
    refine v_iload_n h (i := 1) dX10_hasOwn_53 (q := 54) rfl rfl 1 rfl ?_
    refine v_if_ne h (t := 61) dX10_hasOwn_54 (by decide) (q := 57) rfl (fun c54 => ?_) (fun c54 => ?_)
    · refine v_iconst h (v := 0) dX10_hasOwn_61 (q := 62) rfl (by decide) ?_
      exact v_zret h rfl dX10_hasOwn_62 (pB0 (by unfold hoM; first | (simp [*]; done) | (simp [*]; exact Int32.not_lt.mpr (by assumption))))
    · refine v_iconst h (v := 1) dX10_hasOwn_57 (q := 58) rfl (by decide) ?_
      refine v_goto h (t := 62) dX10_hasOwn_58 (by decide) ?_
      exact v_zret h rfl dX10_hasOwn_62 (pB1 (by unfold hoM; first | (simp [*]; done) | (simp [*]; exact Int32.not_le.mp (by assumption))))
  by_cases e1_3 : k = (3 : Int32)
  · refine v_tableIn h (off := 62) (t := 63) dX10_hasOwn_1 (by rw [e1_3]; decide) (by rw [e1_3]; decide) (by rw [e1_3]; rfl) (by decide) ?_
    refine v_iload_n h (i := 1) dX10_hasOwn_63 (q := 64) rfl rfl 1 rfl ?_
    refine v_iconst h (v := 2) dX10_hasOwn_64 (q := 65) rfl (by decide) ?_
    refine v_icmp_ne h (t := 72) dX10_hasOwn_65 (by decide) (q := 68) rfl (fun c65 => ?_) (fun c65 => ?_)
    · refine v_iconst h (v := 0) dX10_hasOwn_72 (q := 73) rfl (by decide) ?_
      exact v_zret h rfl dX10_hasOwn_73 (pB0 (by unfold hoM; first | (simp [*]; done) | (simp [*]; exact Int32.not_lt.mpr (by assumption))))
    · refine v_iconst h (v := 1) dX10_hasOwn_68 (q := 69) rfl (by decide) ?_
      refine v_goto h (t := 73) dX10_hasOwn_69 (by decide) ?_
      exact v_zret h rfl dX10_hasOwn_73 (pB1 (by unfold hoM; first | (simp [*]; done) | (simp [*]; exact Int32.not_le.mp (by assumption))))
  by_cases e1_4 : k = (4 : Int32)
  · refine v_tableIn h (off := 41) (t := 42) dX10_hasOwn_1 (by rw [e1_4]; decide) (by rw [e1_4]; decide) (by rw [e1_4]; rfl) (by decide) ?_
    refine v_iload_n h (i := 1) dX10_hasOwn_42 (q := 43) rfl rfl 1 rfl ?_
    refine v_iconst h (v := 1) dX10_hasOwn_43 (q := 44) rfl (by decide) ?_
    refine v_icmp_ne h (t := 51) dX10_hasOwn_44 (by decide) (q := 47) rfl (fun c44_1 => ?_) (fun c44_1 => ?_)
    · refine v_iconst h (v := 0) dX10_hasOwn_51 (q := 52) rfl (by decide) ?_
      exact v_zret h rfl dX10_hasOwn_52 (pB0 (by unfold hoM; first | (simp [*]; done) | (simp [*]; exact Int32.not_lt.mpr (by assumption))))
    · refine v_iconst h (v := 1) dX10_hasOwn_47 (q := 48) rfl (by decide) ?_
      refine v_goto h (t := 52) dX10_hasOwn_48 (by decide) ?_
      exact v_zret h rfl dX10_hasOwn_52 (pB1 (by unfold hoM; first | (simp [*]; done) | (simp [*]; exact Int32.not_le.mp (by assumption))))
  by_cases e1_5 : k = (5 : Int32)
  · refine v_tableIn h (off := 73) (t := 74) dX10_hasOwn_1 (by rw [e1_5]; decide) (by rw [e1_5]; decide) (by rw [e1_5]; rfl) (by decide) ?_
    refine v_iload_n h (i := 1) dX10_hasOwn_74 (q := 75) rfl rfl 1 rfl ?_
    refine v_iconst h (v := 3) dX10_hasOwn_75 (q := 76) rfl (by decide) ?_
    refine v_icmp_ne h (t := 83) dX10_hasOwn_76 (by decide) (q := 79) rfl (fun c76 => ?_) (fun c76 => ?_)
    · refine v_iconst h (v := 0) dX10_hasOwn_83 (q := 84) rfl (by decide) ?_
      exact v_zret h rfl dX10_hasOwn_84 (pB0 (by unfold hoM; first | (simp [*]; done) | (simp [*]; exact Int32.not_lt.mpr (by assumption))))
    · refine v_iconst h (v := 1) dX10_hasOwn_79 (q := 80) rfl (by decide) ?_
      refine v_goto h (t := 84) dX10_hasOwn_80 (by decide) ?_
      exact v_zret h rfl dX10_hasOwn_84 (pB1 (by unfold hoM; first | (simp [*]; done) | (simp [*]; exact Int32.not_le.mp (by assumption))))
  have e1_0i := sw_ne e1_0 (z := 0) (by decide)
  have e1_1i := sw_ne e1_1 (z := 1) (by decide)
  have e1_2i := sw_ne e1_2 (z := 2) (by decide)
  have e1_3i := sw_ne e1_3 (z := 3) (by decide)
  have e1_4i := sw_ne e1_4 (z := 4) (by decide)
  have e1_5i := sw_ne e1_5 (z := 5) (by decide)
  refine v_tableOut h (t := 85) dX10_hasOwn_1 (by omega) (by decide) ?_
  refine v_iload_n h (i := 1) dX10_hasOwn_85 (q := 86) rfl rfl 1 rfl ?_
  refine v_iconst h (v := 1) dX10_hasOwn_86 (q := 87) rfl (by decide) ?_
  refine v_icmp_le h (t := 94) dX10_hasOwn_87 (by decide) (q := 90) rfl (fun c87 => ?_) (fun c87 => ?_)
  · refine v_iconst h (v := 0) dX10_hasOwn_94 (q := 95) rfl (by decide) ?_
    exact v_zret h rfl dX10_hasOwn_95 (pB0 (by unfold hoM; first | (simp [*]; done) | (simp [*]; exact Int32.not_lt.mpr (by assumption))))
  · refine v_iconst h (v := 1) dX10_hasOwn_90 (q := 91) rfl (by decide) ?_
    refine v_goto h (t := 95) dX10_hasOwn_91 (by decide) ?_
    exact v_zret h rfl dX10_hasOwn_95 (pB1 (by unfold hoM; first | (simp [*]; done) | (simp [*]; exact Int32.not_le.mp (by assumption))))

set_option maxHeartbeats 4000000 in
set_option maxRecDepth 100000 in
theorem c_X10_boatIs {w : bw} {σ : bSt} {b f : Nat} (hm : sModel w) (hb : b < 9) (hf : f < 4) : MV yX10_boatIs cX10_boatIs 3 (some .int) (rmm 0 0) w [.ref (b_ad w 0), .int (nI b), .int (nI f)] σ (pI (σ 1 (12 + f + 4 * b)) σ) := by
  refine b_met (ls := [(0, .ref (b_ad w 0)), (1, .int (nI b)), (2, .int (nI f))]) (by decide) (Nat.le_of_ble_eq_true rfl) rfl (fun x h => ?_)
  refine v_aload_n h (i := 0) dX10_boatIs_0 (q := 1) rfl rfl 0 rfl ?_
  refine v_get h (k := 0) (v := .ref (b_ad w 1)) cls10 hm.1.1 hm.1.2 (Nat.le_of_ble_eq_true rfl) m849 rfl dX10_boatIs_1 (q := 4) rfl ?_
  refine v_bipush h (v := 12) dX10_boatIs_4 (q := 6) rfl (by decide) ?_
  refine v_iconst h (v := 4) dX10_boatIs_6 (q := 7) rfl (by decide) ?_
  refine v_iload_n h (i := 1) dX10_boatIs_7 (q := 8) rfl rfl 1 rfl ?_
  refine v_imul h dX10_boatIs_8 (q := 9) rfl ?_
  rw [show (4 * (nI b) : Int32) = nI (4 * b) from (nI_mulN 4 b)]
  refine v_iadd h dX10_boatIs_9 (q := 10) rfl ?_
  rw [show (12 + (nI (4 * b)) : Int32) = nI (12 + 4 * b) from (nI_add 12 _)]
  refine v_iload_n h (i := 2) dX10_boatIs_10 (q := 11) rfl rfl 2 rfl ?_
  refine v_iadd h dX10_boatIs_11 (q := 12) rfl ?_
  rw [show ((nI (12 + 4 * b)) + (nI f) : Int32) = nI (12 + 4 * b + f) from (nI_add _ _)]
  refine v_iald h (k := (12 + 4 * b + f)) hm.2.1.1 hm.2.1.2 (vp_in_nI (by omega) (by decide)) (nI_clamp (by omega)) dX10_boatIs_12 (q := 13) rfl ?_
  rw [show (σ 1 ((12 + 4 * b + f)) : Int32) = σ 1 (12 + f + 4 * b) from (by congr 1; omega)]
  exact v_iret h dX10_boatIs_13 ⟨rfl, rfl⟩

set_option maxHeartbeats 4000000 in
set_option maxRecDepth 100000 in
theorem c_X10_listenerIs {w : bw} {σ : bSt} {l f : Nat} (hm : sModel w) (hl : l < 6) (hf : f < 3) : MV yX10_listenerIs cX10_listenerIs 3 (some .int) (rmm 0 0) w [.ref (b_ad w 0), .int (nI l), .int (nI f)] σ (pI (σ 1 (48 + f + 3 * l)) σ) := by
  refine b_met (ls := [(0, .ref (b_ad w 0)), (1, .int (nI l)), (2, .int (nI f))]) (by decide) (Nat.le_of_ble_eq_true rfl) rfl (fun x h => ?_)
  refine v_aload_n h (i := 0) dX10_listenerIs_0 (q := 1) rfl rfl 0 rfl ?_
  refine v_get h (k := 0) (v := .ref (b_ad w 1)) cls10 hm.1.1 hm.1.2 (Nat.le_of_ble_eq_true rfl) m849 rfl dX10_listenerIs_1 (q := 4) rfl ?_
  refine v_bipush h (v := 48) dX10_listenerIs_4 (q := 6) rfl (by decide) ?_
  refine v_iconst h (v := 3) dX10_listenerIs_6 (q := 7) rfl (by decide) ?_
  refine v_iload_n h (i := 1) dX10_listenerIs_7 (q := 8) rfl rfl 1 rfl ?_
  refine v_imul h dX10_listenerIs_8 (q := 9) rfl ?_
  rw [show (3 * (nI l) : Int32) = nI (3 * l) from (nI_mulN 3 l)]
  refine v_iadd h dX10_listenerIs_9 (q := 10) rfl ?_
  rw [show (48 + (nI (3 * l)) : Int32) = nI (48 + 3 * l) from (nI_add 48 _)]
  refine v_iload_n h (i := 2) dX10_listenerIs_10 (q := 11) rfl rfl 2 rfl ?_
  refine v_iadd h dX10_listenerIs_11 (q := 12) rfl ?_
  rw [show ((nI (48 + 3 * l)) + (nI f) : Int32) = nI (48 + 3 * l + f) from (nI_add _ _)]
  refine v_iald h (k := (48 + 3 * l + f)) hm.2.1.1 hm.2.1.2 (vp_in_nI (by omega) (by decide)) (nI_clamp (by omega)) dX10_listenerIs_12 (q := 13) rfl ?_
  rw [show (σ 1 ((48 + 3 * l + f)) : Int32) = σ 1 (48 + f + 3 * l) from (by congr 1; omega)]
  exact v_iret h dX10_listenerIs_13 ⟨rfl, rfl⟩

set_option maxHeartbeats 4000000 in
set_option maxRecDepth 100000 in
theorem c_X10_beat {w : bw} {σ : bSt} {bt : Nat} (hm : sModel w) (h0 : σ 1 0 = nI bt) (hbt : bt < 20000) : MV yX10_beat cX10_beat 1 (some .int) (rmm 0 0) w [.ref (b_ad w 0)] σ (pI (nI (bt % 32)) σ) := by
  refine b_met (ls := [(0, .ref (b_ad w 0))]) (by decide) (Nat.le_of_ble_eq_true rfl) rfl (fun x h => ?_)
  refine v_aload_n h (i := 0) dX10_beat_0 (q := 1) rfl rfl 0 rfl ?_
  refine v_get h (k := 0) (v := .ref (b_ad w 1)) cls10 hm.1.1 hm.1.2 (Nat.le_of_ble_eq_true rfl) m849 rfl dX10_beat_1 (q := 4) rfl ?_
  refine v_iconst h (v := 0) dX10_beat_4 (q := 5) rfl (by decide) ?_
  refine v_iald h (k := 0) hm.2.1.1 hm.2.1.2 (vp_in_nI (n := 0) (by decide) (by decide)) (by decide) dX10_beat_5 (q := 6) rfl ?_
  rw [show (σ 1 0 : Int32) = nI bt from h0]
  refine v_bipush h (v := 32) dX10_beat_6 (q := 8) rfl (by decide) ?_
  refine v_irem h dX10_beat_8 (q := 9) rfl (by decide) ?_
  rw [show ((nI bt) - (nI bt) / 32 * 32 : Int32) = nI (bt % 32) from (pk_rem (d := 32) (by omega) (by decide) (by decide))]
  exact v_iret h dX10_beat_9 ⟨rfl, rfl⟩

set_option maxHeartbeats 4000000 in
set_option maxRecDepth 100000 in
theorem c_X10_sings {w : bw} {σ : bSt} {b bt : Nat} (hm : sModel w) (hb9 : b < 9) (h0 : σ 1 0 = nI bt) (hbt : bt < 20000) : MV yX10_sings cX10_sings 2 (some .boolean) (rmm 1 22) w [.ref (b_ad w 0), .int (nI b)] σ (pB (ushr (σ 1 (15 + 4 * b)) (nI (bt % 32)) &&& 1 = 1) σ) := by
  refine b_met (ls := [(0, .ref (b_ad w 0)), (1, .int (nI b))]) (by decide) (Nat.le_of_ble_eq_true rfl) rfl (fun x h => ?_)
  refine v_aload_n h (i := 0) dX10_sings_0 (q := 1) rfl rfl 0 rfl ?_
  refine v_iload_n h (i := 1) dX10_sings_1 (q := 2) rfl rfl 1 rfl ?_
  refine v_iconst h (v := 3) dX10_sings_2 (q := 3) rfl (by decide) ?_
  refine v_callV h (As := [.int (nI b), .int 3]) (rest := []) (c_X10_boatIs (σ := σ) (b := b) (f := 3) hm hb9 (by decide)) cal_X10_boatIs calV_X10_boatIs m961 ⟨rfl, rfl, Nat.le_of_ble_eq_true rfl, Nat.le_of_ble_eq_true rfl⟩ rfl hm.1.1 hm.1.2 ⟨_, _, rfl⟩ rfl (Nat.le_of_ble_eq_true rfl) dX10_sings_3 (q := 6) rfl (kI ?_)
  refine v_aload_n h (i := 0) dX10_sings_6 (q := 7) rfl rfl 0 rfl ?_
  refine v_callV h (As := []) (rest := [.int (σ 1 (15 + 4 * b))]) (c_X10_beat (σ := σ) hm h0 hbt) cal_X10_beat calV_X10_beat m965 ⟨rfl, rfl, Nat.le_of_ble_eq_true rfl, Nat.le_of_ble_eq_true rfl⟩ rfl hm.1.1 hm.1.2 ⟨_, _, rfl⟩ rfl (Nat.le_of_ble_eq_true rfl) dX10_sings_7 (q := 10) rfl (kI ?_)
  refine v_ishr h dX10_sings_10 (q := 11) rfl ?_
  refine v_iconst h (v := 1) dX10_sings_11 (q := 12) rfl (by decide) ?_
  refine v_iand h dX10_sings_12 (q := 13) rfl ?_
  rw [show (((σ 1 (15 + 4 * b)) >>> ((nI (bt % 32)) &&& 31)) &&& 1 : Int32) = ushr (σ 1 (15 + 4 * b)) (nI (bt % 32)) &&& 1 from (sshr1 (Nat.mod_lt _ (by decide)))]
  refine v_iconst h (v := 1) dX10_sings_13 (q := 14) rfl (by decide) ?_
  refine v_icmp_ne h (t := 21) dX10_sings_14 (by decide) (q := 17) rfl (fun c14 => ?_) (fun c14 => ?_)
  · refine v_iconst h (v := 0) dX10_sings_21 (q := 22) rfl (by decide) ?_
    exact v_zret h rfl dX10_sings_22 (pB0 (by first | assumption | simp_all))
  · refine v_iconst h (v := 1) dX10_sings_17 (q := 18) rfl (by decide) ?_
    refine v_goto h (t := 22) dX10_sings_18 (by decide) ?_
    exact v_zret h rfl dX10_sings_22 (pB1 (by first | assumption | exact ⟨by assumption, by assumption⟩ | simp_all))
