/-! the model's voices -/
def VM (σ : bSt) (q : bQ) : bSt := b_up (b_set σ 11 q.2) 0 17 (nI q.1)
theorem VM_17 {σ : bSt} {q : bQ} : VM σ q 0 17 = nI q.1 := by unfold VM; rw [b_up_s, upd_s]
theorem VM_f {σ : bSt} {q : bQ} {k : Nat} (h : k ≠ 17) : VM σ q 0 k = σ 0 k := by unfold VM; rw [b_up_s, upd_n h, b_set_n (by decide)]
theorem VM_1 {σ : bSt} {q : bQ} : VM σ q 1 = σ 1 := by unfold VM; rw [b_up_n (by decide), b_set_n (by decide)]
theorem VM_push {σ : bSt} {q : bQ} {b : Int32} (h : q.1 < 40) : b_up (b_up (VM σ q) 11 q.1 b) 0 17 (nI (q.1 + 1)) = VM σ (pushT b q) := by
  unfold pushT
  rw [if_pos h]
  funext j
  unfold VM
  by_cases c : j = 0
  · subst c
    rw [b_up_s, b_up_n (by decide), b_up_s, b_up_s, b_set_n (by decide), b_set_n (by decide)]
    funext i
    unfold upd
    by_cases e : i = 17
    · rw [if_pos e, if_pos e]
    · rw [if_neg e, if_neg e, if_neg e]
  · by_cases c1 : j = 11
    · subst c1
      rw [b_up_n (by decide), b_up_s, b_up_n (by decide), b_set_s, b_up_n (by decide), b_set_s]
    · rw [b_up_n c, b_up_n c1, b_up_n c, b_set_n c1, b_up_n c, b_set_n c1]
def owB (k a : Nat) : Bool := decide (k = 0) || ((decide (k = 1) || decide (k = 4)) && decide (a = 1)) || (decide (k = 2) && decide (a = 0)) || (decide (k = 3) && decide (a = 2)) || (decide (k = 5) && decide (a = 3)) || (decide (k = 6) && decide (1 < a))
theorem ho_tab : ∀ k : Nat, k < 7 → ∀ a : Nat, a < 4 → (hoM (nI k) (nI a) ↔ owB k a = true) := by
  unfold hoM
  decide +kernel
theorem ow_up : ∀ k : Nat, k < 7 → ∀ a : Nat, a < 4 → ¬ owB k a = true → abM (nI k) = nI (abK k) ∧ abK k < k ∧ bdN (abK k) a = bdN k a := by decide +kernel
theorem ow_setB : ∀ k : Nat, k < 7 → ∀ a : Nat, a < 4 → (!owB k a || (k == 0 || [5, 8, 14, 17, 23, 26, 27].contains (k * 4 + a))) = true := by decide +kernel
theorem ow_set (k : Nat) (hk : k < 7) (a : Nat) (ha : a < 4) (how : owB k a = true) : k = 0 ∨ k * 4 + a = 5 ∨ k * 4 + a = 8 ∨ k * 4 + a = 14 ∨ k * 4 + a = 17 ∨ k * 4 + a = 23 ∨ k * 4 + a = 26 ∨ k * 4 + a = 27 := by
  have h := ow_setB k hk a ha
  rw [how] at h
  simp at h
  exact h
def VFm (w : bw) (σ : bSt) (K : Nat) (n m : Int32) (f : Nat) : Prop := ∀ (k a : Nat) (x : Int32) (q : bQ), k < 7 → a < 4 → okV K f (bdN k a) = true → q.1 ≤ 40 →
  MV yX10_bodyFrom cX10_bodyFrom 5 (some .int) (rmm (4 * f + 4) (200 * f + 200)) w [.ref (b_ad w 0), .int (nI k), .int (nI a), .int x] (VM σ q) (pI (vE K n m f (bdN k a) x q).1 (VM σ (vE K n m f (bdN k a) x q).2))

set_option maxHeartbeats 4000000 in
set_option maxRecDepth 100000 in
theorem c_X10_began {w : bw} {σ : bSt} {q : bQ} {body : Int32} (hm : sModel w) (hq : q.1 ≤ 40) : MV yX10_began cX10_began 2 none (rmm 0 0) w [.ref (b_ad w 0), .int body] (VM σ q) (pU (VM σ (pushT body q))) := by
  refine b_met (ls := [(0, .ref (b_ad w 0)), (1, .int body)]) (by decide) (Nat.le_of_ble_eq_true rfl) rfl (fun x h => ?_)
  refine v_aload_n h (i := 0) dX10_began_0 (q := 1) rfl rfl 0 rfl ?_
  refine v_get h (k := 17) (v := .int ((VM σ q) 0 17)) cls10 hm.1.1 hm.1.2 (Nat.le_of_ble_eq_true rfl) m866 rfl dX10_began_1 (q := 4) rfl ?_
  rw [show ((VM σ q) 0 17 : Int32) = nI q.1 from VM_17]
  refine v_bipush h (v := 40) dX10_began_4 (q := 6) rfl (by decide) ?_
  refine v_icmp_ge h (t := 29) dX10_began_6 (by decide) (q := 9) rfl (fun c6 => ?_) (fun c6 => ?_)
  · exact v_vret h dX10_began_29 ⟨rfl, by unfold pushT; rw [if_neg (fun z => absurd (nI_lt (a := q.1) (b := 40) z (by decide)) (Int32.not_lt.mpr c6))]⟩
  · have hq4 : q.1 < 40 := (nI_ltI (a := q.1) (b := 40) (by omega) (by decide)).mp (Int32.not_le.mp c6)
    refine v_aload_n h (i := 0) dX10_began_9 (q := 10) rfl rfl 0 rfl ?_
    refine v_get h (k := 16) (v := .ref (b_ad w 11)) cls10 hm.1.1 hm.1.2 (Nat.le_of_ble_eq_true rfl) m865 rfl dX10_began_10 (q := 13) rfl ?_
    refine v_aload_n h (i := 0) dX10_began_13 (q := 14) rfl rfl 0 rfl ?_
    refine v_get h (k := 17) (v := .int ((VM σ q) 0 17)) cls10 hm.1.1 hm.1.2 (Nat.le_of_ble_eq_true rfl) m866 rfl dX10_began_14 (q := 17) rfl ?_
    rw [show ((VM σ q) 0 17 : Int32) = nI q.1 from VM_17]
    refine v_iload_n h (i := 1) dX10_began_17 (q := 18) rfl rfl 1 rfl ?_
    refine v_iast h (k := q.1) hm.2.2.2.2.2.2.2.2.2.2.2.1.1 hm.2.2.2.2.2.2.2.2.2.2.2.1.2 (vp_in_nI (by omega) (by decide)) (nI_clamp (by omega)) dX10_began_18 (q := 19) rfl ?_
    refine v_aload_n h (i := 0) dX10_began_19 (q := 20) rfl rfl 0 rfl ?_
    refine v_dup h dX10_began_20 (q := 21) rfl rfl ?_
    refine v_get h (k := 17) (v := .int ((b_up (VM σ q) 11 q.1 body) 0 17)) cls10 hm.1.1 hm.1.2 (Nat.le_of_ble_eq_true rfl) m866 rfl dX10_began_21 (q := 24) rfl ?_
    rw [show ((b_up (VM σ q) 11 q.1 body) 0 17 : Int32) = nI q.1 from (by rw [b_up_n (by decide)]; exact VM_17)]
    refine v_iconst h (v := 1) dX10_began_24 (q := 25) rfl (by decide) ?_
    refine v_iadd h dX10_began_25 (q := 26) rfl ?_
    rw [show ((nI q.1) + 1 : Int32) = nI (q.1 + 1) from (nI_1 q.1)]
    refine v_put h (k := 17) cls10 hm.1.1 hm.1.2 (Nat.le_of_ble_eq_true rfl) rfl m866 rfl ⟨rfl, rfl⟩ dX10_began_26 (q := 29) rfl ?_
    exact v_vret h dX10_began_29 ⟨rfl, VM_push hq4⟩

set_option maxHeartbeats 4000000 in
set_option maxRecDepth 100000 in
theorem c_X10_voiced {w : bw} {σ : bSt} {d K a f : Nat} {n m x0 : Int32} {q : bQ} (hm : sModel w) (hd9 : d < 9) (hsp : σ 0 18 = nI d) (hK : σ 1 (12 + 4 * d) = nI K) (hK7 : K < 7) (hn : nI d = n) (hmm : σ 1 (13 + 4 * d) = m) (hVF : VFm w σ K n m f) (ha : a < 4) (hok : okV K f (bdN K a) = true) (hq : q.1 ≤ 40) : MV yX10_voiced cX10_voiced 3 (some .int) (rmm (4 * f + 5) (200 * f + 250)) w [.ref (b_ad w 0), .int (nI a), .int x0] (VM σ q) (pI (vE K n m f (bdN K a) x0 q).1 (VM σ (vE K n m f (bdN K a) x0 q).2)) := by
  refine b_met (ls := [(0, .ref (b_ad w 0)), (1, .int (nI a)), (2, .int x0)]) (by decide) (Nat.le_of_ble_eq_true rfl) rfl (fun x h => ?_)
  refine v_aload_n h (i := 0) dX10_voiced_0 (q := 1) rfl rfl 0 rfl ?_
  refine v_aload_n h (i := 0) dX10_voiced_1 (q := 2) rfl rfl 0 rfl ?_
  refine v_aload_n h (i := 0) dX10_voiced_2 (q := 3) rfl rfl 0 rfl ?_
  refine v_get h (k := 18) (v := .int ((VM σ q) 0 18)) cls10 hm.1.1 hm.1.2 (Nat.le_of_ble_eq_true rfl) m867 rfl dX10_voiced_3 (q := 6) rfl ?_
  rw [show ((VM σ q) 0 18 : Int32) = nI d from (by rw [VM_f (by decide)]; exact hsp)]
  refine v_iconst h (v := 0) dX10_voiced_6 (q := 7) rfl (by decide) ?_
  refine v_callV h (As := [.int (nI d), .int 0]) (rest := [.ref (b_ad w 0)]) (c_X10_boatIs (σ := VM σ q) (b := d) (f := 0) hm hd9 (by decide)) cal_X10_boatIs calV_X10_boatIs m961 ⟨rfl, rfl, by dsimp only; omega, by dsimp only; omega⟩ rfl hm.1.1 hm.1.2 ⟨_, _, rfl⟩ rfl (Nat.le_of_ble_eq_true rfl) dX10_voiced_7 (q := 10) rfl (kI ?_)
  rw [show ((VM σ q) 1 (12 + 4 * d) : Int32) = nI K from (by rw [VM_1]; exact hK)]
  refine v_iload_n h (i := 1) dX10_voiced_10 (q := 11) rfl rfl 1 rfl ?_
  refine v_iload_n h (i := 2) dX10_voiced_11 (q := 12) rfl rfl 2 rfl ?_
  refine v_callV h (As := [.int (nI K), .int (nI a), .int x0]) (rest := []) ((hVF K a x0 q hK7 ha hok hq)) cal_X10_bodyFrom calV_X10_bodyFrom m1278 ⟨rfl, rfl, by dsimp only; omega, by dsimp only; omega⟩ rfl hm.1.1 hm.1.2 ⟨_, _, rfl⟩ rfl (Nat.le_of_ble_eq_true rfl) dX10_voiced_12 (q := 15) rfl (kI ?_)
  exact v_iret h dX10_voiced_15 ⟨rfl, rfl⟩

set_option maxHeartbeats 4000000 in
set_option maxRecDepth 100000 in
theorem c_X10_body_10 {w : bw} {σ : bSt} {d K f : Nat} {n m x0 : Int32} {q : bQ} (hm : sModel w) (hd9 : d < 9) (hsp : σ 0 18 = nI d) (hK : σ 1 (12 + 4 * d) = nI K) (hK7 : K < 7) (hn : nI d = n) (hmm : σ 1 (13 + 4 * d) = m) (hVF : VFm w σ K n m f) (hok : okV K (f + 1) 10 = true) (hq : q.1 ≤ 40) : MV yX10_body cX10_body 7 (some .int) (rmm (4 * f + 6) (200 * f + 320)) w [.ref (b_ad w 0), .int 0, .int 0, .int x0] (VM σ q) (pI (vE K n m (f + 1) 10 x0 q).1 (VM σ (vE K n m (f + 1) 10 x0 q).2)) := by
  refine b_met (ls := [(0, .ref (b_ad w 0)), (1, .int 0), (2, .int 0), (3, .int x0)]) (by decide) (Nat.le_of_ble_eq_true rfl) rfl (fun x h => ?_)
  refine v_aload_n h (i := 0) dX10_body_0 (q := 1) rfl rfl 0 rfl ?_
  refine v_get h (k := 18) (v := .int ((VM σ q) 0 18)) cls10 hm.1.1 hm.1.2 (Nat.le_of_ble_eq_true rfl) m867 rfl dX10_body_1 (q := 4) rfl ?_
  rw [show ((VM σ q) 0 18 : Int32) = n from (by rw [VM_f (by decide)]; exact hsp.trans hn)]
  refine v_istore h (i := 4) (ls1 := [(4, .int n), (0, .ref (b_ad w 0)), (1, .int 0), (2, .int 0), (3, .int x0)]) dX10_body_4 (q := 6) rfl (Nat.le_of_ble_eq_true rfl) rfl ?_
  refine v_aload_n h (i := 0) dX10_body_6 (q := 7) rfl rfl 1 rfl ?_
  refine v_aload_n h (i := 0) dX10_body_7 (q := 8) rfl rfl 1 rfl ?_
  refine v_get h (k := 18) (v := .int ((VM σ q) 0 18)) cls10 hm.1.1 hm.1.2 (Nat.le_of_ble_eq_true rfl) m867 rfl dX10_body_8 (q := 11) rfl ?_
  rw [show ((VM σ q) 0 18 : Int32) = nI d from (by rw [VM_f (by decide)]; exact hsp)]
  refine v_iconst h (v := 1) dX10_body_11 (q := 12) rfl (by decide) ?_
  refine v_callV h (As := [.int (nI d), .int 1]) (rest := []) (c_X10_boatIs (σ := VM σ q) (b := d) (f := 1) hm hd9 (by decide)) cal_X10_boatIs calV_X10_boatIs m961 ⟨rfl, rfl, by dsimp only; omega, by dsimp only; omega⟩ rfl hm.1.1 hm.1.2 ⟨_, _, rfl⟩ rfl (Nat.le_of_ble_eq_true rfl) dX10_body_12 (q := 15) rfl (kI ?_)
  rw [show ((VM σ q) 1 (13 + 4 * d) : Int32) = m from (by rw [VM_1]; exact hmm)]
  refine v_istore h (i := 5) (ls1 := [(5, .int m), (4, .int n), (0, .ref (b_ad w 0)), (1, .int 0), (2, .int 0), (3, .int x0)]) dX10_body_15 (q := 17) rfl (Nat.le_of_ble_eq_true rfl) rfl ?_
  refine v_iconst h (v := 4) dX10_body_17 (q := 18) rfl (by decide) ?_
  refine v_iload_n h (i := 1) dX10_body_18 (q := 19) rfl rfl 3 rfl ?_
  refine v_imul h dX10_body_19 (q := 20) rfl ?_
  refine v_iload_n h (i := 2) dX10_body_20 (q := 21) rfl rfl 4 rfl ?_
  refine v_iadd h dX10_body_21 (q := 22) rfl ?_
  rw [show ((4 * 0) + 0 : Int32) = 0 from (by decide)]
  refine v_tableIn h (off := 122) (t := 144) dX10_body_22 (by decide) (by decide) rfl (by decide) ?_
  refine v_aload_n h (i := 0) dX10_body_144 (q := 145) rfl rfl 2 rfl ?_
  refine v_bipush h (v := 10) dX10_body_145 (q := 147) rfl (by decide) ?_
  refine v_callV h (As := [.int 10]) (rest := []) ((c_X10_began (q := q) (body := 10) hm hq)) cal_X10_began calV_X10_began m1289 ⟨rfl, rfl, by dsimp only; omega, by dsimp only; omega⟩ rfl hm.1.1 hm.1.2 ⟨_, _, rfl⟩ rfl (Nat.le_of_ble_eq_true rfl) dX10_body_147 (q := 150) rfl (kU ?_)
  refine v_iload_n h (i := 3) dX10_body_150 (q := 151) rfl rfl 5 rfl ?_
  refine v_iload h (i := 4) dX10_body_151 (q := 153) rfl 1 rfl ?_
  refine v_iadd h dX10_body_153 (q := 154) rfl ?_
  exact v_iret h dX10_body_154 ⟨by rw [vE_10], by rw [vE_10]⟩

set_option maxHeartbeats 4000000 in
set_option maxRecDepth 100000 in
theorem c_X10_body_11 {w : bw} {σ : bSt} {d K f : Nat} {n m x0 : Int32} {q : bQ} (hm : sModel w) (hd9 : d < 9) (hsp : σ 0 18 = nI d) (hK : σ 1 (12 + 4 * d) = nI K) (hK7 : K < 7) (hn : nI d = n) (hmm : σ 1 (13 + 4 * d) = m) (hVF : VFm w σ K n m f) (hok : okV K (f + 1) 11 = true) (hq : q.1 ≤ 40) : MV yX10_body cX10_body 7 (some .int) (rmm (4 * f + 6) (200 * f + 320)) w [.ref (b_ad w 0), .int 0, .int 1, .int x0] (VM σ q) (pI (vE K n m (f + 1) 11 x0 q).1 (VM σ (vE K n m (f + 1) 11 x0 q).2)) := by
  refine b_met (ls := [(0, .ref (b_ad w 0)), (1, .int 0), (2, .int 1), (3, .int x0)]) (by decide) (Nat.le_of_ble_eq_true rfl) rfl (fun x h => ?_)
  rw [okV_11] at hok
  refine v_aload_n h (i := 0) dX10_body_0 (q := 1) rfl rfl 0 rfl ?_
  refine v_get h (k := 18) (v := .int ((VM σ q) 0 18)) cls10 hm.1.1 hm.1.2 (Nat.le_of_ble_eq_true rfl) m867 rfl dX10_body_1 (q := 4) rfl ?_
  rw [show ((VM σ q) 0 18 : Int32) = n from (by rw [VM_f (by decide)]; exact hsp.trans hn)]
  refine v_istore h (i := 4) (ls1 := [(4, .int n), (0, .ref (b_ad w 0)), (1, .int 0), (2, .int 1), (3, .int x0)]) dX10_body_4 (q := 6) rfl (Nat.le_of_ble_eq_true rfl) rfl ?_
  refine v_aload_n h (i := 0) dX10_body_6 (q := 7) rfl rfl 1 rfl ?_
  refine v_aload_n h (i := 0) dX10_body_7 (q := 8) rfl rfl 1 rfl ?_
  refine v_get h (k := 18) (v := .int ((VM σ q) 0 18)) cls10 hm.1.1 hm.1.2 (Nat.le_of_ble_eq_true rfl) m867 rfl dX10_body_8 (q := 11) rfl ?_
  rw [show ((VM σ q) 0 18 : Int32) = nI d from (by rw [VM_f (by decide)]; exact hsp)]
  refine v_iconst h (v := 1) dX10_body_11 (q := 12) rfl (by decide) ?_
  refine v_callV h (As := [.int (nI d), .int 1]) (rest := []) (c_X10_boatIs (σ := VM σ q) (b := d) (f := 1) hm hd9 (by decide)) cal_X10_boatIs calV_X10_boatIs m961 ⟨rfl, rfl, by dsimp only; omega, by dsimp only; omega⟩ rfl hm.1.1 hm.1.2 ⟨_, _, rfl⟩ rfl (Nat.le_of_ble_eq_true rfl) dX10_body_12 (q := 15) rfl (kI ?_)
  rw [show ((VM σ q) 1 (13 + 4 * d) : Int32) = m from (by rw [VM_1]; exact hmm)]
  refine v_istore h (i := 5) (ls1 := [(5, .int m), (4, .int n), (0, .ref (b_ad w 0)), (1, .int 0), (2, .int 1), (3, .int x0)]) dX10_body_15 (q := 17) rfl (Nat.le_of_ble_eq_true rfl) rfl ?_
  refine v_iconst h (v := 4) dX10_body_17 (q := 18) rfl (by decide) ?_
  refine v_iload_n h (i := 1) dX10_body_18 (q := 19) rfl rfl 3 rfl ?_
  refine v_imul h dX10_body_19 (q := 20) rfl ?_
  refine v_iload_n h (i := 2) dX10_body_20 (q := 21) rfl rfl 4 rfl ?_
  refine v_iadd h dX10_body_21 (q := 22) rfl ?_
  rw [show ((4 * 0) + 1 : Int32) = 1 from (by decide)]
  refine v_tableIn h (off := 133) (t := 155) dX10_body_22 (by decide) (by decide) rfl (by decide) ?_
  refine v_aload_n h (i := 0) dX10_body_155 (q := 156) rfl rfl 2 rfl ?_
  refine v_bipush h (v := 11) dX10_body_156 (q := 158) rfl (by decide) ?_
  refine v_callV h (As := [.int 11]) (rest := []) ((c_X10_began (q := q) (body := 11) hm hq)) cal_X10_began calV_X10_began m1289 ⟨rfl, rfl, by dsimp only; omega, by dsimp only; omega⟩ rfl hm.1.1 hm.1.2 ⟨_, _, rfl⟩ rfl (Nat.le_of_ble_eq_true rfl) dX10_body_158 (q := 161) rfl (kU ?_)
  refine v_aload_n h (i := 0) dX10_body_161 (q := 162) rfl rfl 2 rfl ?_
  refine v_iconst h (v := 0) dX10_body_162 (q := 163) rfl (by decide) ?_
  refine v_iload_n h (i := 3) dX10_body_163 (q := 164) rfl rfl 5 rfl ?_
  refine v_callV h (As := [.int 0, .int x0]) (rest := []) ((c_X10_voiced (d := d) (a := 0) (x0 := x0) (q := pushT 11 q) hm hd9 hsp hK hK7 hn hmm hVF (by decide) hok (pushT_le hq))) cal_X10_voiced calV_X10_voiced m1274 ⟨rfl, rfl, by dsimp only; omega, by dsimp only; omega⟩ rfl hm.1.1 hm.1.2 ⟨_, _, rfl⟩ rfl (Nat.le_of_ble_eq_true rfl) dX10_body_164 (q := 167) rfl (kI ?_)
  refine v_iconst h (v := 2) dX10_body_167 (q := 168) rfl (by decide) ?_
  refine v_imul h dX10_body_168 (q := 169) rfl ?_
  exact v_iret h dX10_body_169 ⟨by rw [vE_11], by rw [vE_11]⟩

set_option maxHeartbeats 4000000 in
set_option maxRecDepth 100000 in
theorem c_X10_body_12 {w : bw} {σ : bSt} {d K f : Nat} {n m x0 : Int32} {q : bQ} (hm : sModel w) (hd9 : d < 9) (hsp : σ 0 18 = nI d) (hK : σ 1 (12 + 4 * d) = nI K) (hK7 : K < 7) (hn : nI d = n) (hmm : σ 1 (13 + 4 * d) = m) (hVF : VFm w σ K n m f) (hok : okV K (f + 1) 12 = true) (hq : q.1 ≤ 40) : MV yX10_body cX10_body 7 (some .int) (rmm (4 * f + 6) (200 * f + 320)) w [.ref (b_ad w 0), .int 0, .int 2, .int x0] (VM σ q) (pI (vE K n m (f + 1) 12 x0 q).1 (VM σ (vE K n m (f + 1) 12 x0 q).2)) := by
  refine b_met (ls := [(0, .ref (b_ad w 0)), (1, .int 0), (2, .int 2), (3, .int x0)]) (by decide) (Nat.le_of_ble_eq_true rfl) rfl (fun x h => ?_)
  refine v_aload_n h (i := 0) dX10_body_0 (q := 1) rfl rfl 0 rfl ?_
  refine v_get h (k := 18) (v := .int ((VM σ q) 0 18)) cls10 hm.1.1 hm.1.2 (Nat.le_of_ble_eq_true rfl) m867 rfl dX10_body_1 (q := 4) rfl ?_
  rw [show ((VM σ q) 0 18 : Int32) = n from (by rw [VM_f (by decide)]; exact hsp.trans hn)]
  refine v_istore h (i := 4) (ls1 := [(4, .int n), (0, .ref (b_ad w 0)), (1, .int 0), (2, .int 2), (3, .int x0)]) dX10_body_4 (q := 6) rfl (Nat.le_of_ble_eq_true rfl) rfl ?_
  refine v_aload_n h (i := 0) dX10_body_6 (q := 7) rfl rfl 1 rfl ?_
  refine v_aload_n h (i := 0) dX10_body_7 (q := 8) rfl rfl 1 rfl ?_
  refine v_get h (k := 18) (v := .int ((VM σ q) 0 18)) cls10 hm.1.1 hm.1.2 (Nat.le_of_ble_eq_true rfl) m867 rfl dX10_body_8 (q := 11) rfl ?_
  rw [show ((VM σ q) 0 18 : Int32) = nI d from (by rw [VM_f (by decide)]; exact hsp)]
  refine v_iconst h (v := 1) dX10_body_11 (q := 12) rfl (by decide) ?_
  refine v_callV h (As := [.int (nI d), .int 1]) (rest := []) (c_X10_boatIs (σ := VM σ q) (b := d) (f := 1) hm hd9 (by decide)) cal_X10_boatIs calV_X10_boatIs m961 ⟨rfl, rfl, by dsimp only; omega, by dsimp only; omega⟩ rfl hm.1.1 hm.1.2 ⟨_, _, rfl⟩ rfl (Nat.le_of_ble_eq_true rfl) dX10_body_12 (q := 15) rfl (kI ?_)
  rw [show ((VM σ q) 1 (13 + 4 * d) : Int32) = m from (by rw [VM_1]; exact hmm)]
  refine v_istore h (i := 5) (ls1 := [(5, .int m), (4, .int n), (0, .ref (b_ad w 0)), (1, .int 0), (2, .int 2), (3, .int x0)]) dX10_body_15 (q := 17) rfl (Nat.le_of_ble_eq_true rfl) rfl ?_
  refine v_iconst h (v := 4) dX10_body_17 (q := 18) rfl (by decide) ?_
  refine v_iload_n h (i := 1) dX10_body_18 (q := 19) rfl rfl 3 rfl ?_
  refine v_imul h dX10_body_19 (q := 20) rfl ?_
  refine v_iload_n h (i := 2) dX10_body_20 (q := 21) rfl rfl 4 rfl ?_
  refine v_iadd h dX10_body_21 (q := 22) rfl ?_
  rw [show ((4 * 0) + 2 : Int32) = 2 from (by decide)]
  refine v_tableIn h (off := 148) (t := 170) dX10_body_22 (by decide) (by decide) rfl (by decide) ?_
  refine v_aload_n h (i := 0) dX10_body_170 (q := 171) rfl rfl 2 rfl ?_
  refine v_bipush h (v := 12) dX10_body_171 (q := 173) rfl (by decide) ?_
  refine v_callV h (As := [.int 12]) (rest := []) ((c_X10_began (q := q) (body := 12) hm hq)) cal_X10_began calV_X10_began m1289 ⟨rfl, rfl, by dsimp only; omega, by dsimp only; omega⟩ rfl hm.1.1 hm.1.2 ⟨_, _, rfl⟩ rfl (Nat.le_of_ble_eq_true rfl) dX10_body_173 (q := 176) rfl (kU ?_)
  refine v_iload_n h (i := 3) dX10_body_176 (q := 177) rfl rfl 5 rfl ?_
  refine v_iload h (i := 5) dX10_body_177 (q := 179) rfl 0 rfl ?_
  refine v_isub h dX10_body_179 (q := 180) rfl ?_
  exact v_iret h dX10_body_180 ⟨by rw [vE_12], by rw [vE_12]⟩

set_option maxHeartbeats 4000000 in
set_option maxRecDepth 100000 in
theorem c_X10_body_13 {w : bw} {σ : bSt} {d K f : Nat} {n m x0 : Int32} {q : bQ} (hm : sModel w) (hd9 : d < 9) (hsp : σ 0 18 = nI d) (hK : σ 1 (12 + 4 * d) = nI K) (hK7 : K < 7) (hn : nI d = n) (hmm : σ 1 (13 + 4 * d) = m) (hVF : VFm w σ K n m f) (hok : okV K (f + 1) 13 = true) (hq : q.1 ≤ 40) : MV yX10_body cX10_body 7 (some .int) (rmm (4 * f + 6) (200 * f + 320)) w [.ref (b_ad w 0), .int 0, .int 3, .int x0] (VM σ q) (pI (vE K n m (f + 1) 13 x0 q).1 (VM σ (vE K n m (f + 1) 13 x0 q).2)) := by
  refine b_met (ls := [(0, .ref (b_ad w 0)), (1, .int 0), (2, .int 3), (3, .int x0)]) (by decide) (Nat.le_of_ble_eq_true rfl) rfl (fun x h => ?_)
  rw [okV_13, Bool.and_eq_true] at hok
  refine v_aload_n h (i := 0) dX10_body_0 (q := 1) rfl rfl 0 rfl ?_
  refine v_get h (k := 18) (v := .int ((VM σ q) 0 18)) cls10 hm.1.1 hm.1.2 (Nat.le_of_ble_eq_true rfl) m867 rfl dX10_body_1 (q := 4) rfl ?_
  rw [show ((VM σ q) 0 18 : Int32) = n from (by rw [VM_f (by decide)]; exact hsp.trans hn)]
  refine v_istore h (i := 4) (ls1 := [(4, .int n), (0, .ref (b_ad w 0)), (1, .int 0), (2, .int 3), (3, .int x0)]) dX10_body_4 (q := 6) rfl (Nat.le_of_ble_eq_true rfl) rfl ?_
  refine v_aload_n h (i := 0) dX10_body_6 (q := 7) rfl rfl 1 rfl ?_
  refine v_aload_n h (i := 0) dX10_body_7 (q := 8) rfl rfl 1 rfl ?_
  refine v_get h (k := 18) (v := .int ((VM σ q) 0 18)) cls10 hm.1.1 hm.1.2 (Nat.le_of_ble_eq_true rfl) m867 rfl dX10_body_8 (q := 11) rfl ?_
  rw [show ((VM σ q) 0 18 : Int32) = nI d from (by rw [VM_f (by decide)]; exact hsp)]
  refine v_iconst h (v := 1) dX10_body_11 (q := 12) rfl (by decide) ?_
  refine v_callV h (As := [.int (nI d), .int 1]) (rest := []) (c_X10_boatIs (σ := VM σ q) (b := d) (f := 1) hm hd9 (by decide)) cal_X10_boatIs calV_X10_boatIs m961 ⟨rfl, rfl, by dsimp only; omega, by dsimp only; omega⟩ rfl hm.1.1 hm.1.2 ⟨_, _, rfl⟩ rfl (Nat.le_of_ble_eq_true rfl) dX10_body_12 (q := 15) rfl (kI ?_)
  rw [show ((VM σ q) 1 (13 + 4 * d) : Int32) = m from (by rw [VM_1]; exact hmm)]
  refine v_istore h (i := 5) (ls1 := [(5, .int m), (4, .int n), (0, .ref (b_ad w 0)), (1, .int 0), (2, .int 3), (3, .int x0)]) dX10_body_15 (q := 17) rfl (Nat.le_of_ble_eq_true rfl) rfl ?_
  refine v_iconst h (v := 4) dX10_body_17 (q := 18) rfl (by decide) ?_
  refine v_iload_n h (i := 1) dX10_body_18 (q := 19) rfl rfl 3 rfl ?_
  refine v_imul h dX10_body_19 (q := 20) rfl ?_
  refine v_iload_n h (i := 2) dX10_body_20 (q := 21) rfl rfl 4 rfl ?_
  refine v_iadd h dX10_body_21 (q := 22) rfl ?_
  rw [show ((4 * 0) + 3 : Int32) = 3 from (by decide)]
  refine v_tableIn h (off := 159) (t := 181) dX10_body_22 (by decide) (by decide) rfl (by decide) ?_
  refine v_aload_n h (i := 0) dX10_body_181 (q := 182) rfl rfl 2 rfl ?_
  refine v_bipush h (v := 13) dX10_body_182 (q := 184) rfl (by decide) ?_
  refine v_callV h (As := [.int 13]) (rest := []) ((c_X10_began (q := q) (body := 13) hm hq)) cal_X10_began calV_X10_began m1289 ⟨rfl, rfl, by dsimp only; omega, by dsimp only; omega⟩ rfl hm.1.1 hm.1.2 ⟨_, _, rfl⟩ rfl (Nat.le_of_ble_eq_true rfl) dX10_body_184 (q := 187) rfl (kU ?_)
  refine v_aload_n h (i := 0) dX10_body_187 (q := 188) rfl rfl 2 rfl ?_
  refine v_iconst h (v := 1) dX10_body_188 (q := 189) rfl (by decide) ?_
  refine v_iload_n h (i := 3) dX10_body_189 (q := 190) rfl rfl 5 rfl ?_
  refine v_callV h (As := [.int 1, .int x0]) (rest := []) ((c_X10_voiced (d := d) (a := 1) (x0 := x0) (q := pushT 13 q) hm hd9 hsp hK hK7 hn hmm hVF (by decide) hok.1 (pushT_le hq))) cal_X10_voiced calV_X10_voiced m1274 ⟨rfl, rfl, by dsimp only; omega, by dsimp only; omega⟩ rfl hm.1.1 hm.1.2 ⟨_, _, rfl⟩ rfl (Nat.le_of_ble_eq_true rfl) dX10_body_190 (q := 193) rfl (kI ?_)
  refine v_istore h (i := 6) (ls1 := [(6, .int ((vE K n m f (bdN K 1) x0 (pushT 13 q)).1)), (5, .int m), (4, .int n), (0, .ref (b_ad w 0)), (1, .int 0), (2, .int 3), (3, .int x0)]) dX10_body_193 (q := 195) rfl (Nat.le_of_ble_eq_true rfl) rfl ?_
  refine v_iload h (i := 6) dX10_body_195 (q := 197) rfl 0 rfl ?_
  refine v_aload_n h (i := 0) dX10_body_197 (q := 198) rfl rfl 3 rfl ?_
  refine v_iconst h (v := 2) dX10_body_198 (q := 199) rfl (by decide) ?_
  refine v_iload_n h (i := 3) dX10_body_199 (q := 200) rfl rfl 6 rfl ?_
  refine v_callV h (As := [.int 2, .int x0]) (rest := [.int ((vE K n m f (bdN K 1) x0 (pushT 13 q)).1)]) ((c_X10_voiced (d := d) (a := 2) (x0 := x0) (q := (vE K n m f (bdN K 1) x0 (pushT 13 q)).2) hm hd9 hsp hK hK7 hn hmm hVF (by decide) hok.2 (vE_le _ _ _ _ _ _ _ (pushT_le hq)))) cal_X10_voiced calV_X10_voiced m1274 ⟨rfl, rfl, by dsimp only; omega, by dsimp only; omega⟩ rfl hm.1.1 hm.1.2 ⟨_, _, rfl⟩ rfl (Nat.le_of_ble_eq_true rfl) dX10_body_200 (q := 203) rfl (kI ?_)
  refine v_ixor h dX10_body_203 (q := 204) rfl ?_
  exact v_iret h dX10_body_204 ⟨by rw [vE_13], by rw [vE_13]⟩

set_option maxHeartbeats 4000000 in
set_option maxRecDepth 100000 in
theorem c_X10_body_20 {w : bw} {σ : bSt} {d K f : Nat} {n m x0 : Int32} {q : bQ} (hm : sModel w) (hd9 : d < 9) (hsp : σ 0 18 = nI d) (hK : σ 1 (12 + 4 * d) = nI K) (hK7 : K < 7) (hn : nI d = n) (hmm : σ 1 (13 + 4 * d) = m) (hVF : VFm w σ K n m f) (hok : okV K (f + 1) 20 = true) (hq : q.1 ≤ 40) : MV yX10_body cX10_body 7 (some .int) (rmm (4 * f + 6) (200 * f + 320)) w [.ref (b_ad w 0), .int 1, .int 1, .int x0] (VM σ q) (pI (vE K n m (f + 1) 20 x0 q).1 (VM σ (vE K n m (f + 1) 20 x0 q).2)) := by
  refine b_met (ls := [(0, .ref (b_ad w 0)), (1, .int 1), (2, .int 1), (3, .int x0)]) (by decide) (Nat.le_of_ble_eq_true rfl) rfl (fun x h => ?_)
  rw [okV_20, Bool.and_eq_true] at hok
  refine v_aload_n h (i := 0) dX10_body_0 (q := 1) rfl rfl 0 rfl ?_
  refine v_get h (k := 18) (v := .int ((VM σ q) 0 18)) cls10 hm.1.1 hm.1.2 (Nat.le_of_ble_eq_true rfl) m867 rfl dX10_body_1 (q := 4) rfl ?_
  rw [show ((VM σ q) 0 18 : Int32) = n from (by rw [VM_f (by decide)]; exact hsp.trans hn)]
  refine v_istore h (i := 4) (ls1 := [(4, .int n), (0, .ref (b_ad w 0)), (1, .int 1), (2, .int 1), (3, .int x0)]) dX10_body_4 (q := 6) rfl (Nat.le_of_ble_eq_true rfl) rfl ?_
  refine v_aload_n h (i := 0) dX10_body_6 (q := 7) rfl rfl 1 rfl ?_
  refine v_aload_n h (i := 0) dX10_body_7 (q := 8) rfl rfl 1 rfl ?_
  refine v_get h (k := 18) (v := .int ((VM σ q) 0 18)) cls10 hm.1.1 hm.1.2 (Nat.le_of_ble_eq_true rfl) m867 rfl dX10_body_8 (q := 11) rfl ?_
  rw [show ((VM σ q) 0 18 : Int32) = nI d from (by rw [VM_f (by decide)]; exact hsp)]
  refine v_iconst h (v := 1) dX10_body_11 (q := 12) rfl (by decide) ?_
  refine v_callV h (As := [.int (nI d), .int 1]) (rest := []) (c_X10_boatIs (σ := VM σ q) (b := d) (f := 1) hm hd9 (by decide)) cal_X10_boatIs calV_X10_boatIs m961 ⟨rfl, rfl, by dsimp only; omega, by dsimp only; omega⟩ rfl hm.1.1 hm.1.2 ⟨_, _, rfl⟩ rfl (Nat.le_of_ble_eq_true rfl) dX10_body_12 (q := 15) rfl (kI ?_)
  rw [show ((VM σ q) 1 (13 + 4 * d) : Int32) = m from (by rw [VM_1]; exact hmm)]
  refine v_istore h (i := 5) (ls1 := [(5, .int m), (4, .int n), (0, .ref (b_ad w 0)), (1, .int 1), (2, .int 1), (3, .int x0)]) dX10_body_15 (q := 17) rfl (Nat.le_of_ble_eq_true rfl) rfl ?_
  refine v_iconst h (v := 4) dX10_body_17 (q := 18) rfl (by decide) ?_
  refine v_iload_n h (i := 1) dX10_body_18 (q := 19) rfl rfl 3 rfl ?_
  refine v_imul h dX10_body_19 (q := 20) rfl ?_
  refine v_iload_n h (i := 2) dX10_body_20 (q := 21) rfl rfl 4 rfl ?_
  refine v_iadd h dX10_body_21 (q := 22) rfl ?_
  rw [show ((4 * 1) + 1 : Int32) = 5 from (by decide)]
  refine v_tableIn h (off := 183) (t := 205) dX10_body_22 (by decide) (by decide) rfl (by decide) ?_
  refine v_aload_n h (i := 0) dX10_body_205 (q := 206) rfl rfl 2 rfl ?_
  refine v_bipush h (v := 20) dX10_body_206 (q := 208) rfl (by decide) ?_
  refine v_callV h (As := [.int 20]) (rest := []) ((c_X10_began (q := q) (body := 20) hm hq)) cal_X10_began calV_X10_began m1289 ⟨rfl, rfl, by dsimp only; omega, by dsimp only; omega⟩ rfl hm.1.1 hm.1.2 ⟨_, _, rfl⟩ rfl (Nat.le_of_ble_eq_true rfl) dX10_body_208 (q := 211) rfl (kU ?_)
  refine v_aload_n h (i := 0) dX10_body_211 (q := 212) rfl rfl 2 rfl ?_
  refine v_iconst h (v := 0) dX10_body_212 (q := 213) rfl (by decide) ?_
  refine v_iconst h (v := 1) dX10_body_213 (q := 214) rfl (by decide) ?_
  refine v_iload_n h (i := 3) dX10_body_214 (q := 215) rfl rfl 5 rfl ?_
  refine v_callV h (As := [.int 0, .int 1, .int x0]) (rest := []) ((hVF 0 1 x0 (pushT 20 q) (by decide) (by decide) hok.1 (pushT_le hq))) cal_X10_bodyFrom calV_X10_bodyFrom m1278 ⟨rfl, rfl, by dsimp only; omega, by dsimp only; omega⟩ rfl hm.1.1 hm.1.2 ⟨_, _, rfl⟩ rfl (Nat.le_of_ble_eq_true rfl) dX10_body_215 (q := 218) rfl (kI ?_)
  refine v_istore h (i := 6) (ls1 := [(6, .int ((vE K n m f (bdN 0 1) x0 (pushT 20 q)).1)), (5, .int m), (4, .int n), (0, .ref (b_ad w 0)), (1, .int 1), (2, .int 1), (3, .int x0)]) dX10_body_218 (q := 220) rfl (Nat.le_of_ble_eq_true rfl) rfl ?_
  refine v_iload h (i := 6) dX10_body_220 (q := 222) rfl 0 rfl ?_
  refine v_aload_n h (i := 0) dX10_body_222 (q := 223) rfl rfl 3 rfl ?_
  refine v_iconst h (v := 2) dX10_body_223 (q := 224) rfl (by decide) ?_
  refine v_iconst h (v := 1) dX10_body_224 (q := 225) rfl (by decide) ?_
  refine v_callV h (As := [.int 2, .int 1]) (rest := [.int ((vE K n m f (bdN 0 1) x0 (pushT 20 q)).1)]) ((c_X10_voiced (d := d) (a := 2) (x0 := 1) (q := (vE K n m f (bdN 0 1) x0 (pushT 20 q)).2) hm hd9 hsp hK hK7 hn hmm hVF (by decide) hok.2 (vE_le _ _ _ _ _ _ _ (pushT_le hq)))) cal_X10_voiced calV_X10_voiced m1274 ⟨rfl, rfl, by dsimp only; omega, by dsimp only; omega⟩ rfl hm.1.1 hm.1.2 ⟨_, _, rfl⟩ rfl (Nat.le_of_ble_eq_true rfl) dX10_body_225 (q := 228) rfl (kI ?_)
  refine v_isub h dX10_body_228 (q := 229) rfl ?_
  exact v_iret h dX10_body_229 ⟨by rw [vE_20], by rw [vE_20]⟩

set_option maxHeartbeats 4000000 in
set_option maxRecDepth 100000 in
theorem c_X10_body_30 {w : bw} {σ : bSt} {d K f : Nat} {n m x0 : Int32} {q : bQ} (hm : sModel w) (hd9 : d < 9) (hsp : σ 0 18 = nI d) (hK : σ 1 (12 + 4 * d) = nI K) (hK7 : K < 7) (hn : nI d = n) (hmm : σ 1 (13 + 4 * d) = m) (hVF : VFm w σ K n m f) (hok : okV K (f + 1) 30 = true) (hq : q.1 ≤ 40) : MV yX10_body cX10_body 7 (some .int) (rmm (4 * f + 6) (200 * f + 320)) w [.ref (b_ad w 0), .int 2, .int 0, .int x0] (VM σ q) (pI (vE K n m (f + 1) 30 x0 q).1 (VM σ (vE K n m (f + 1) 30 x0 q).2)) := by
  refine b_met (ls := [(0, .ref (b_ad w 0)), (1, .int 2), (2, .int 0), (3, .int x0)]) (by decide) (Nat.le_of_ble_eq_true rfl) rfl (fun x h => ?_)
  rw [okV_30] at hok
  refine v_aload_n h (i := 0) dX10_body_0 (q := 1) rfl rfl 0 rfl ?_
  refine v_get h (k := 18) (v := .int ((VM σ q) 0 18)) cls10 hm.1.1 hm.1.2 (Nat.le_of_ble_eq_true rfl) m867 rfl dX10_body_1 (q := 4) rfl ?_
  rw [show ((VM σ q) 0 18 : Int32) = n from (by rw [VM_f (by decide)]; exact hsp.trans hn)]
  refine v_istore h (i := 4) (ls1 := [(4, .int n), (0, .ref (b_ad w 0)), (1, .int 2), (2, .int 0), (3, .int x0)]) dX10_body_4 (q := 6) rfl (Nat.le_of_ble_eq_true rfl) rfl ?_
  refine v_aload_n h (i := 0) dX10_body_6 (q := 7) rfl rfl 1 rfl ?_
  refine v_aload_n h (i := 0) dX10_body_7 (q := 8) rfl rfl 1 rfl ?_
  refine v_get h (k := 18) (v := .int ((VM σ q) 0 18)) cls10 hm.1.1 hm.1.2 (Nat.le_of_ble_eq_true rfl) m867 rfl dX10_body_8 (q := 11) rfl ?_
  rw [show ((VM σ q) 0 18 : Int32) = nI d from (by rw [VM_f (by decide)]; exact hsp)]
  refine v_iconst h (v := 1) dX10_body_11 (q := 12) rfl (by decide) ?_
  refine v_callV h (As := [.int (nI d), .int 1]) (rest := []) (c_X10_boatIs (σ := VM σ q) (b := d) (f := 1) hm hd9 (by decide)) cal_X10_boatIs calV_X10_boatIs m961 ⟨rfl, rfl, by dsimp only; omega, by dsimp only; omega⟩ rfl hm.1.1 hm.1.2 ⟨_, _, rfl⟩ rfl (Nat.le_of_ble_eq_true rfl) dX10_body_12 (q := 15) rfl (kI ?_)
  rw [show ((VM σ q) 1 (13 + 4 * d) : Int32) = m from (by rw [VM_1]; exact hmm)]
  refine v_istore h (i := 5) (ls1 := [(5, .int m), (4, .int n), (0, .ref (b_ad w 0)), (1, .int 2), (2, .int 0), (3, .int x0)]) dX10_body_15 (q := 17) rfl (Nat.le_of_ble_eq_true rfl) rfl ?_
  refine v_iconst h (v := 4) dX10_body_17 (q := 18) rfl (by decide) ?_
  refine v_iload_n h (i := 1) dX10_body_18 (q := 19) rfl rfl 3 rfl ?_
  refine v_imul h dX10_body_19 (q := 20) rfl ?_
  refine v_iload_n h (i := 2) dX10_body_20 (q := 21) rfl rfl 4 rfl ?_
  refine v_iadd h dX10_body_21 (q := 22) rfl ?_
  rw [show ((4 * 2) + 0 : Int32) = 8 from (by decide)]
  refine v_tableIn h (off := 208) (t := 230) dX10_body_22 (by decide) (by decide) rfl (by decide) ?_
  refine v_aload_n h (i := 0) dX10_body_230 (q := 231) rfl rfl 2 rfl ?_
  refine v_bipush h (v := 30) dX10_body_231 (q := 233) rfl (by decide) ?_
  refine v_callV h (As := [.int 30]) (rest := []) ((c_X10_began (q := q) (body := 30) hm hq)) cal_X10_began calV_X10_began m1289 ⟨rfl, rfl, by dsimp only; omega, by dsimp only; omega⟩ rfl hm.1.1 hm.1.2 ⟨_, _, rfl⟩ rfl (Nat.le_of_ble_eq_true rfl) dX10_body_233 (q := 236) rfl (kU ?_)
  refine v_aload_n h (i := 0) dX10_body_236 (q := 237) rfl rfl 2 rfl ?_
  refine v_iconst h (v := 0) dX10_body_237 (q := 238) rfl (by decide) ?_
  refine v_iconst h (v := 0) dX10_body_238 (q := 239) rfl (by decide) ?_
  refine v_iload_n h (i := 3) dX10_body_239 (q := 240) rfl rfl 5 rfl ?_
  refine v_callV h (As := [.int 0, .int 0, .int x0]) (rest := []) ((hVF 0 0 x0 (pushT 30 q) (by decide) (by decide) hok (pushT_le hq))) cal_X10_bodyFrom calV_X10_bodyFrom m1278 ⟨rfl, rfl, by dsimp only; omega, by dsimp only; omega⟩ rfl hm.1.1 hm.1.2 ⟨_, _, rfl⟩ rfl (Nat.le_of_ble_eq_true rfl) dX10_body_240 (q := 243) rfl (kI ?_)
  refine v_iconst h (v := 3) dX10_body_243 (q := 244) rfl (by decide) ?_
  refine v_imul h dX10_body_244 (q := 245) rfl ?_
  exact v_iret h dX10_body_245 ⟨by rw [vE_30], by rw [vE_30]⟩

set_option maxHeartbeats 4000000 in
set_option maxRecDepth 100000 in
theorem c_X10_body_40 {w : bw} {σ : bSt} {d K f : Nat} {n m x0 : Int32} {q : bQ} (hm : sModel w) (hd9 : d < 9) (hsp : σ 0 18 = nI d) (hK : σ 1 (12 + 4 * d) = nI K) (hK7 : K < 7) (hn : nI d = n) (hmm : σ 1 (13 + 4 * d) = m) (hVF : VFm w σ K n m f) (hok : okV K (f + 1) 40 = true) (hq : q.1 ≤ 40) : MV yX10_body cX10_body 7 (some .int) (rmm (4 * f + 6) (200 * f + 320)) w [.ref (b_ad w 0), .int 3, .int 2, .int x0] (VM σ q) (pI (vE K n m (f + 1) 40 x0 q).1 (VM σ (vE K n m (f + 1) 40 x0 q).2)) := by
  refine b_met (ls := [(0, .ref (b_ad w 0)), (1, .int 3), (2, .int 2), (3, .int x0)]) (by decide) (Nat.le_of_ble_eq_true rfl) rfl (fun x h => ?_)
  rw [okV_40] at hok
  refine v_aload_n h (i := 0) dX10_body_0 (q := 1) rfl rfl 0 rfl ?_
  refine v_get h (k := 18) (v := .int ((VM σ q) 0 18)) cls10 hm.1.1 hm.1.2 (Nat.le_of_ble_eq_true rfl) m867 rfl dX10_body_1 (q := 4) rfl ?_
  rw [show ((VM σ q) 0 18 : Int32) = n from (by rw [VM_f (by decide)]; exact hsp.trans hn)]
  refine v_istore h (i := 4) (ls1 := [(4, .int n), (0, .ref (b_ad w 0)), (1, .int 3), (2, .int 2), (3, .int x0)]) dX10_body_4 (q := 6) rfl (Nat.le_of_ble_eq_true rfl) rfl ?_
  refine v_aload_n h (i := 0) dX10_body_6 (q := 7) rfl rfl 1 rfl ?_
  refine v_aload_n h (i := 0) dX10_body_7 (q := 8) rfl rfl 1 rfl ?_
  refine v_get h (k := 18) (v := .int ((VM σ q) 0 18)) cls10 hm.1.1 hm.1.2 (Nat.le_of_ble_eq_true rfl) m867 rfl dX10_body_8 (q := 11) rfl ?_
  rw [show ((VM σ q) 0 18 : Int32) = nI d from (by rw [VM_f (by decide)]; exact hsp)]
  refine v_iconst h (v := 1) dX10_body_11 (q := 12) rfl (by decide) ?_
  refine v_callV h (As := [.int (nI d), .int 1]) (rest := []) (c_X10_boatIs (σ := VM σ q) (b := d) (f := 1) hm hd9 (by decide)) cal_X10_boatIs calV_X10_boatIs m961 ⟨rfl, rfl, by dsimp only; omega, by dsimp only; omega⟩ rfl hm.1.1 hm.1.2 ⟨_, _, rfl⟩ rfl (Nat.le_of_ble_eq_true rfl) dX10_body_12 (q := 15) rfl (kI ?_)
  rw [show ((VM σ q) 1 (13 + 4 * d) : Int32) = m from (by rw [VM_1]; exact hmm)]
  refine v_istore h (i := 5) (ls1 := [(5, .int m), (4, .int n), (0, .ref (b_ad w 0)), (1, .int 3), (2, .int 2), (3, .int x0)]) dX10_body_15 (q := 17) rfl (Nat.le_of_ble_eq_true rfl) rfl ?_
  refine v_iconst h (v := 4) dX10_body_17 (q := 18) rfl (by decide) ?_
  refine v_iload_n h (i := 1) dX10_body_18 (q := 19) rfl rfl 3 rfl ?_
  refine v_imul h dX10_body_19 (q := 20) rfl ?_
  refine v_iload_n h (i := 2) dX10_body_20 (q := 21) rfl rfl 4 rfl ?_
  refine v_iadd h dX10_body_21 (q := 22) rfl ?_
  rw [show ((4 * 3) + 2 : Int32) = 14 from (by decide)]
  refine v_tableIn h (off := 224) (t := 246) dX10_body_22 (by decide) (by decide) rfl (by decide) ?_
  refine v_aload_n h (i := 0) dX10_body_246 (q := 247) rfl rfl 2 rfl ?_
  refine v_bipush h (v := 40) dX10_body_247 (q := 249) rfl (by decide) ?_
  refine v_callV h (As := [.int 40]) (rest := []) ((c_X10_began (q := q) (body := 40) hm hq)) cal_X10_began calV_X10_began m1289 ⟨rfl, rfl, by dsimp only; omega, by dsimp only; omega⟩ rfl hm.1.1 hm.1.2 ⟨_, _, rfl⟩ rfl (Nat.le_of_ble_eq_true rfl) dX10_body_249 (q := 252) rfl (kU ?_)
  refine v_aload_n h (i := 0) dX10_body_252 (q := 253) rfl rfl 2 rfl ?_
  refine v_iconst h (v := 0) dX10_body_253 (q := 254) rfl (by decide) ?_
  refine v_iconst h (v := 2) dX10_body_254 (q := 255) rfl (by decide) ?_
  refine v_iload_n h (i := 3) dX10_body_255 (q := 256) rfl rfl 5 rfl ?_
  refine v_callV h (As := [.int 0, .int 2, .int x0]) (rest := []) ((hVF 0 2 x0 (pushT 40 q) (by decide) (by decide) hok (pushT_le hq))) cal_X10_bodyFrom calV_X10_bodyFrom m1278 ⟨rfl, rfl, by dsimp only; omega, by dsimp only; omega⟩ rfl hm.1.1 hm.1.2 ⟨_, _, rfl⟩ rfl (Nat.le_of_ble_eq_true rfl) dX10_body_256 (q := 259) rfl (kI ?_)
  refine v_ineg h dX10_body_259 (q := 260) rfl ?_
  exact v_iret h dX10_body_260 ⟨by rw [vE_40], by rw [vE_40]⟩

set_option maxHeartbeats 4000000 in
set_option maxRecDepth 100000 in
theorem c_X10_body_50 {w : bw} {σ : bSt} {d K f : Nat} {n m x0 : Int32} {q : bQ} (hm : sModel w) (hd9 : d < 9) (hsp : σ 0 18 = nI d) (hK : σ 1 (12 + 4 * d) = nI K) (hK7 : K < 7) (hn : nI d = n) (hmm : σ 1 (13 + 4 * d) = m) (hVF : VFm w σ K n m f) (hok : okV K (f + 1) 50 = true) (hq : q.1 ≤ 40) : MV yX10_body cX10_body 7 (some .int) (rmm (4 * f + 6) (200 * f + 320)) w [.ref (b_ad w 0), .int 4, .int 1, .int x0] (VM σ q) (pI (vE K n m (f + 1) 50 x0 q).1 (VM σ (vE K n m (f + 1) 50 x0 q).2)) := by
  refine b_met (ls := [(0, .ref (b_ad w 0)), (1, .int 4), (2, .int 1), (3, .int x0)]) (by decide) (Nat.le_of_ble_eq_true rfl) rfl (fun x h => ?_)
  rw [okV_50] at hok
  refine v_aload_n h (i := 0) dX10_body_0 (q := 1) rfl rfl 0 rfl ?_
  refine v_get h (k := 18) (v := .int ((VM σ q) 0 18)) cls10 hm.1.1 hm.1.2 (Nat.le_of_ble_eq_true rfl) m867 rfl dX10_body_1 (q := 4) rfl ?_
  rw [show ((VM σ q) 0 18 : Int32) = n from (by rw [VM_f (by decide)]; exact hsp.trans hn)]
  refine v_istore h (i := 4) (ls1 := [(4, .int n), (0, .ref (b_ad w 0)), (1, .int 4), (2, .int 1), (3, .int x0)]) dX10_body_4 (q := 6) rfl (Nat.le_of_ble_eq_true rfl) rfl ?_
  refine v_aload_n h (i := 0) dX10_body_6 (q := 7) rfl rfl 1 rfl ?_
  refine v_aload_n h (i := 0) dX10_body_7 (q := 8) rfl rfl 1 rfl ?_
  refine v_get h (k := 18) (v := .int ((VM σ q) 0 18)) cls10 hm.1.1 hm.1.2 (Nat.le_of_ble_eq_true rfl) m867 rfl dX10_body_8 (q := 11) rfl ?_
  rw [show ((VM σ q) 0 18 : Int32) = nI d from (by rw [VM_f (by decide)]; exact hsp)]
  refine v_iconst h (v := 1) dX10_body_11 (q := 12) rfl (by decide) ?_
  refine v_callV h (As := [.int (nI d), .int 1]) (rest := []) (c_X10_boatIs (σ := VM σ q) (b := d) (f := 1) hm hd9 (by decide)) cal_X10_boatIs calV_X10_boatIs m961 ⟨rfl, rfl, by dsimp only; omega, by dsimp only; omega⟩ rfl hm.1.1 hm.1.2 ⟨_, _, rfl⟩ rfl (Nat.le_of_ble_eq_true rfl) dX10_body_12 (q := 15) rfl (kI ?_)
  rw [show ((VM σ q) 1 (13 + 4 * d) : Int32) = m from (by rw [VM_1]; exact hmm)]
  refine v_istore h (i := 5) (ls1 := [(5, .int m), (4, .int n), (0, .ref (b_ad w 0)), (1, .int 4), (2, .int 1), (3, .int x0)]) dX10_body_15 (q := 17) rfl (Nat.le_of_ble_eq_true rfl) rfl ?_
  refine v_iconst h (v := 4) dX10_body_17 (q := 18) rfl (by decide) ?_
  refine v_iload_n h (i := 1) dX10_body_18 (q := 19) rfl rfl 3 rfl ?_
  refine v_imul h dX10_body_19 (q := 20) rfl ?_
  refine v_iload_n h (i := 2) dX10_body_20 (q := 21) rfl rfl 4 rfl ?_
  refine v_iadd h dX10_body_21 (q := 22) rfl ?_
  rw [show ((4 * 4) + 1 : Int32) = 17 from (by decide)]
  refine v_tableIn h (off := 239) (t := 261) dX10_body_22 (by decide) (by decide) rfl (by decide) ?_
  refine v_aload_n h (i := 0) dX10_body_261 (q := 262) rfl rfl 2 rfl ?_
  refine v_bipush h (v := 50) dX10_body_262 (q := 264) rfl (by decide) ?_
  refine v_callV h (As := [.int 50]) (rest := []) ((c_X10_began (q := q) (body := 50) hm hq)) cal_X10_began calV_X10_began m1289 ⟨rfl, rfl, by dsimp only; omega, by dsimp only; omega⟩ rfl hm.1.1 hm.1.2 ⟨_, _, rfl⟩ rfl (Nat.le_of_ble_eq_true rfl) dX10_body_264 (q := 267) rfl (kU ?_)
  refine v_aload_n h (i := 0) dX10_body_267 (q := 268) rfl rfl 2 rfl ?_
  refine v_iconst h (v := 1) dX10_body_268 (q := 269) rfl (by decide) ?_
  refine v_iconst h (v := 1) dX10_body_269 (q := 270) rfl (by decide) ?_
  refine v_iload_n h (i := 3) dX10_body_270 (q := 271) rfl rfl 5 rfl ?_
  refine v_iconst h (v := 1) dX10_body_271 (q := 272) rfl (by decide) ?_
  refine v_iadd h dX10_body_272 (q := 273) rfl ?_
  refine v_callV h (As := [.int 1, .int 1, .int (x0 + 1)]) (rest := []) ((hVF 1 1 (x0 + 1) (pushT 50 q) (by decide) (by decide) hok (pushT_le hq))) cal_X10_bodyFrom calV_X10_bodyFrom m1278 ⟨rfl, rfl, by dsimp only; omega, by dsimp only; omega⟩ rfl hm.1.1 hm.1.2 ⟨_, _, rfl⟩ rfl (Nat.le_of_ble_eq_true rfl) dX10_body_273 (q := 276) rfl (kI ?_)
  exact v_iret h dX10_body_276 ⟨by rw [vE_50], by rw [vE_50]⟩

set_option maxHeartbeats 4000000 in
set_option maxRecDepth 100000 in
theorem c_X10_body_60 {w : bw} {σ : bSt} {d K f : Nat} {n m x0 : Int32} {q : bQ} (hm : sModel w) (hd9 : d < 9) (hsp : σ 0 18 = nI d) (hK : σ 1 (12 + 4 * d) = nI K) (hK7 : K < 7) (hn : nI d = n) (hmm : σ 1 (13 + 4 * d) = m) (hVF : VFm w σ K n m f) (hok : okV K (f + 1) 60 = true) (hq : q.1 ≤ 40) : MV yX10_body cX10_body 7 (some .int) (rmm (4 * f + 6) (200 * f + 320)) w [.ref (b_ad w 0), .int 5, .int 3, .int x0] (VM σ q) (pI (vE K n m (f + 1) 60 x0 q).1 (VM σ (vE K n m (f + 1) 60 x0 q).2)) := by
  refine b_met (ls := [(0, .ref (b_ad w 0)), (1, .int 5), (2, .int 3), (3, .int x0)]) (by decide) (Nat.le_of_ble_eq_true rfl) rfl (fun x h => ?_)
  rw [okV_60, Bool.and_eq_true] at hok
  refine v_aload_n h (i := 0) dX10_body_0 (q := 1) rfl rfl 0 rfl ?_
  refine v_get h (k := 18) (v := .int ((VM σ q) 0 18)) cls10 hm.1.1 hm.1.2 (Nat.le_of_ble_eq_true rfl) m867 rfl dX10_body_1 (q := 4) rfl ?_
  rw [show ((VM σ q) 0 18 : Int32) = n from (by rw [VM_f (by decide)]; exact hsp.trans hn)]
  refine v_istore h (i := 4) (ls1 := [(4, .int n), (0, .ref (b_ad w 0)), (1, .int 5), (2, .int 3), (3, .int x0)]) dX10_body_4 (q := 6) rfl (Nat.le_of_ble_eq_true rfl) rfl ?_
  refine v_aload_n h (i := 0) dX10_body_6 (q := 7) rfl rfl 1 rfl ?_
  refine v_aload_n h (i := 0) dX10_body_7 (q := 8) rfl rfl 1 rfl ?_
  refine v_get h (k := 18) (v := .int ((VM σ q) 0 18)) cls10 hm.1.1 hm.1.2 (Nat.le_of_ble_eq_true rfl) m867 rfl dX10_body_8 (q := 11) rfl ?_
  rw [show ((VM σ q) 0 18 : Int32) = nI d from (by rw [VM_f (by decide)]; exact hsp)]
  refine v_iconst h (v := 1) dX10_body_11 (q := 12) rfl (by decide) ?_
  refine v_callV h (As := [.int (nI d), .int 1]) (rest := []) (c_X10_boatIs (σ := VM σ q) (b := d) (f := 1) hm hd9 (by decide)) cal_X10_boatIs calV_X10_boatIs m961 ⟨rfl, rfl, by dsimp only; omega, by dsimp only; omega⟩ rfl hm.1.1 hm.1.2 ⟨_, _, rfl⟩ rfl (Nat.le_of_ble_eq_true rfl) dX10_body_12 (q := 15) rfl (kI ?_)
  rw [show ((VM σ q) 1 (13 + 4 * d) : Int32) = m from (by rw [VM_1]; exact hmm)]
  refine v_istore h (i := 5) (ls1 := [(5, .int m), (4, .int n), (0, .ref (b_ad w 0)), (1, .int 5), (2, .int 3), (3, .int x0)]) dX10_body_15 (q := 17) rfl (Nat.le_of_ble_eq_true rfl) rfl ?_
  refine v_iconst h (v := 4) dX10_body_17 (q := 18) rfl (by decide) ?_
  refine v_iload_n h (i := 1) dX10_body_18 (q := 19) rfl rfl 3 rfl ?_
  refine v_imul h dX10_body_19 (q := 20) rfl ?_
  refine v_iload_n h (i := 2) dX10_body_20 (q := 21) rfl rfl 4 rfl ?_
  refine v_iadd h dX10_body_21 (q := 22) rfl ?_
  rw [show ((4 * 5) + 3 : Int32) = 23 from (by decide)]
  refine v_tableIn h (off := 255) (t := 277) dX10_body_22 (by decide) (by decide) rfl (by decide) ?_
  refine v_aload_n h (i := 0) dX10_body_277 (q := 278) rfl rfl 2 rfl ?_
  refine v_bipush h (v := 60) dX10_body_278 (q := 280) rfl (by decide) ?_
  refine v_callV h (As := [.int 60]) (rest := []) ((c_X10_began (q := q) (body := 60) hm hq)) cal_X10_began calV_X10_began m1289 ⟨rfl, rfl, by dsimp only; omega, by dsimp only; omega⟩ rfl hm.1.1 hm.1.2 ⟨_, _, rfl⟩ rfl (Nat.le_of_ble_eq_true rfl) dX10_body_280 (q := 283) rfl (kU ?_)
  refine v_aload_n h (i := 0) dX10_body_283 (q := 284) rfl rfl 2 rfl ?_
  refine v_iconst h (v := 2) dX10_body_284 (q := 285) rfl (by decide) ?_
  refine v_iconst h (v := 3) dX10_body_285 (q := 286) rfl (by decide) ?_
  refine v_iload_n h (i := 3) dX10_body_286 (q := 287) rfl rfl 5 rfl ?_
  refine v_callV h (As := [.int 2, .int 3, .int x0]) (rest := []) ((hVF 2 3 x0 (pushT 60 q) (by decide) (by decide) hok.1 (pushT_le hq))) cal_X10_bodyFrom calV_X10_bodyFrom m1278 ⟨rfl, rfl, by dsimp only; omega, by dsimp only; omega⟩ rfl hm.1.1 hm.1.2 ⟨_, _, rfl⟩ rfl (Nat.le_of_ble_eq_true rfl) dX10_body_287 (q := 290) rfl (kI ?_)
  refine v_istore h (i := 6) (ls1 := [(6, .int ((vE K n m f (bdN 2 3) x0 (pushT 60 q)).1)), (5, .int m), (4, .int n), (0, .ref (b_ad w 0)), (1, .int 5), (2, .int 3), (3, .int x0)]) dX10_body_290 (q := 292) rfl (Nat.le_of_ble_eq_true rfl) rfl ?_
  refine v_iload h (i := 6) dX10_body_292 (q := 294) rfl 0 rfl ?_
  refine v_aload_n h (i := 0) dX10_body_294 (q := 295) rfl rfl 3 rfl ?_
  refine v_iconst h (v := 0) dX10_body_295 (q := 296) rfl (by decide) ?_
  refine v_iconst h (v := 2) dX10_body_296 (q := 297) rfl (by decide) ?_
  refine v_callV h (As := [.int 0, .int 2]) (rest := [.int ((vE K n m f (bdN 2 3) x0 (pushT 60 q)).1)]) ((c_X10_voiced (d := d) (a := 0) (x0 := 2) (q := (vE K n m f (bdN 2 3) x0 (pushT 60 q)).2) hm hd9 hsp hK hK7 hn hmm hVF (by decide) hok.2 (vE_le _ _ _ _ _ _ _ (pushT_le hq)))) cal_X10_voiced calV_X10_voiced m1274 ⟨rfl, rfl, by dsimp only; omega, by dsimp only; omega⟩ rfl hm.1.1 hm.1.2 ⟨_, _, rfl⟩ rfl (Nat.le_of_ble_eq_true rfl) dX10_body_297 (q := 300) rfl (kI ?_)
  refine v_isub h dX10_body_300 (q := 301) rfl ?_
  exact v_iret h dX10_body_301 ⟨by rw [vE_60], by rw [vE_60]⟩

set_option maxHeartbeats 4000000 in
set_option maxRecDepth 100000 in
theorem c_X10_body_70 {w : bw} {σ : bSt} {d K f : Nat} {n m x0 : Int32} {q : bQ} (hm : sModel w) (hd9 : d < 9) (hsp : σ 0 18 = nI d) (hK : σ 1 (12 + 4 * d) = nI K) (hK7 : K < 7) (hn : nI d = n) (hmm : σ 1 (13 + 4 * d) = m) (hVF : VFm w σ K n m f) (hok : okV K (f + 1) 70 = true) (hq : q.1 ≤ 40) : MV yX10_body cX10_body 7 (some .int) (rmm (4 * f + 6) (200 * f + 320)) w [.ref (b_ad w 0), .int 6, .int 2, .int x0] (VM σ q) (pI (vE K n m (f + 1) 70 x0 q).1 (VM σ (vE K n m (f + 1) 70 x0 q).2)) := by
  refine b_met (ls := [(0, .ref (b_ad w 0)), (1, .int 6), (2, .int 2), (3, .int x0)]) (by decide) (Nat.le_of_ble_eq_true rfl) rfl (fun x h => ?_)
  rw [okV_70] at hok
  refine v_aload_n h (i := 0) dX10_body_0 (q := 1) rfl rfl 0 rfl ?_
  refine v_get h (k := 18) (v := .int ((VM σ q) 0 18)) cls10 hm.1.1 hm.1.2 (Nat.le_of_ble_eq_true rfl) m867 rfl dX10_body_1 (q := 4) rfl ?_
  rw [show ((VM σ q) 0 18 : Int32) = n from (by rw [VM_f (by decide)]; exact hsp.trans hn)]
  refine v_istore h (i := 4) (ls1 := [(4, .int n), (0, .ref (b_ad w 0)), (1, .int 6), (2, .int 2), (3, .int x0)]) dX10_body_4 (q := 6) rfl (Nat.le_of_ble_eq_true rfl) rfl ?_
  refine v_aload_n h (i := 0) dX10_body_6 (q := 7) rfl rfl 1 rfl ?_
  refine v_aload_n h (i := 0) dX10_body_7 (q := 8) rfl rfl 1 rfl ?_
  refine v_get h (k := 18) (v := .int ((VM σ q) 0 18)) cls10 hm.1.1 hm.1.2 (Nat.le_of_ble_eq_true rfl) m867 rfl dX10_body_8 (q := 11) rfl ?_
  rw [show ((VM σ q) 0 18 : Int32) = nI d from (by rw [VM_f (by decide)]; exact hsp)]
  refine v_iconst h (v := 1) dX10_body_11 (q := 12) rfl (by decide) ?_
  refine v_callV h (As := [.int (nI d), .int 1]) (rest := []) (c_X10_boatIs (σ := VM σ q) (b := d) (f := 1) hm hd9 (by decide)) cal_X10_boatIs calV_X10_boatIs m961 ⟨rfl, rfl, by dsimp only; omega, by dsimp only; omega⟩ rfl hm.1.1 hm.1.2 ⟨_, _, rfl⟩ rfl (Nat.le_of_ble_eq_true rfl) dX10_body_12 (q := 15) rfl (kI ?_)
  rw [show ((VM σ q) 1 (13 + 4 * d) : Int32) = m from (by rw [VM_1]; exact hmm)]
  refine v_istore h (i := 5) (ls1 := [(5, .int m), (4, .int n), (0, .ref (b_ad w 0)), (1, .int 6), (2, .int 2), (3, .int x0)]) dX10_body_15 (q := 17) rfl (Nat.le_of_ble_eq_true rfl) rfl ?_
  refine v_iconst h (v := 4) dX10_body_17 (q := 18) rfl (by decide) ?_
  refine v_iload_n h (i := 1) dX10_body_18 (q := 19) rfl rfl 3 rfl ?_
  refine v_imul h dX10_body_19 (q := 20) rfl ?_
  refine v_iload_n h (i := 2) dX10_body_20 (q := 21) rfl rfl 4 rfl ?_
  refine v_iadd h dX10_body_21 (q := 22) rfl ?_
  rw [show ((4 * 6) + 2 : Int32) = 26 from (by decide)]
  refine v_tableIn h (off := 280) (t := 302) dX10_body_22 (by decide) (by decide) rfl (by decide) ?_
  refine v_aload_n h (i := 0) dX10_body_302 (q := 303) rfl rfl 2 rfl ?_
  refine v_bipush h (v := 70) dX10_body_303 (q := 305) rfl (by decide) ?_
  refine v_callV h (As := [.int 70]) (rest := []) ((c_X10_began (q := q) (body := 70) hm hq)) cal_X10_began calV_X10_began m1289 ⟨rfl, rfl, by dsimp only; omega, by dsimp only; omega⟩ rfl hm.1.1 hm.1.2 ⟨_, _, rfl⟩ rfl (Nat.le_of_ble_eq_true rfl) dX10_body_305 (q := 308) rfl (kU ?_)
  refine v_aload_n h (i := 0) dX10_body_308 (q := 309) rfl rfl 2 rfl ?_
  refine v_iconst h (v := 3) dX10_body_309 (q := 310) rfl (by decide) ?_
  refine v_iconst h (v := 2) dX10_body_310 (q := 311) rfl (by decide) ?_
  refine v_iload_n h (i := 3) dX10_body_311 (q := 312) rfl rfl 5 rfl ?_
  refine v_callV h (As := [.int 3, .int 2, .int x0]) (rest := []) ((hVF 3 2 x0 (pushT 70 q) (by decide) (by decide) hok (pushT_le hq))) cal_X10_bodyFrom calV_X10_bodyFrom m1278 ⟨rfl, rfl, by dsimp only; omega, by dsimp only; omega⟩ rfl hm.1.1 hm.1.2 ⟨_, _, rfl⟩ rfl (Nat.le_of_ble_eq_true rfl) dX10_body_312 (q := 315) rfl (kI ?_)
  refine v_iload h (i := 4) dX10_body_315 (q := 317) rfl 1 rfl ?_
  refine v_ixor h dX10_body_317 (q := 318) rfl ?_
  exact v_iret h dX10_body_318 ⟨by rw [vE_70], by rw [vE_70]⟩

set_option maxHeartbeats 4000000 in
set_option maxRecDepth 100000 in
theorem c_X10_body_71 {w : bw} {σ : bSt} {d K f : Nat} {n m x0 : Int32} {q : bQ} (hm : sModel w) (hd9 : d < 9) (hsp : σ 0 18 = nI d) (hK : σ 1 (12 + 4 * d) = nI K) (hK7 : K < 7) (hn : nI d = n) (hmm : σ 1 (13 + 4 * d) = m) (hVF : VFm w σ K n m f) (hok : okV K (f + 1) 71 = true) (hq : q.1 ≤ 40) : MV yX10_body cX10_body 7 (some .int) (rmm (4 * f + 6) (200 * f + 320)) w [.ref (b_ad w 0), .int 6, .int 3, .int x0] (VM σ q) (pI (vE K n m (f + 1) 71 x0 q).1 (VM σ (vE K n m (f + 1) 71 x0 q).2)) := by
  refine b_met (ls := [(0, .ref (b_ad w 0)), (1, .int 6), (2, .int 3), (3, .int x0)]) (by decide) (Nat.le_of_ble_eq_true rfl) rfl (fun x h => ?_)
  rw [okV_71, Bool.and_eq_true] at hok
  refine v_aload_n h (i := 0) dX10_body_0 (q := 1) rfl rfl 0 rfl ?_
  refine v_get h (k := 18) (v := .int ((VM σ q) 0 18)) cls10 hm.1.1 hm.1.2 (Nat.le_of_ble_eq_true rfl) m867 rfl dX10_body_1 (q := 4) rfl ?_
  rw [show ((VM σ q) 0 18 : Int32) = n from (by rw [VM_f (by decide)]; exact hsp.trans hn)]
  refine v_istore h (i := 4) (ls1 := [(4, .int n), (0, .ref (b_ad w 0)), (1, .int 6), (2, .int 3), (3, .int x0)]) dX10_body_4 (q := 6) rfl (Nat.le_of_ble_eq_true rfl) rfl ?_
  refine v_aload_n h (i := 0) dX10_body_6 (q := 7) rfl rfl 1 rfl ?_
  refine v_aload_n h (i := 0) dX10_body_7 (q := 8) rfl rfl 1 rfl ?_
  refine v_get h (k := 18) (v := .int ((VM σ q) 0 18)) cls10 hm.1.1 hm.1.2 (Nat.le_of_ble_eq_true rfl) m867 rfl dX10_body_8 (q := 11) rfl ?_
  rw [show ((VM σ q) 0 18 : Int32) = nI d from (by rw [VM_f (by decide)]; exact hsp)]
  refine v_iconst h (v := 1) dX10_body_11 (q := 12) rfl (by decide) ?_
  refine v_callV h (As := [.int (nI d), .int 1]) (rest := []) (c_X10_boatIs (σ := VM σ q) (b := d) (f := 1) hm hd9 (by decide)) cal_X10_boatIs calV_X10_boatIs m961 ⟨rfl, rfl, by dsimp only; omega, by dsimp only; omega⟩ rfl hm.1.1 hm.1.2 ⟨_, _, rfl⟩ rfl (Nat.le_of_ble_eq_true rfl) dX10_body_12 (q := 15) rfl (kI ?_)
  rw [show ((VM σ q) 1 (13 + 4 * d) : Int32) = m from (by rw [VM_1]; exact hmm)]
  refine v_istore h (i := 5) (ls1 := [(5, .int m), (4, .int n), (0, .ref (b_ad w 0)), (1, .int 6), (2, .int 3), (3, .int x0)]) dX10_body_15 (q := 17) rfl (Nat.le_of_ble_eq_true rfl) rfl ?_
  refine v_iconst h (v := 4) dX10_body_17 (q := 18) rfl (by decide) ?_
  refine v_iload_n h (i := 1) dX10_body_18 (q := 19) rfl rfl 3 rfl ?_
  refine v_imul h dX10_body_19 (q := 20) rfl ?_
  refine v_iload_n h (i := 2) dX10_body_20 (q := 21) rfl rfl 4 rfl ?_
  refine v_iadd h dX10_body_21 (q := 22) rfl ?_
  rw [show ((4 * 6) + 3 : Int32) = 27 from (by decide)]
  refine v_tableOut h (t := 319) dX10_body_22 (by decide) (by decide) ?_
  refine v_aload_n h (i := 0) dX10_body_319 (q := 320) rfl rfl 2 rfl ?_
  refine v_bipush h (v := 71) dX10_body_320 (q := 322) rfl (by decide) ?_
  refine v_callV h (As := [.int 71]) (rest := []) ((c_X10_began (q := q) (body := 71) hm hq)) cal_X10_began calV_X10_began m1289 ⟨rfl, rfl, by dsimp only; omega, by dsimp only; omega⟩ rfl hm.1.1 hm.1.2 ⟨_, _, rfl⟩ rfl (Nat.le_of_ble_eq_true rfl) dX10_body_322 (q := 325) rfl (kU ?_)
  refine v_aload_n h (i := 0) dX10_body_325 (q := 326) rfl rfl 2 rfl ?_
  refine v_iconst h (v := 1) dX10_body_326 (q := 327) rfl (by decide) ?_
  refine v_iload_n h (i := 3) dX10_body_327 (q := 328) rfl rfl 5 rfl ?_
  refine v_callV h (As := [.int 1, .int x0]) (rest := []) ((c_X10_voiced (d := d) (a := 1) (x0 := x0) (q := pushT 71 q) hm hd9 hsp hK hK7 hn hmm hVF (by decide) hok.1 (pushT_le hq))) cal_X10_voiced calV_X10_voiced m1274 ⟨rfl, rfl, by dsimp only; omega, by dsimp only; omega⟩ rfl hm.1.1 hm.1.2 ⟨_, _, rfl⟩ rfl (Nat.le_of_ble_eq_true rfl) dX10_body_328 (q := 331) rfl (kI ?_)
  refine v_istore h (i := 6) (ls1 := [(6, .int ((vE K n m f (bdN K 1) x0 (pushT 71 q)).1)), (5, .int m), (4, .int n), (0, .ref (b_ad w 0)), (1, .int 6), (2, .int 3), (3, .int x0)]) dX10_body_331 (q := 333) rfl (Nat.le_of_ble_eq_true rfl) rfl ?_
  refine v_iload h (i := 6) dX10_body_333 (q := 335) rfl 0 rfl ?_
  refine v_aload_n h (i := 0) dX10_body_335 (q := 336) rfl rfl 3 rfl ?_
  refine v_iconst h (v := 3) dX10_body_336 (q := 337) rfl (by decide) ?_
  refine v_iconst h (v := 3) dX10_body_337 (q := 338) rfl (by decide) ?_
  refine v_iload_n h (i := 3) dX10_body_338 (q := 339) rfl rfl 6 rfl ?_
  refine v_callV h (As := [.int 3, .int 3, .int x0]) (rest := [.int ((vE K n m f (bdN K 1) x0 (pushT 71 q)).1)]) ((hVF 3 3 x0 ((vE K n m f (bdN K 1) x0 (pushT 71 q)).2) (by decide) (by decide) hok.2 (vE_le _ _ _ _ _ _ _ (pushT_le hq)))) cal_X10_bodyFrom calV_X10_bodyFrom m1278 ⟨rfl, rfl, by dsimp only; omega, by dsimp only; omega⟩ rfl hm.1.1 hm.1.2 ⟨_, _, rfl⟩ rfl (Nat.le_of_ble_eq_true rfl) dX10_body_339 (q := 342) rfl (kI ?_)
  refine v_isub h dX10_body_342 (q := 343) rfl ?_
  exact v_iret h dX10_body_343 ⟨by rw [vE_71], by rw [vE_71]⟩

theorem c_body {w : bw} {σ : bSt} {d K k a f : Nat} {n m x0 : Int32} {q : bQ} (hm : sModel w) (hd9 : d < 9) (hsp : σ 0 18 = nI d) (hK : σ 1 (12 + 4 * d) = nI K) (hK7 : K < 7) (hn : nI d = n) (hmm : σ 1 (13 + 4 * d) = m) (hVF : VFm w σ K n m f) (hk : k < 7) (ha : a < 4) (how : owB k a = true) {B : Nat} (hB : bdN k a = B) (hok : okV K (f + 1) B = true) (hq : q.1 ≤ 40) :
  MV yX10_body cX10_body 7 (some .int) (rmm (4 * f + 6) (200 * f + 320)) w [.ref (b_ad w 0), .int (nI k), .int (nI a), .int x0] (VM σ q) (pI (vE K n m (f + 1) B x0 q).1 (VM σ (vE K n m (f + 1) B x0 q).2)) := by
  subst hB
  have hset : (k = 0 ∧ a = 0) ∨ (k = 0 ∧ a = 1) ∨ (k = 0 ∧ a = 2) ∨ (k = 0 ∧ a = 3) ∨ (k = 1 ∧ a = 1) ∨ (k = 2 ∧ a = 0) ∨ (k = 3 ∧ a = 2) ∨ (k = 4 ∧ a = 1) ∨ (k = 5 ∧ a = 3) ∨ (k = 6 ∧ a = 2) ∨ (k = 6 ∧ a = 3) := by
    have := ow_set k hk a ha how
    omega
  rcases hset with ⟨rfl, rfl⟩ | ⟨rfl, rfl⟩ | ⟨rfl, rfl⟩ | ⟨rfl, rfl⟩ | ⟨rfl, rfl⟩ | ⟨rfl, rfl⟩ | ⟨rfl, rfl⟩ | ⟨rfl, rfl⟩ | ⟨rfl, rfl⟩ | ⟨rfl, rfl⟩ | ⟨rfl, rfl⟩
  · rw [show bdN 0 0 = 10 from by decide +kernel] at hok ⊢
    exact c_X10_body_10 hm hd9 hsp hK hK7 hn hmm hVF hok hq
  · rw [show bdN 0 1 = 11 from by decide +kernel] at hok ⊢
    exact c_X10_body_11 hm hd9 hsp hK hK7 hn hmm hVF hok hq
  · rw [show bdN 0 2 = 12 from by decide +kernel] at hok ⊢
    exact c_X10_body_12 hm hd9 hsp hK hK7 hn hmm hVF hok hq
  · rw [show bdN 0 3 = 13 from by decide +kernel] at hok ⊢
    exact c_X10_body_13 hm hd9 hsp hK hK7 hn hmm hVF hok hq
  · rw [show bdN 1 1 = 20 from by decide +kernel] at hok ⊢
    exact c_X10_body_20 hm hd9 hsp hK hK7 hn hmm hVF hok hq
  · rw [show bdN 2 0 = 30 from by decide +kernel] at hok ⊢
    exact c_X10_body_30 hm hd9 hsp hK hK7 hn hmm hVF hok hq
  · rw [show bdN 3 2 = 40 from by decide +kernel] at hok ⊢
    exact c_X10_body_40 hm hd9 hsp hK hK7 hn hmm hVF hok hq
  · rw [show bdN 4 1 = 50 from by decide +kernel] at hok ⊢
    exact c_X10_body_50 hm hd9 hsp hK hK7 hn hmm hVF hok hq
  · rw [show bdN 5 3 = 60 from by decide +kernel] at hok ⊢
    exact c_X10_body_60 hm hd9 hsp hK hK7 hn hmm hVF hok hq
  · rw [show bdN 6 2 = 70 from by decide +kernel] at hok ⊢
    exact c_X10_body_70 hm hd9 hsp hK hK7 hn hmm hVF hok hq
  · rw [show bdN 6 3 = 71 from by decide +kernel] at hok ⊢
    exact c_X10_body_71 hm hd9 hsp hK hK7 hn hmm hVF hok hq

set_option maxHeartbeats 4000000 in
set_option maxRecDepth 100000 in
theorem lX10_bodyFrom_3 {w : bw} {σ : bSt} {d K k a f : Nat} {n m x0 : Int32} {q : bQ} (hm : sModel w) (hd9 : d < 9) (hsp : σ 0 18 = nI d) (hK : σ 1 (12 + 4 * d) = nI K) (hK7 : K < 7) (hn : nI d = n) (hmm : σ 1 (13 + 4 * d) = m) (hVF : VFm w σ K n m f) (hk : k < 7) (ha : a < 4) (hok : okV K (f + 1) (bdN k a) = true) (hq : q.1 ≤ 40) {x : bX} (h : Cx x w cX10_bodyFrom RX10 5 (some .int) (rmm (4 * f + 8) (200 * f + 400))) : ∀ M j : Nat, j = M → j < 7 → bdN j a = bdN k a → V x w 5 (pI (vE K n m (f + 1) (bdN k a) x0 q).1 (VM σ (vE K n m (f + 1) (bdN k a) x0 q).2)) 3 [(4, .int (nI j)), (0, .ref (b_ad w 0)), (2, .int (nI a)), (3, .int x0)] [] ((VM σ q)) := by
  refine b_ind (fun M ih => ?_)
  intro j hjM hj hbd
  refine v_iload h (i := 4) dX10_bodyFrom_3 (q := 5) rfl 0 rfl ?_
  refine v_iload_n h (i := 2) dX10_bodyFrom_5 (q := 6) rfl rfl 2 rfl ?_
  refine v_callS h (As := [.int (nI j), .int (nI a)]) (rest := []) (c_X10_hasOwn (k := nI j) (a := nI a)) cal_X10_hasOwn m1283 m1282 ⟨rfl, rfl, by dsimp only; omega, by dsimp only; omega⟩ rfl rfl (Nat.le_of_ble_eq_true rfl) dX10_bodyFrom_6 (q := 9) rfl (kB (fun c6 => ?_) (fun c6 => ?_))
  · refine v_if_ne h (t := 22) dX10_bodyFrom_9 (by decide) (q := 12) rfl (fun _ => ?_) (fun c => absurd c (by decide))
    have how : owB j a = true := (ho_tab j hj a ha).mp c6
    refine v_aload_n h (i := 0) dX10_bodyFrom_22 (q := 23) rfl rfl 1 rfl ?_
    refine v_iload h (i := 4) dX10_bodyFrom_23 (q := 25) rfl 0 rfl ?_
    refine v_iload_n h (i := 2) dX10_bodyFrom_25 (q := 26) rfl rfl 2 rfl ?_
    refine v_iload_n h (i := 3) dX10_bodyFrom_26 (q := 27) rfl rfl 3 rfl ?_
    refine v_callV h (As := [.int (nI j), .int (nI a), .int x0]) (rest := []) ((c_body (d := d) (k := j) (a := a) (x0 := x0) (q := q) hm hd9 hsp hK hK7 hn hmm hVF hj ha how hbd hok hq)) cal_X10_body calV_X10_body m1285 ⟨rfl, rfl, by dsimp only; omega, by dsimp only; omega⟩ rfl hm.1.1 hm.1.2 ⟨_, _, rfl⟩ rfl (Nat.le_of_ble_eq_true rfl) dX10_bodyFrom_27 (q := 30) rfl (kI ?_)
    exact v_iret h dX10_bodyFrom_30 ⟨rfl, rfl⟩
  · refine v_if_ne h (t := 22) dX10_bodyFrom_9 (by decide) (q := 12) rfl (fun c => absurd (by decide) c) (fun _ => ?_)
    have how : ¬ owB j a = true := fun z => c6 ((ho_tab j hj a ha).mpr z)
    refine v_iload h (i := 4) dX10_bodyFrom_12 (q := 14) rfl 0 rfl ?_
    refine v_callS h (As := [.int (nI j)]) (rest := []) (c_X10_above (k := nI j)) cal_X10_above m982 m981 ⟨rfl, rfl, by dsimp only; omega, by dsimp only; omega⟩ rfl rfl (Nat.le_of_ble_eq_true rfl) dX10_bodyFrom_14 (q := 17) rfl (kI ?_)
    refine v_istore h (i := 4) (ls1 := [(4, .int (abM (nI j))), (0, .ref (b_ad w 0)), (2, .int (nI a)), (3, .int x0)]) dX10_bodyFrom_17 (q := 19) rfl (Nat.le_of_ble_eq_true rfl) rfl ?_
    refine v_goto h (t := 3) dX10_bodyFrom_19 (by decide) ?_
    rw [(ow_up j hj a ha how).1]
    exact ih (abK j) (by rw [← hjM]; exact (ow_up j hj a ha how).2.1) (abK j) rfl (by have := (ow_up j hj a ha how).2.1; omega) ((ow_up j hj a ha how).2.2.trans hbd)
set_option maxHeartbeats 4000000 in
set_option maxRecDepth 100000 in
theorem c_X10_bodyFrom {w : bw} {σ : bSt} {d K k a f : Nat} {n m x0 : Int32} {q : bQ} (hm : sModel w) (hd9 : d < 9) (hsp : σ 0 18 = nI d) (hK : σ 1 (12 + 4 * d) = nI K) (hK7 : K < 7) (hn : nI d = n) (hmm : σ 1 (13 + 4 * d) = m) (hVF : VFm w σ K n m f) (hk : k < 7) (ha : a < 4) (hok : okV K (f + 1) (bdN k a) = true) (hq : q.1 ≤ 40) : MV yX10_bodyFrom cX10_bodyFrom 5 (some .int) (rmm (4 * f + 8) (200 * f + 400)) w [.ref (b_ad w 0), .int (nI k), .int (nI a), .int x0] (VM σ q) (pI (vE K n m (f + 1) (bdN k a) x0 q).1 (VM σ (vE K n m (f + 1) (bdN k a) x0 q).2)) := by
  refine b_met (ls := [(0, .ref (b_ad w 0)), (1, .int (nI k)), (2, .int (nI a)), (3, .int x0)]) (by decide) (Nat.le_of_ble_eq_true rfl) rfl (fun x h => ?_)
  refine v_iload_n h (i := 1) dX10_bodyFrom_0 (q := 1) rfl rfl 1 rfl ?_
  refine v_istore h (i := 4) (ls1 := [(4, .int (nI k)), (0, .ref (b_ad w 0)), (1, .int (nI k)), (2, .int (nI a)), (3, .int x0)]) dX10_bodyFrom_1 (q := 3) rfl (Nat.le_of_ble_eq_true rfl) rfl ?_
  refine v_ls [0, 1, 3, 4] (ls2 := [(4, .int (nI k)), (0, .ref (b_ad w 0)), (2, .int (nI a)), (3, .int x0)]) rfl ?_
  exact lX10_bodyFrom_3 hm hd9 hsp hK hK7 hn hmm hVF hk ha hok hq h k k rfl hk rfl

theorem VFm_all {w : bw} {σ : bSt} {d K : Nat} {n m : Int32} (hm : sModel w) (hd9 : d < 9) (hsp : σ 0 18 = nI d) (hK : σ 1 (12 + 4 * d) = nI K) (hK7 : K < 7) (hn : nI d = n) (hmm : σ 1 (13 + 4 * d) = m) : ∀ f, VFm w σ K n m f
  | 0 => fun k a x q _ _ hok => absurd hok (by simp [okV])
  | f + 1 => fun k a x q hk ha hok hq => c_X10_bodyFrom hm hd9 hsp hK hK7 hn hmm (VFm_all hm hd9 hsp hK hK7 hn hmm f) hk ha hok hq

theorem voice_st {σ : bSt} {v : Int32} : b_up (b_up σ 0 17 0) 0 18 v = VM (b_up σ 0 18 v) (0, σ 11) := by
  unfold VM
  funext j
  by_cases c : j = 0
  · subst c
    rw [b_up_s, b_up_s, b_up_s, b_set_n (by decide), b_up_s]
    funext i
    unfold upd
    by_cases e : i = 18
    · subst e; rfl
    · by_cases e7 : i = 17
      · subst e7; rfl
      · rw [if_neg e, if_neg e7, if_neg e7, if_neg e]
  · by_cases c1 : j = 11
    · subst c1
      rw [b_up_n c, b_up_n c, b_up_n c, b_set_s]
    · rw [b_up_n c, b_up_n c, b_up_n c, b_set_n c1, b_up_n c]
theorem RQ.voice {σ : bSt} {A : bA} {K a : Nat} {n m v x : Int32} (h : RQ σ A) : (vE K n m 8 a v (0, σ 11)).1 = (vE K n m 8 a v (0, A.2.2.2.2.1.2)).1 ∧ RQ (VM (b_up σ 0 18 x) (vE K n m 8 a v (0, σ 11)).2) (A.1, A.2.1, A.2.2.1, A.2.2.2.1, (vE K n m 8 a v (0, A.2.2.2.2.1.2)).2, A.2.2.2.2.2) := by
  have hq := vE_qe K n m 8 a v (0, σ 11) (0, A.2.2.2.2.1.2) ⟨rfl, fun k hk => h.tr.2.2 k hk⟩
  have hle := vE_le K n m 8 a v (0, A.2.2.2.2.1.2) (Nat.zero_le _)
  refine ⟨hq.1, ?_⟩
  have ho : ∀ j, j ≠ 0 → j ≠ 11 → VM (b_up σ 0 18 x) (vE K n m 8 a v (0, σ 11)).2 j = σ j := fun j e1 e2 => by
    unfold VM
    rw [b_up_n e1, b_set_n e2, b_up_n e1]
  obtain ⟨g1, g2, g3, g4, g5, g6, g7⟩ := h
  refine ⟨by rw [ho 1 (by decide) (by decide)]; exact g1, g2.sc (ho 5 (by decide) (by decide)), by rw [VM_f (by decide), b_up_s, upd_n (by decide)]; exact g3, fun z => by rw [ho 2 (by decide) (by decide)]; exact g4 z, by rw [ho 4 (by decide) (by decide)]; exact g5, ⟨?_, hle, fun k hk => ?_⟩, g7.at (fun j a b => ho j (by omega) (by omega))⟩
  · rw [VM_17, hq.2.1]
  · rw [← hq.2.2 k hk]
    unfold VM
    rw [b_up_n (by decide), b_set_s]

set_option maxHeartbeats 4000000 in
set_option maxRecDepth 100000 in
theorem c_X10_voice {w : bw} {σ : bSt} {A : bA} {b act x0 : Int32} (hm : sModel w) (hR : RQ σ A) : MV yX10_voice cX10_voice 4 (some .int) (rmm 60 2400) w [.ref (b_ad w 0), .int b, .int act, .int x0] σ (pM (oVoice b act x0 A)) := by
  refine b_met (ls := [(0, .ref (b_ad w 0)), (1, .int b), (2, .int act), (3, .int x0)]) (by decide) (Nat.le_of_ble_eq_true rfl) rfl (fun x h => ?_)
  refine v_aload_n h (i := 0) dX10_voice_0 (q := 1) rfl rfl 0 rfl ?_
  refine v_iload_n h (i := 1) dX10_voice_1 (q := 2) rfl rfl 1 rfl ?_
  refine v_bipush h (v := 7) dX10_voice_2 (q := 4) rfl (by decide) ?_
  refine v_callV h (As := [.int b, .int 7]) (rest := []) (c_X10_is (σ := σ) (k := b) (c := 7) hm (by decide)) cal_X10_is calV_X10_is m953 ⟨rfl, rfl, Nat.le_of_ble_eq_true rfl, Nat.le_of_ble_eq_true rfl⟩ rfl hm.1.1 hm.1.2 ⟨_, _, rfl⟩ rfl (Nat.le_of_ble_eq_true rfl) dX10_voice_4 (q := 7) rfl (kB (fun c4 => ?_) (fun c4 => ?_))
  · refine v_if_eq h (t := 19) dX10_voice_7 (by decide) (q := 10) rfl (fun c => absurd c (by decide)) (fun _ => ?_)
    refine v_iload_n h (i := 2) dX10_voice_10 (q := 11) rfl rfl 2 rfl ?_
    refine v_iconst h (v := 0) dX10_voice_11 (q := 12) rfl (by decide) ?_
    refine v_iconst h (v := 3) dX10_voice_12 (q := 13) rfl (by decide) ?_
    refine v_callS h (As := [.int act, .int 0, .int 3]) (rest := []) (c_X10_within (v := act) (l := 0) (m := 3)) cal_X10_within m925 m924 ⟨rfl, rfl, Nat.le_of_ble_eq_true rfl, Nat.le_of_ble_eq_true rfl⟩ rfl rfl (Nat.le_of_ble_eq_true rfl) dX10_voice_13 (q := 16) rfl (kB (fun c13 => ?_) (fun c13 => ?_))
    · refine v_if_ne h (t := 26) dX10_voice_16 (by decide) (q := 19) rfl (fun _ => ?_) (fun c => absurd c (by decide))
      obtain ⟨d, hd, rfl⟩ := inN_nI (hR.isb.mp c4)
      have hd9 : d < 9 := by have := hR.af.2; omega
      obtain ⟨aa, haa, rfl⟩ := wi_0 (n := 3) c13 rfl
      obtain ⟨K, hK6, eK⟩ := (hR.1.2.1.1.2.2.2.2.2.2.1 d hd9).1
      obtain ⟨m, em⟩ : ∃ m, A.1.1 (13 + 4 * d) = m := ⟨_, rfl⟩
      have hsp : b_up σ 0 18 (nI d) 0 18 = nI d := by rw [b_up_s, upd_s]
      have hK1 : b_up σ 0 18 (nI d) 1 (12 + 4 * d) = nI K := by rw [b_up_n (by decide)]; exact (hR.n (by omega)).trans eK
      have hm1 : b_up σ 0 18 (nI d) 1 (13 + 4 * d) = m := by rw [b_up_n (by decide)]; exact (hR.n (by omega)).trans em
      refine v_aload_n h (i := 0) dX10_voice_26 (q := 27) rfl rfl 0 rfl ?_
      refine v_iconst h (v := 0) dX10_voice_27 (q := 28) rfl (by decide) ?_
      refine v_put h (k := 17) cls10 hm.1.1 hm.1.2 (Nat.le_of_ble_eq_true rfl) rfl m866 rfl ⟨rfl, rfl⟩ dX10_voice_28 (q := 31) rfl ?_
      refine v_aload_n h (i := 0) dX10_voice_31 (q := 32) rfl rfl 0 rfl ?_
      refine v_iload_n h (i := 1) dX10_voice_32 (q := 33) rfl rfl 1 rfl ?_
      refine v_put h (k := 18) cls10 hm.1.1 hm.1.2 (Nat.le_of_ble_eq_true rfl) rfl m867 rfl ⟨rfl, rfl⟩ dX10_voice_33 (q := 36) rfl ?_
      refine v_conv (σ2 := VM (b_up σ 0 18 (nI d)) (0, σ 11)) (by rw [voice_st]; exact fun j hj => bEq_rfl j hj) ?_
      refine v_aload_n h (i := 0) dX10_voice_36 (q := 37) rfl rfl 0 rfl ?_
      refine v_iload_n h (i := 2) dX10_voice_37 (q := 38) rfl rfl 2 rfl ?_
      refine v_iload_n h (i := 3) dX10_voice_38 (q := 39) rfl rfl 3 rfl ?_
      refine v_callV h (As := [.int (nI aa), .int x0]) (rest := []) ((c_X10_voiced (K := K) (d := d) (a := aa) (f := 8) (x0 := x0) (q := (0, σ 11)) hm hd9 hsp hK1 (by omega) rfl hm1 (VFm_all hm hd9 hsp hK1 (by omega) rfl hm1 8) (by omega) (okV_all K (by omega) aa (by omega)) (by show 0 ≤ 40; decide))) cal_X10_voiced calV_X10_voiced m1274 ⟨rfl, rfl, Nat.le_of_ble_eq_true rfl, Nat.le_of_ble_eq_true rfl⟩ rfl hm.1.1 hm.1.2 ⟨_, _, rfl⟩ rfl (Nat.le_of_ble_eq_true rfl) dX10_voice_39 (q := 42) rfl (kI ?_)
      exact v_iret h dX10_voice_42 (pM_of (by unfold oVoice; rw [if_pos ⟨hR.isb.mp c4, c13⟩, cl_nI (n := d) (by omega), cl_nI (n := aa) (by omega), eK, em, cl_nI (n := K) (by omega), hR.voice (x := nI d).1]) hR.voice.2)
    · refine v_if_ne h (t := 26) dX10_voice_16 (by decide) (q := 19) rfl (fun c => absurd (by decide) c) (fun _ => ?_)
      refine v_aload_n h (i := 0) dX10_voice_19 (q := 20) rfl rfl 0 rfl ?_
      refine v_ldc h (v := -1000000001) m931 dX10_voice_20 (q := 22) rfl ?_
      refine v_callV h (As := [.int (-1000000001)]) (rest := []) (c_X10_finding (σ := σ) (e := 1) (v := -1000000001) hm (by decide) (by decide +kernel)) cal_X10_finding calV_X10_finding m932 ⟨rfl, rfl, Nat.le_of_ble_eq_true rfl, Nat.le_of_ble_eq_true rfl⟩ rfl hm.1.1 hm.1.2 ⟨_, _, rfl⟩ rfl (Nat.le_of_ble_eq_true rfl) dX10_voice_22 (q := 25) rfl (kI ?_)
      exact v_iret h dX10_voice_25 (pM_of (by unfold oVoice; rw [if_neg (fun z => by first | exact c4 (hR.isb.mpr z.1) | exact c13 z.2), ref1]) (hR.err (by decide)))
  · refine v_if_eq h (t := 19) dX10_voice_7 (by decide) (q := 10) rfl (fun _ => ?_) (fun c => absurd (by decide) c)
    refine v_aload_n h (i := 0) dX10_voice_19 (q := 20) rfl rfl 0 rfl ?_
    refine v_ldc h (v := -1000000001) m931 dX10_voice_20 (q := 22) rfl ?_
    refine v_callV h (As := [.int (-1000000001)]) (rest := []) (c_X10_finding (σ := σ) (e := 1) (v := -1000000001) hm (by decide) (by decide +kernel)) cal_X10_finding calV_X10_finding m932 ⟨rfl, rfl, Nat.le_of_ble_eq_true rfl, Nat.le_of_ble_eq_true rfl⟩ rfl hm.1.1 hm.1.2 ⟨_, _, rfl⟩ rfl (Nat.le_of_ble_eq_true rfl) dX10_voice_22 (q := 25) rfl (kI ?_)
    exact v_iret h dX10_voice_25 (pM_of (by unfold oVoice; rw [if_neg (fun z => by first | exact c4 (hR.isb.mpr z.1) | exact c13 z.2), ref1]) (hR.err (by decide)))
