set_option maxHeartbeats 4000000 in
set_option maxRecDepth 100000 in
theorem lX10_nameOf_4 {w : bw} {σ : bSt} {use : Nat} {c : Int32} (hm : sModel w) (hu : σ 0 9 = nI use) (hu2 : use < 2) {x : bX} (h : Cx x w cX10_nameOf RX10 4 (some .int) (rmm 4 85)) : ∀ k j : Nat, j + k = 3 → V x w 4 (pI (nmL use c 3) σ) 4 [(3, .int (nI j)), (2, .int (nmL use c j)), (0, .ref (b_ad w 0)), (1, .int c)] [] σ := by
  refine b_ind (fun k ih => ?_)
  intro j hj
  refine v_iload_n h (i := 3) dX10_nameOf_4 (q := 5) rfl rfl 0 rfl ?_
  refine v_aload_n h (i := 0) dX10_nameOf_5 (q := 6) rfl rfl 2 rfl ?_
  refine v_get h (k := 6) (v := .ref (b_ad w 6)) cls10 hm.1.1 hm.1.2 (Nat.le_of_ble_eq_true rfl) m855 rfl dX10_nameOf_6 (q := 9) rfl ?_
  refine v_aload_n h (i := 0) dX10_nameOf_9 (q := 10) rfl rfl 2 rfl ?_
  refine v_get h (k := 9) (v := .int (σ 0 9)) cls10 hm.1.1 hm.1.2 (Nat.le_of_ble_eq_true rfl) m858 rfl dX10_nameOf_10 (q := 13) rfl ?_
  rw [show (σ 0 9 : Int32) = nI use from hu]
  refine v_aald h (cA := 0) (j2 := 1010 + use) (ty := .object "java/lang/String") hm.2.2.2.2.2.2.1.1 hm.2.2.2.2.2.2.1.2 rfl rfl (vp_in_nI hu2 (by decide)) (by rw [nI_clamp (by omega)]; rfl) dX10_nameOf_13 (q := 14) rfl ?_
  refine v_callVs h (As := []) (rest := [.int (nI j)]) (i := use) (c_length (σ := σ) hu2) cal_J0_length_8abf5 calV_J0_length_8abf5 m1101 ⟨rfl, rfl, Nat.le_of_ble_eq_true rfl, Nat.le_of_ble_eq_true rfl⟩ rfl hu2 rfl (Nat.le_of_ble_eq_true rfl) dX10_nameOf_14 (q := 17) rfl (kI ?_)
  refine v_icmp_ge h (t := 49) dX10_nameOf_17 (by decide) (q := 20) rfl (fun c17 => ?_) (fun c17 => ?_)
  · refine v_iload_n h (i := 2) dX10_nameOf_49 (q := 50) rfl rfl 1 rfl ?_
    exact v_iret h dX10_nameOf_50 ⟨by rw [show j = 3 by have := nge (k := 3) rfl (by omega) c17; omega], rfl⟩
  · have hj3 : j < 3 := nlt rfl (by omega) c17
    refine v_aload_n h (i := 0) dX10_nameOf_20 (q := 21) rfl rfl 2 rfl ?_
    refine v_get h (k := 6) (v := .ref (b_ad w 6)) cls10 hm.1.1 hm.1.2 (Nat.le_of_ble_eq_true rfl) m855 rfl dX10_nameOf_21 (q := 24) rfl ?_
    refine v_aload_n h (i := 0) dX10_nameOf_24 (q := 25) rfl rfl 2 rfl ?_
    refine v_get h (k := 9) (v := .int (σ 0 9)) cls10 hm.1.1 hm.1.2 (Nat.le_of_ble_eq_true rfl) m858 rfl dX10_nameOf_25 (q := 28) rfl ?_
    rw [show (σ 0 9 : Int32) = nI use from hu]
    refine v_aald h (cA := 0) (j2 := 1010 + use) (ty := .object "java/lang/String") hm.2.2.2.2.2.2.1.1 hm.2.2.2.2.2.2.1.2 rfl rfl (vp_in_nI hu2 (by decide)) (by rw [nI_clamp (by omega)]; rfl) dX10_nameOf_28 (q := 29) rfl ?_
    refine v_iload_n h (i := 3) dX10_nameOf_29 (q := 30) rfl rfl 0 rfl ?_
    refine v_callVs h (As := [.int (nI j)]) (rest := []) (i := use) (c_charAt (σ := σ) (j := j) hu2 hj3) cal_J0_charAt_5068e calV_J0_charAt_5068e m1111 ⟨rfl, rfl, Nat.le_of_ble_eq_true rfl, Nat.le_of_ble_eq_true rfl⟩ rfl hu2 rfl (Nat.le_of_ble_eq_true rfl) dX10_nameOf_30 (q := 33) rfl (kI ?_)
    refine v_iload_n h (i := 1) dX10_nameOf_33 (q := 34) rfl rfl 3 rfl ?_
    refine v_icmp_ne h (t := 41) dX10_nameOf_34 (by decide) (q := 37) rfl (fun c34 => ?_) (fun c34 => ?_)
    · refine v_iload_n h (i := 2) dX10_nameOf_41 (q := 42) rfl rfl 1 rfl ?_
      refine v_st (st2 := [.int (nmL use c (j + 1))]) (by rw [nmL, if_neg c34]) ?_
      refine v_istore_n h (i := 2) (ls1 := [(2, .int (nmL use c (j + 1))), (3, .int (nI j)), (0, .ref (b_ad w 0)), (1, .int c)]) dX10_nameOf_42 (q := 43) rfl rfl (Nat.le_of_ble_eq_true rfl) rfl ?_
      refine v_iinc h (p := 1) (u := nI (j + 1)) (ls1 := [(3, .int (nI (j + 1))), (2, .int (nmL use c (j + 1))), (0, .ref (b_ad w 0)), (1, .int c)]) dX10_nameOf_43 (q := 46) rfl rfl (nI_1 j) (Nat.le_of_ble_eq_true rfl) rfl ?_
      refine v_goto h (t := 4) dX10_nameOf_46 (by decide) ?_
      exact ih (k - 1) (by omega) (j + 1) (by omega)
    · refine v_iload_n h (i := 3) dX10_nameOf_37 (q := 38) rfl rfl 0 rfl ?_
      refine v_goto h (t := 42) dX10_nameOf_38 (by decide) ?_
      refine v_st (st2 := [.int (nmL use c (j + 1))]) (by rw [nmL, if_pos c34]) ?_
      refine v_istore_n h (i := 2) (ls1 := [(2, .int (nmL use c (j + 1))), (3, .int (nI j)), (0, .ref (b_ad w 0)), (1, .int c)]) dX10_nameOf_42 (q := 43) rfl rfl (Nat.le_of_ble_eq_true rfl) rfl ?_
      refine v_iinc h (p := 1) (u := nI (j + 1)) (ls1 := [(3, .int (nI (j + 1))), (2, .int (nmL use c (j + 1))), (0, .ref (b_ad w 0)), (1, .int c)]) dX10_nameOf_43 (q := 46) rfl rfl (nI_1 j) (Nat.le_of_ble_eq_true rfl) rfl ?_
      refine v_goto h (t := 4) dX10_nameOf_46 (by decide) ?_
      exact ih (k - 1) (by omega) (j + 1) (by omega)
set_option maxHeartbeats 4000000 in
set_option maxRecDepth 100000 in
theorem c_X10_nameOf {w : bw} {σ : bSt} {use : Nat} {c : Int32} (hm : sModel w) (hu : σ 0 9 = nI use) (hu2 : use < 2) : MV yX10_nameOf cX10_nameOf 4 (some .int) (rmm 4 85) w [.ref (b_ad w 0), .int c] σ (pI (nmL use c 3) σ) := by
  refine b_met (ls := [(0, .ref (b_ad w 0)), (1, .int c)]) (by decide) (Nat.le_of_ble_eq_true rfl) rfl (fun x h => ?_)
  refine v_iconst h (v := -1) dX10_nameOf_0 (q := 1) rfl (by decide) ?_
  refine v_istore_n h (i := 2) (ls1 := [(2, .int (-1)), (0, .ref (b_ad w 0)), (1, .int c)]) dX10_nameOf_1 (q := 2) rfl rfl (Nat.le_of_ble_eq_true rfl) rfl ?_
  refine v_iconst h (v := 0) dX10_nameOf_2 (q := 3) rfl (by decide) ?_
  refine v_istore_n h (i := 3) (ls1 := [(3, .int 0), (2, .int (-1)), (0, .ref (b_ad w 0)), (1, .int c)]) dX10_nameOf_3 (q := 4) rfl rfl (Nat.le_of_ble_eq_true rfl) rfl ?_
  exact lX10_nameOf_4 hm hu hu2 h 3 0 rfl

set_option maxHeartbeats 4000000 in
set_option maxRecDepth 100000 in
theorem lX10_one_131 {w : bw} {σ : bSt} {n use f o : Nat} {S : bR} (hm : sModel w) (hN : σ 1 9 = nI n) (hn5 : n ≤ 50) (hu : σ 0 9 = nI use) (hu2 : use < 2) (hsubQ : PM w σ n use yX10_one cX10_one 4 0 f) (hsubE : PM w σ n use yX10_either cX10_either 1 5 f) (ho : o ≤ 5) (hne : 6 * (5 - o) + 0 + 1 ≤ f + 1) (hp : S.1 ≤ n) (hlen : S.2.1 ≤ S.1) {x : bX} (h : Cx x w cX10_one RX10 4 none (rmm (3 * f + 7) (100 * f + 200))) : ∀ k i : Nat, i + k = 4 → ∀ (p : Nat) (v : Int32), p ≤ n → S.1 ≤ p → nbR (BFm σ n) k p v = nbR (BFm σ n) 4 S.1 0 → dgB (BFm σ n S.1) = true → V x w 4 (pU (PS σ (!(prR (BFm σ n) use (f + 1) 0 o S).1) (prR (BFm σ n) use (f + 1) 0 o S).2 o)) 131 [(3, .int (nI i)), (2, .int v), (0, .ref (b_ad w 0)), (1, .int (BFm σ n S.1))] [] (PS σ false (p, S.2.1, S.2.2) o) := by
  refine b_ind (fun k ih => ?_)
  intro i hik p v hpn hSp hnb hdg
  refine v_iload_n h (i := 3) dX10_one_131 (q := 132) rfl rfl 0 rfl ?_
  refine v_iconst h (v := 4) dX10_one_132 (q := 133) rfl (by decide) ?_
  refine v_icmp_ge h (t := 179) dX10_one_133 (by decide) (q := 136) rfl (fun c133 => ?_) (fun c133 => ?_)
  · have hst : nbR (BFm σ n) k p v = (p, v) := by
      rw [show k = 0 by have := nge (k := 4) rfl (by omega) c133; omega]; rfl
    have hN4 : nbR (BFm σ n) 4 S.1 0 = (p, v) := hnb.symm.trans hst
    have hcd : v = cdM v := by
      have hx := nb_cd (bf := BFm σ n) (p := S.1)
      rw [hN4] at hx
      exact hx
    refine v_aload_n h (i := 0) dX10_one_179 (q := 180) rfl rfl 2 rfl ?_
    refine v_iload_n h (i := 2) dX10_one_180 (q := 181) rfl rfl 1 rfl ?_
    refine v_callV h (As := [.int v]) (rest := []) ((c_X10_codes (b := false) (S := (p, S.2.1, S.2.2)) (o := o) (v := v) (s := v) hm hcd (by show S.2.1 < 60; omega))) cal_X10_codes calV_X10_codes m1089 ⟨rfl, rfl, by dsimp only; omega, by dsimp only; omega⟩ rfl hm.1.1 hm.1.2 ⟨_, _, rfl⟩ rfl (Nat.le_of_ble_eq_true rfl) dX10_one_181 (q := 184) rfl (kU ?_)
    refine v_goto h (t := 247) dX10_one_184 (by decide) ?_
    exact v_vret h dX10_one_247 ⟨rfl, ps_end (by rw [one_dg hdg, hN4]; rfl)⟩
  · have hi4 : i < 4 := nlt rfl (by omega) c133
    refine v_aload_n h (i := 0) dX10_one_136 (q := 137) rfl rfl 2 rfl ?_
    refine v_callV h (As := []) (rest := []) ((c_X10_here (b := false) (S := (p, S.2.1, S.2.2)) (o := o) hm hN hn5 hpn)) cal_X10_here calV_X10_here m1085 ⟨rfl, rfl, by dsimp only; omega, by dsimp only; omega⟩ rfl hm.1.1 hm.1.2 ⟨_, _, rfl⟩ rfl (Nat.le_of_ble_eq_true rfl) dX10_one_137 (q := 140) rfl (kI ?_)
    rw [show (hrR false (BFm σ n p) : Int32) = BFm σ n p from rfl]
    refine v_bipush h (v := 48) dX10_one_140 (q := 142) rfl (by decide) ?_
    refine v_bipush h (v := 57) dX10_one_142 (q := 144) rfl (by decide) ?_
    refine v_callS h (As := [.int (BFm σ n p), .int 48, .int 57]) (rest := []) ((c_X10_within (σ := PS σ false (p, S.2.1, S.2.2) o) (v := BFm σ n p) (l := 48) (m := 57))) cal_X10_within m925 m924 ⟨rfl, rfl, by dsimp only; omega, by dsimp only; omega⟩ rfl rfl (Nat.le_of_ble_eq_true rfl) dX10_one_144 (q := 147) rfl (kB (fun c144 => ?_) (fun c144 => ?_))
    · refine v_if_eq h (t := 179) dX10_one_147 (by decide) (q := 150) rfl (fun c => absurd c (by decide)) (fun _ => ?_)
      refine v_bipush h (v := 10) dX10_one_150 (q := 152) rfl (by decide) ?_
      refine v_iload_n h (i := 2) dX10_one_152 (q := 153) rfl rfl 1 rfl ?_
      refine v_imul h dX10_one_153 (q := 154) rfl ?_
      refine v_aload_n h (i := 0) dX10_one_154 (q := 155) rfl rfl 2 rfl ?_
      refine v_callV h (As := []) (rest := [.int (10 * v)]) ((c_X10_here (b := false) (S := (p, S.2.1, S.2.2)) (o := o) hm hN hn5 hpn)) cal_X10_here calV_X10_here m1085 ⟨rfl, rfl, by dsimp only; omega, by dsimp only; omega⟩ rfl hm.1.1 hm.1.2 ⟨_, _, rfl⟩ rfl (Nat.le_of_ble_eq_true rfl) dX10_one_155 (q := 158) rfl (kI ?_)
      rw [show (hrR false (BFm σ n p) : Int32) = BFm σ n p from rfl]
      refine v_iadd h dX10_one_158 (q := 159) rfl ?_
      refine v_bipush h (v := 48) dX10_one_159 (q := 161) rfl (by decide) ?_
      refine v_isub h dX10_one_161 (q := 162) rfl ?_
      rw [show (((10 * v) + (BFm σ n p)) - 48 : Int32) = v * 10 + BFm σ n p - 48 from (by rw [Int32.mul_comm])]
      refine v_istore_n h (i := 2) (ls1 := [(2, .int (v * 10 + BFm σ n p - 48)), (3, .int (nI i)), (0, .ref (b_ad w 0)), (1, .int (BFm σ n S.1))]) dX10_one_162 (q := 163) rfl rfl (Nat.le_of_ble_eq_true rfl) rfl ?_
      have hp1 : p < n := byR_lt (tp := fun k => σ 1 (66 + k)) (dgB_ne (dg_wi.mp c144))
      refine v_aload_n h (i := 0) dX10_one_163 (q := 164) rfl rfl 2 rfl ?_
      refine v_dup h dX10_one_164 (q := 165) rfl rfl ?_
      refine v_get h (k := 7) (v := .int ((PS σ false (p, S.2.1, S.2.2) o) 0 7)) cls10 hm.1.1 hm.1.2 (Nat.le_of_ble_eq_true rfl) m856 rfl dX10_one_165 (q := 168) rfl ?_
      rw [show ((PS σ false (p, S.2.1, S.2.2) o) 0 7 : Int32) = nI p from PS_7]
      refine v_iconst h (v := 1) dX10_one_168 (q := 169) rfl (by decide) ?_
      refine v_iadd h dX10_one_169 (q := 170) rfl ?_
      rw [show ((nI p) + 1 : Int32) = nI (p + 1) from (nI_1 _)]
      refine v_put h (k := 7) cls10 hm.1.1 hm.1.2 (Nat.le_of_ble_eq_true rfl) rfl m856 rfl ⟨rfl, rfl⟩ dX10_one_170 (q := 173) rfl ?_
      rw [show (b_up (PS σ false (p, S.2.1, S.2.2) o) 0 7 (nI (p + 1)) : bSt) = PS σ false (p + 1, S.2.1, S.2.2) o from PS_at]
      refine v_iinc h (p := 1) (u := nI (i + 1)) (ls1 := [(3, .int (nI (i + 1))), (2, .int (v * 10 + BFm σ n p - 48)), (0, .ref (b_ad w 0)), (1, .int (BFm σ n S.1))]) dX10_one_173 (q := 176) rfl rfl (nI_1 i) (Nat.le_of_ble_eq_true rfl) rfl ?_
      refine v_goto h (t := 131) dX10_one_176 (by decide) ?_
      exact ih (k - 1) (by omega) (i + 1) (by omega) (p + 1) (v * 10 + BFm σ n p - 48) hp1 (by omega) (by rw [← hnb, show k = (k - 1) + 1 by omega, nb_go (dg_wi.mp c144)]; rfl) hdg
    · refine v_if_eq h (t := 179) dX10_one_147 (by decide) (q := 150) rfl (fun _ => ?_) (fun c => absurd (by decide) c)
      have hst : nbR (BFm σ n) k p v = (p, v) := nb_stop (fun z => c144 (dg_wi.mpr z)) k
      have hN4 : nbR (BFm σ n) 4 S.1 0 = (p, v) := hnb.symm.trans hst
      have hcd : v = cdM v := by
        have hx := nb_cd (bf := BFm σ n) (p := S.1)
        rw [hN4] at hx
        exact hx
      refine v_aload_n h (i := 0) dX10_one_179 (q := 180) rfl rfl 2 rfl ?_
      refine v_iload_n h (i := 2) dX10_one_180 (q := 181) rfl rfl 1 rfl ?_
      refine v_callV h (As := [.int v]) (rest := []) ((c_X10_codes (b := false) (S := (p, S.2.1, S.2.2)) (o := o) (v := v) (s := v) hm hcd (by show S.2.1 < 60; omega))) cal_X10_codes calV_X10_codes m1089 ⟨rfl, rfl, by dsimp only; omega, by dsimp only; omega⟩ rfl hm.1.1 hm.1.2 ⟨_, _, rfl⟩ rfl (Nat.le_of_ble_eq_true rfl) dX10_one_181 (q := 184) rfl (kU ?_)
      refine v_goto h (t := 247) dX10_one_184 (by decide) ?_
      exact v_vret h dX10_one_247 ⟨rfl, ps_end (by rw [one_dg hdg, hN4]; rfl)⟩
set_option maxHeartbeats 4000000 in
set_option maxRecDepth 100000 in
theorem c_X10_one {w : bw} {σ : bSt} {n use f o : Nat} {S : bR} (hm : sModel w) (hN : σ 1 9 = nI n) (hn5 : n ≤ 50) (hu : σ 0 9 = nI use) (hu2 : use < 2) (hsubQ : PM w σ n use yX10_one cX10_one 4 0 f) (hsubE : PM w σ n use yX10_either cX10_either 1 5 f) (ho : o ≤ 5) (hne : 6 * (5 - o) + 0 + 1 ≤ f + 1) (hp : S.1 ≤ n) (hlen : S.2.1 ≤ S.1) : MV yX10_one cX10_one 4 none (rmm (3 * f + 7) (100 * f + 200)) w [.ref (b_ad w 0)] (PS σ false S o) (pU (PS σ (!(prR (BFm σ n) use (f + 1) 0 o S).1) (prR (BFm σ n) use (f + 1) 0 o S).2 o)) := by
  refine b_met (ls := [(0, .ref (b_ad w 0))]) (by decide) (Nat.le_of_ble_eq_true rfl) rfl (fun x h => ?_)
  refine v_aload_n h (i := 0) dX10_one_0 (q := 1) rfl rfl 0 rfl ?_
  refine v_callV h (As := []) (rest := []) ((c_X10_here (b := false) (S := S) (o := o) hm hN hn5 hp)) cal_X10_here calV_X10_here m1085 ⟨rfl, rfl, by dsimp only; omega, by dsimp only; omega⟩ rfl hm.1.1 hm.1.2 ⟨_, _, rfl⟩ rfl (Nat.le_of_ble_eq_true rfl) dX10_one_1 (q := 4) rfl (kI ?_)
  rw [show (hrR false (BFm σ n S.1) : Int32) = BFm σ n S.1 from rfl]
  refine v_istore_n h (i := 1) (ls1 := [(1, .int (BFm σ n S.1)), (0, .ref (b_ad w 0))]) dX10_one_4 (q := 5) rfl rfl (Nat.le_of_ble_eq_true rfl) rfl ?_
  refine v_iload_n h (i := 1) dX10_one_5 (q := 6) rfl rfl 0 rfl ?_
  refine v_bipush h (v := 33) dX10_one_6 (q := 8) rfl (by decide) ?_
  refine v_icmp_eq h (t := 17) dX10_one_8 (by decide) (q := 11) rfl (fun c8 => ?_) (fun c8 => ?_)
  · refine v_aload_n h (i := 0) dX10_one_17 (q := 18) rfl rfl 1 rfl ?_
    refine v_aload_n h (i := 0) dX10_one_18 (q := 19) rfl rfl 1 rfl ?_
    refine v_get h (k := 8) (v := .int ((PS σ false S o) 0 8)) cls10 hm.1.1 hm.1.2 (Nat.le_of_ble_eq_true rfl) m857 rfl dX10_one_19 (q := 22) rfl ?_
    rw [show ((PS σ false S o) 0 8 : Int32) = nI o from PS_8]
    refine v_iconst h (v := 5) dX10_one_22 (q := 23) rfl (by decide) ?_
    refine v_icmp_ne h (t := 30) dX10_one_23 (by decide) (q := 26) rfl (fun c23 => ?_) (fun c23 => ?_)
    · refine v_iconst h (v := 0) dX10_one_30 (q := 31) rfl (by decide) ?_
      refine v_put h (k := 10) cls10 hm.1.1 hm.1.2 (Nat.le_of_ble_eq_true rfl) rfl m859 rfl ⟨rfl, rfl⟩ dX10_one_31 (q := 34) rfl ?_
      rw [show (b_up (PS σ false S o) 0 10 0 : bSt) = PS σ false S o from PS_wr (c := false)]
      refine v_aload_n h (i := 0) dX10_one_34 (q := 35) rfl rfl 1 rfl ?_
      refine v_get h (k := 10) (v := .int ((PS σ false S o) 0 10)) cls10 hm.1.1 hm.1.2 (Nat.le_of_ble_eq_true rfl) m859 rfl dX10_one_35 (q := 38) rfl ?_
      rw [show ((PS σ false S o) 0 10 : Int32) = 0 from PS_10]
      refine v_if_ne h (t := 247) dX10_one_38 (by decide) (q := 41) rfl (fun c => absurd (by decide) c) (fun _ => ?_)
      have ho4 : o < 5 := by
        rcases (show o < 5 ∨ o = 5 by omega) with z | z
        · exact z
        · exact absurd (by rw [z]; rfl) c23
      have hS1 : S.1 < n := byR_lt (tp := fun k => σ 1 (66 + k)) (by show ¬ BFm σ n S.1 = -1; rw [c8]; decide)
      refine v_aload_n h (i := 0) dX10_one_41 (q := 42) rfl rfl 1 rfl ?_
      refine v_dup h dX10_one_42 (q := 43) rfl rfl ?_
      refine v_get h (k := 8) (v := .int ((PS σ false S o) 0 8)) cls10 hm.1.1 hm.1.2 (Nat.le_of_ble_eq_true rfl) m857 rfl dX10_one_43 (q := 46) rfl ?_
      rw [show ((PS σ false S o) 0 8 : Int32) = nI o from PS_8]
      refine v_iconst h (v := 1) dX10_one_46 (q := 47) rfl (by decide) ?_
      refine v_iadd h dX10_one_47 (q := 48) rfl ?_
      rw [show ((nI o) + 1 : Int32) = nI (o + 1) from (nI_1 _)]
      refine v_put h (k := 8) cls10 hm.1.1 hm.1.2 (Nat.le_of_ble_eq_true rfl) rfl m857 rfl ⟨rfl, rfl⟩ dX10_one_48 (q := 51) rfl ?_
      rw [show (b_up (PS σ false S o) 0 8 (nI (o + 1)) : bSt) = PS σ false S (o + 1) from PS_open]
      refine v_aload_n h (i := 0) dX10_one_51 (q := 52) rfl rfl 1 rfl ?_
      refine v_dup h dX10_one_52 (q := 53) rfl rfl ?_
      refine v_get h (k := 7) (v := .int ((PS σ false S (o + 1)) 0 7)) cls10 hm.1.1 hm.1.2 (Nat.le_of_ble_eq_true rfl) m856 rfl dX10_one_53 (q := 56) rfl ?_
      rw [show ((PS σ false S (o + 1)) 0 7 : Int32) = nI S.1 from PS_7]
      refine v_iconst h (v := 1) dX10_one_56 (q := 57) rfl (by decide) ?_
      refine v_iadd h dX10_one_57 (q := 58) rfl ?_
      rw [show ((nI S.1) + 1 : Int32) = nI (S.1 + 1) from (nI_1 _)]
      refine v_put h (k := 7) cls10 hm.1.1 hm.1.2 (Nat.le_of_ble_eq_true rfl) rfl m856 rfl ⟨rfl, rfl⟩ dX10_one_58 (q := 61) rfl ?_
      rw [show (b_up (PS σ false S (o + 1)) 0 7 (nI (S.1 + 1)) : bSt) = PS σ false (advR S) (o + 1) from PS_at]
      refine v_iload_n h (i := 1) dX10_one_61 (q := 62) rfl rfl 0 rfl ?_
      refine v_bipush h (v := 33) dX10_one_62 (q := 64) rfl (by decide) ?_
      refine v_icmp_ne h (t := 81) dX10_one_64 (by decide) (q := 67) rfl (fun c64 => absurd c64 (fun z => z c8)) (fun c64 => ?_)
      refine v_aload_n h (i := 0) dX10_one_67 (q := 68) rfl rfl 1 rfl ?_
      refine v_callV h (As := []) (rest := []) ((hsubQ ((o + 1)) (advR S) (by omega) (by omega) hS1 (by show S.2.1 ≤ S.1 + 1; omega))) cal_X10_one calV_X10_one m1081 ⟨rfl, rfl, by dsimp only; omega, by dsimp only; omega⟩ rfl hm.1.1 hm.1.2 ⟨_, _, rfl⟩ rfl (Nat.le_of_ble_eq_true rfl) dX10_one_68 (q := 71) rfl (kU ?_)
      have hgq := mg_go (σ := σ) (n := n) (use := use) (f := f) (lev := 0) (o := o + 1) hu2 hlen hS1
      refine v_aload_n h (i := 0) dX10_one_71 (q := 72) rfl rfl 1 rfl ?_
      refine v_sipush h (v := 20010) dX10_one_72 (q := 75) rfl (by decide) ?_
      refine v_callV h (As := [.int 20010]) (rest := []) ((c_X10_codes (b := !(prR (BFm σ n) use f 0 (o + 1) (advR S)).1) (S := (prR (BFm σ n) use f 0 (o + 1) (advR S)).2) (o := o + 1) (v := 20010) (s := -33) hm (by decide) (by omega))) cal_X10_codes calV_X10_codes m1089 ⟨rfl, rfl, by dsimp only; omega, by dsimp only; omega⟩ rfl hm.1.1 hm.1.2 ⟨_, _, rfl⟩ rfl (Nat.le_of_ble_eq_true rfl) dX10_one_75 (q := 78) rfl (kU ?_)
      refine v_goto h (t := 103) dX10_one_78 (by decide) ?_
      refine v_aload_n h (i := 0) dX10_one_103 (q := 104) rfl rfl 1 rfl ?_
      refine v_dup h dX10_one_104 (q := 105) rfl rfl ?_
      refine v_get h (k := 8) (v := .int ((PS σ (!(prR (BFm σ n) use f 0 (o + 1) (advR S)).1) (cdR (!(prR (BFm σ n) use f 0 (o + 1) (advR S)).1) (-33) (prR (BFm σ n) use f 0 (o + 1) (advR S)).2) (o + 1)) 0 8)) cls10 hm.1.1 hm.1.2 (Nat.le_of_ble_eq_true rfl) m857 rfl dX10_one_105 (q := 108) rfl ?_
      rw [show ((PS σ (!(prR (BFm σ n) use f 0 (o + 1) (advR S)).1) (cdR (!(prR (BFm σ n) use f 0 (o + 1) (advR S)).1) (-33) (prR (BFm σ n) use f 0 (o + 1) (advR S)).2) (o + 1)) 0 8 : Int32) = nI (o + 1) from PS_8]
      refine v_iconst h (v := 1) dX10_one_108 (q := 109) rfl (by decide) ?_
      refine v_isub h dX10_one_109 (q := 110) rfl ?_
      rw [show ((nI (o + 1)) - 1 : Int32) = nI o from (nI_sub 1 (by omega))]
      refine v_put h (k := 8) cls10 hm.1.1 hm.1.2 (Nat.le_of_ble_eq_true rfl) rfl m857 rfl ⟨rfl, rfl⟩ dX10_one_110 (q := 113) rfl ?_
      rw [show (b_up (PS σ (!(prR (BFm σ n) use f 0 (o + 1) (advR S)).1) (cdR (!(prR (BFm σ n) use f 0 (o + 1) (advR S)).1) (-33) (prR (BFm σ n) use f 0 (o + 1) (advR S)).2) (o + 1)) 0 8 (nI o) : bSt) = PS σ (!(prR (BFm σ n) use f 0 (o + 1) (advR S)).1) (cdR (!(prR (BFm σ n) use f 0 (o + 1) (advR S)).1) (-33) (prR (BFm σ n) use f 0 (o + 1) (advR S)).2) o from PS_open]
      refine v_goto h (t := 247) dX10_one_113 (by decide) ?_
      exact v_vret h dX10_one_247 ⟨rfl, ps_end (by rw [one_33 hu2 c8, if_neg (show ¬ 5 ≤ o from (Nat.not_le.mpr ho4)), Bool.not_not])⟩
    · refine v_iconst h (v := 1) dX10_one_26 (q := 27) rfl (by decide) ?_
      refine v_goto h (t := 31) dX10_one_27 (by decide) ?_
      refine v_put h (k := 10) cls10 hm.1.1 hm.1.2 (Nat.le_of_ble_eq_true rfl) rfl m859 rfl ⟨rfl, rfl⟩ dX10_one_31 (q := 34) rfl ?_
      rw [show (b_up (PS σ false S o) 0 10 1 : bSt) = PS σ true S o from PS_wr (c := true)]
      refine v_aload_n h (i := 0) dX10_one_34 (q := 35) rfl rfl 1 rfl ?_
      refine v_get h (k := 10) (v := .int ((PS σ true S o) 0 10)) cls10 hm.1.1 hm.1.2 (Nat.le_of_ble_eq_true rfl) m859 rfl dX10_one_35 (q := 38) rfl ?_
      rw [show ((PS σ true S o) 0 10 : Int32) = 1 from PS_10]
      refine v_if_ne h (t := 247) dX10_one_38 (by decide) (q := 41) rfl (fun _ => ?_) (fun c => absurd c (by decide))
      exact v_vret h dX10_one_247 ⟨rfl, ps_end (by rw [one_33 hu2 c8, if_pos (show 5 ≤ o from Nat.le_of_eq (nI_inj (a := o) (b := 5) (by omega) (by decide) c23).symm)]; rfl)⟩
  · refine v_iload_n h (i := 1) dX10_one_11 (q := 12) rfl rfl 0 rfl ?_
    refine v_bipush h (v := 40) dX10_one_12 (q := 14) rfl (by decide) ?_
    refine v_icmp_ne h (t := 116) dX10_one_14 (by decide) (q := 17) rfl (fun c14 => ?_) (fun c14 => ?_)
    · refine v_iload_n h (i := 1) dX10_one_116 (q := 117) rfl rfl 0 rfl ?_
      refine v_bipush h (v := 48) dX10_one_117 (q := 119) rfl (by decide) ?_
      refine v_bipush h (v := 57) dX10_one_119 (q := 121) rfl (by decide) ?_
      refine v_callS h (As := [.int (BFm σ n S.1), .int 48, .int 57]) (rest := []) ((c_X10_within (σ := PS σ false S o) (v := (BFm σ n S.1)) (l := 48) (m := 57))) cal_X10_within m925 m924 ⟨rfl, rfl, by dsimp only; omega, by dsimp only; omega⟩ rfl rfl (Nat.le_of_ble_eq_true rfl) dX10_one_121 (q := 124) rfl (kB (fun c121 => ?_) (fun c121 => ?_))
      · refine v_if_eq h (t := 187) dX10_one_124 (by decide) (q := 127) rfl (fun c => absurd c (by decide)) (fun _ => ?_)
        refine v_iconst h (v := 0) dX10_one_127 (q := 128) rfl (by decide) ?_
        refine v_istore_n h (i := 2) (ls1 := [(2, .int 0), (1, .int (BFm σ n S.1)), (0, .ref (b_ad w 0))]) dX10_one_128 (q := 129) rfl rfl (Nat.le_of_ble_eq_true rfl) rfl ?_
        refine v_iconst h (v := 0) dX10_one_129 (q := 130) rfl (by decide) ?_
        refine v_istore_n h (i := 3) (ls1 := [(3, .int 0), (2, .int 0), (1, .int (BFm σ n S.1)), (0, .ref (b_ad w 0))]) dX10_one_130 (q := 131) rfl rfl (Nat.le_of_ble_eq_true rfl) rfl ?_
        refine v_ls [0, 1, 3, 2] (ls2 := [(3, .int 0), (2, .int 0), (0, .ref (b_ad w 0)), (1, .int (BFm σ n S.1))]) rfl ?_
        exact lX10_one_131 hm hN hn5 hu hu2 hsubQ hsubE ho hne hp hlen h 4 0 rfl S.1 0 hp (Nat.le_refl _) rfl (dg_wi.mp c121)
      · refine v_if_eq h (t := 187) dX10_one_124 (by decide) (q := 127) rfl (fun _ => ?_) (fun c => absurd (by decide) c)
        have hnd : ¬ dgB (BFm σ n S.1) = true := fun z => c121 (dg_wi.mpr z)
        refine v_iload_n h (i := 1) dX10_one_187 (q := 188) rfl rfl 0 rfl ?_
        refine v_if_ge h (t := 195) dX10_one_188 (by decide) (q := 191) rfl (fun c188 => ?_) (fun c188 => ?_)
        · refine v_aload_n h (i := 0) dX10_one_195 (q := 196) rfl rfl 1 rfl ?_
          refine v_iload_n h (i := 1) dX10_one_196 (q := 197) rfl rfl 0 rfl ?_
          refine v_callV h (As := [.int (BFm σ n S.1)]) (rest := []) ((c_X10_nameOf (σ := PS σ false S o) (c := (BFm σ n S.1)) hm ((PS_f (by decide)).trans hu) hu2)) cal_X10_nameOf calV_X10_nameOf m1097 ⟨rfl, rfl, by dsimp only; omega, by dsimp only; omega⟩ rfl hm.1.1 hm.1.2 ⟨_, _, rfl⟩ rfl (Nat.le_of_ble_eq_true rfl) dX10_one_197 (q := 200) rfl (kI ?_)
          refine v_istore_n h (i := 2) (ls1 := [(2, .int (nmL use (BFm σ n S.1) 3)), (1, .int (BFm σ n S.1)), (0, .ref (b_ad w 0))]) dX10_one_200 (q := 201) rfl rfl (Nat.le_of_ble_eq_true rfl) rfl ?_
          refine v_aload_n h (i := 0) dX10_one_201 (q := 202) rfl rfl 2 rfl ?_
          refine v_aload_n h (i := 0) dX10_one_202 (q := 203) rfl rfl 2 rfl ?_
          refine v_get h (k := 10) (v := .int ((PS σ false S o) 0 10)) cls10 hm.1.1 hm.1.2 (Nat.le_of_ble_eq_true rfl) m859 rfl dX10_one_203 (q := 206) rfl ?_
          rw [show ((PS σ false S o) 0 10 : Int32) = 0 from PS_10]
          refine v_if_ne h (t := 213) dX10_one_206 (by decide) (q := 209) rfl (fun c => absurd (by decide) c) (fun _ => ?_)
          refine v_iload_n h (i := 2) dX10_one_209 (q := 210) rfl rfl 0 rfl ?_
          refine v_if_ge h (t := 217) dX10_one_210 (by decide) (q := 213) rfl (fun c210 => ?_) (fun c210 => ?_)
          · have hnm : (nmR use (BFm σ n S.1)) < 3 := by
              rcases Nat.lt_or_ge (nmR use (BFm σ n S.1)) 3 with z | z
              · exact z
              · rw [nm_tab hu2, if_neg (Nat.not_lt.mpr z)] at c210
                exact absurd c210 (by decide)
            refine v_iconst h (v := 0) dX10_one_217 (q := 218) rfl (by decide) ?_
            refine v_put h (k := 10) cls10 hm.1.1 hm.1.2 (Nat.le_of_ble_eq_true rfl) rfl m859 rfl ⟨rfl, rfl⟩ dX10_one_218 (q := 221) rfl ?_
            rw [show (b_up (PS σ false S o) 0 10 0 : bSt) = PS σ false S o from PS_wr (c := false)]
            refine v_aload_n h (i := 0) dX10_one_221 (q := 222) rfl rfl 2 rfl ?_
            refine v_get h (k := 10) (v := .int ((PS σ false S o) 0 10)) cls10 hm.1.1 hm.1.2 (Nat.le_of_ble_eq_true rfl) m859 rfl dX10_one_222 (q := 225) rfl ?_
            rw [show ((PS σ false S o) 0 10 : Int32) = 0 from PS_10]
            refine v_if_ne h (t := 247) dX10_one_225 (by decide) (q := 228) rfl (fun c => absurd (by decide) c) (fun _ => ?_)
            refine v_aload_n h (i := 0) dX10_one_228 (q := 229) rfl rfl 2 rfl ?_
            refine v_sipush h (v := 10000) dX10_one_229 (q := 232) rfl (by decide) ?_
            refine v_iload_n h (i := 2) dX10_one_232 (q := 233) rfl rfl 0 rfl ?_
            refine v_iadd h dX10_one_233 (q := 234) rfl ?_
            rw [show (10000 + (nmL use (BFm σ n S.1) 3) : Int32) = nI (10000 + (nmR use (BFm σ n S.1))) from (by rw [nm_tab hu2, if_pos hnm]; exact nI_add 10000 _)]
            refine v_callV h (As := [.int (nI (10000 + (nmR use (BFm σ n S.1))))]) (rest := []) ((c_X10_codes (b := false) (S := S) (o := o) (v := nI (10000 + (nmR use (BFm σ n S.1)))) (s := -1 - nI (nmR use (BFm σ n S.1))) hm (nm_cd _ hnm) (by omega))) cal_X10_codes calV_X10_codes m1089 ⟨rfl, rfl, by dsimp only; omega, by dsimp only; omega⟩ rfl hm.1.1 hm.1.2 ⟨_, _, rfl⟩ rfl (Nat.le_of_ble_eq_true rfl) dX10_one_234 (q := 237) rfl (kU ?_)
            refine v_aload_n h (i := 0) dX10_one_237 (q := 238) rfl rfl 2 rfl ?_
            refine v_dup h dX10_one_238 (q := 239) rfl rfl ?_
            refine v_get h (k := 7) (v := .int ((PS σ false (cdR false (-1 - nI (nmR use (BFm σ n S.1))) S) o) 0 7)) cls10 hm.1.1 hm.1.2 (Nat.le_of_ble_eq_true rfl) m856 rfl dX10_one_239 (q := 242) rfl ?_
            rw [show ((PS σ false (cdR false (-1 - nI (nmR use (BFm σ n S.1))) S) o) 0 7 : Int32) = nI S.1 from PS_7]
            refine v_iconst h (v := 1) dX10_one_242 (q := 243) rfl (by decide) ?_
            refine v_iadd h dX10_one_243 (q := 244) rfl ?_
            rw [show ((nI S.1) + 1 : Int32) = nI (S.1 + 1) from (nI_1 _)]
            refine v_put h (k := 7) cls10 hm.1.1 hm.1.2 (Nat.le_of_ble_eq_true rfl) rfl m856 rfl ⟨rfl, rfl⟩ dX10_one_244 (q := 247) rfl ?_
            rw [show (b_up (PS σ false (cdR false (-1 - nI (nmR use (BFm σ n S.1))) S) o) 0 7 (nI (S.1 + 1)) : bSt) = PS σ false (advR (cdR false (-1 - nI (nmR use (BFm σ n S.1))) S)) o from PS_at]
            exact v_vret h dX10_one_247 ⟨rfl, ps_end (by rw [one_nm hnd hnm]; rfl)⟩
          · have hnm : ¬ (nmR use (BFm σ n S.1)) < 3 := fun z => c210 (by rw [nm_tab hu2, if_pos z]; exact Int32.not_lt.mp (nI_pos (by omega)))
            refine v_iconst h (v := 1) dX10_one_213 (q := 214) rfl (by decide) ?_
            refine v_goto h (t := 218) dX10_one_214 (by decide) ?_
            refine v_put h (k := 10) cls10 hm.1.1 hm.1.2 (Nat.le_of_ble_eq_true rfl) rfl m859 rfl ⟨rfl, rfl⟩ dX10_one_218 (q := 221) rfl ?_
            rw [show (b_up (PS σ false S o) 0 10 1 : bSt) = PS σ true S o from PS_wr (c := true)]
            refine v_aload_n h (i := 0) dX10_one_221 (q := 222) rfl rfl 2 rfl ?_
            refine v_get h (k := 10) (v := .int ((PS σ true S o) 0 10)) cls10 hm.1.1 hm.1.2 (Nat.le_of_ble_eq_true rfl) m859 rfl dX10_one_222 (q := 225) rfl ?_
            rw [show ((PS σ true S o) 0 10 : Int32) = 1 from PS_10]
            refine v_if_ne h (t := 247) dX10_one_225 (by decide) (q := 228) rfl (fun _ => ?_) (fun c => absurd c (by decide))
            exact v_vret h dX10_one_247 ⟨rfl, ps_end (by rw [one_no hnd hnm c8 c14]; rfl)⟩
        · refine v_iconst h (v := -1) dX10_one_191 (q := 192) rfl (by decide) ?_
          refine v_goto h (t := 200) dX10_one_192 (by decide) ?_
          refine v_istore_n h (i := 2) (ls1 := [(2, .int (-1)), (1, .int (BFm σ n S.1)), (0, .ref (b_ad w 0))]) dX10_one_200 (q := 201) rfl rfl (Nat.le_of_ble_eq_true rfl) rfl ?_
          refine v_aload_n h (i := 0) dX10_one_201 (q := 202) rfl rfl 2 rfl ?_
          refine v_aload_n h (i := 0) dX10_one_202 (q := 203) rfl rfl 2 rfl ?_
          refine v_get h (k := 10) (v := .int ((PS σ false S o) 0 10)) cls10 hm.1.1 hm.1.2 (Nat.le_of_ble_eq_true rfl) m859 rfl dX10_one_203 (q := 206) rfl ?_
          rw [show ((PS σ false S o) 0 10 : Int32) = 0 from PS_10]
          refine v_if_ne h (t := 213) dX10_one_206 (by decide) (q := 209) rfl (fun c => absurd (by decide) c) (fun _ => ?_)
          refine v_iload_n h (i := 2) dX10_one_209 (q := 210) rfl rfl 0 rfl ?_
          refine v_if_ge h (t := 217) dX10_one_210 (by decide) (q := 213) rfl (fun c => absurd c (by decide)) (fun _ => ?_)
          
          refine v_iconst h (v := 1) dX10_one_213 (q := 214) rfl (by decide) ?_
          refine v_goto h (t := 218) dX10_one_214 (by decide) ?_
          refine v_put h (k := 10) cls10 hm.1.1 hm.1.2 (Nat.le_of_ble_eq_true rfl) rfl m859 rfl ⟨rfl, rfl⟩ dX10_one_218 (q := 221) rfl ?_
          rw [show (b_up (PS σ false S o) 0 10 1 : bSt) = PS σ true S o from PS_wr (c := true)]
          refine v_aload_n h (i := 0) dX10_one_221 (q := 222) rfl rfl 2 rfl ?_
          refine v_get h (k := 10) (v := .int ((PS σ true S o) 0 10)) cls10 hm.1.1 hm.1.2 (Nat.le_of_ble_eq_true rfl) m859 rfl dX10_one_222 (q := 225) rfl ?_
          rw [show ((PS σ true S o) 0 10 : Int32) = 1 from PS_10]
          refine v_if_ne h (t := 247) dX10_one_225 (by decide) (q := 228) rfl (fun _ => ?_) (fun c => absurd c (by decide))
          exact v_vret h dX10_one_247 ⟨rfl, ps_end (by rw [one_no hnd (nm_pos hu2 (Int32.not_le.mp c188)) c8 c14]; rfl)⟩
    · refine v_aload_n h (i := 0) dX10_one_17 (q := 18) rfl rfl 1 rfl ?_
      refine v_aload_n h (i := 0) dX10_one_18 (q := 19) rfl rfl 1 rfl ?_
      refine v_get h (k := 8) (v := .int ((PS σ false S o) 0 8)) cls10 hm.1.1 hm.1.2 (Nat.le_of_ble_eq_true rfl) m857 rfl dX10_one_19 (q := 22) rfl ?_
      rw [show ((PS σ false S o) 0 8 : Int32) = nI o from PS_8]
      refine v_iconst h (v := 5) dX10_one_22 (q := 23) rfl (by decide) ?_
      refine v_icmp_ne h (t := 30) dX10_one_23 (by decide) (q := 26) rfl (fun c23_1 => ?_) (fun c23_1 => ?_)
      · refine v_iconst h (v := 0) dX10_one_30 (q := 31) rfl (by decide) ?_
        refine v_put h (k := 10) cls10 hm.1.1 hm.1.2 (Nat.le_of_ble_eq_true rfl) rfl m859 rfl ⟨rfl, rfl⟩ dX10_one_31 (q := 34) rfl ?_
        rw [show (b_up (PS σ false S o) 0 10 0 : bSt) = PS σ false S o from PS_wr (c := false)]
        refine v_aload_n h (i := 0) dX10_one_34 (q := 35) rfl rfl 1 rfl ?_
        refine v_get h (k := 10) (v := .int ((PS σ false S o) 0 10)) cls10 hm.1.1 hm.1.2 (Nat.le_of_ble_eq_true rfl) m859 rfl dX10_one_35 (q := 38) rfl ?_
        rw [show ((PS σ false S o) 0 10 : Int32) = 0 from PS_10]
        refine v_if_ne h (t := 247) dX10_one_38 (by decide) (q := 41) rfl (fun c => absurd (by decide) c) (fun _ => ?_)
        have ho4 : o < 5 := by
          rcases (show o < 5 ∨ o = 5 by omega) with z | z
          · exact z
          · exact absurd (by rw [z]; rfl) c23_1
        have hS1 : S.1 < n := byR_lt (tp := fun k => σ 1 (66 + k)) (by show ¬ BFm σ n S.1 = -1; rw [c14]; decide)
        refine v_aload_n h (i := 0) dX10_one_41 (q := 42) rfl rfl 1 rfl ?_
        refine v_dup h dX10_one_42 (q := 43) rfl rfl ?_
        refine v_get h (k := 8) (v := .int ((PS σ false S o) 0 8)) cls10 hm.1.1 hm.1.2 (Nat.le_of_ble_eq_true rfl) m857 rfl dX10_one_43 (q := 46) rfl ?_
        rw [show ((PS σ false S o) 0 8 : Int32) = nI o from PS_8]
        refine v_iconst h (v := 1) dX10_one_46 (q := 47) rfl (by decide) ?_
        refine v_iadd h dX10_one_47 (q := 48) rfl ?_
        rw [show ((nI o) + 1 : Int32) = nI (o + 1) from (nI_1 _)]
        refine v_put h (k := 8) cls10 hm.1.1 hm.1.2 (Nat.le_of_ble_eq_true rfl) rfl m857 rfl ⟨rfl, rfl⟩ dX10_one_48 (q := 51) rfl ?_
        rw [show (b_up (PS σ false S o) 0 8 (nI (o + 1)) : bSt) = PS σ false S (o + 1) from PS_open]
        refine v_aload_n h (i := 0) dX10_one_51 (q := 52) rfl rfl 1 rfl ?_
        refine v_dup h dX10_one_52 (q := 53) rfl rfl ?_
        refine v_get h (k := 7) (v := .int ((PS σ false S (o + 1)) 0 7)) cls10 hm.1.1 hm.1.2 (Nat.le_of_ble_eq_true rfl) m856 rfl dX10_one_53 (q := 56) rfl ?_
        rw [show ((PS σ false S (o + 1)) 0 7 : Int32) = nI S.1 from PS_7]
        refine v_iconst h (v := 1) dX10_one_56 (q := 57) rfl (by decide) ?_
        refine v_iadd h dX10_one_57 (q := 58) rfl ?_
        rw [show ((nI S.1) + 1 : Int32) = nI (S.1 + 1) from (nI_1 _)]
        refine v_put h (k := 7) cls10 hm.1.1 hm.1.2 (Nat.le_of_ble_eq_true rfl) rfl m856 rfl ⟨rfl, rfl⟩ dX10_one_58 (q := 61) rfl ?_
        rw [show (b_up (PS σ false S (o + 1)) 0 7 (nI (S.1 + 1)) : bSt) = PS σ false (advR S) (o + 1) from PS_at]
        refine v_iload_n h (i := 1) dX10_one_61 (q := 62) rfl rfl 0 rfl ?_
        refine v_bipush h (v := 33) dX10_one_62 (q := 64) rfl (by decide) ?_
        refine v_icmp_ne h (t := 81) dX10_one_64 (by decide) (q := 67) rfl (fun c64_1 => ?_) (fun c64_1 => absurd c64_1 c8)
        refine v_aload_n h (i := 0) dX10_one_81 (q := 82) rfl rfl 1 rfl ?_
        refine v_callV h (As := []) (rest := []) ((hsubE ((o + 1)) (advR S) (by omega) (by omega) hS1 (by show S.2.1 ≤ S.1 + 1; omega))) cal_X10_either calV_X10_either m1061 ⟨rfl, rfl, by dsimp only; omega, by dsimp only; omega⟩ rfl hm.1.1 hm.1.2 ⟨_, _, rfl⟩ rfl (Nat.le_of_ble_eq_true rfl) dX10_one_82 (q := 85) rfl (kU ?_)
        have hgt := mg_go (σ := σ) (n := n) (use := use) (f := f) (lev := 5) (o := o + 1) hu2 hlen hS1
        refine v_aload_n h (i := 0) dX10_one_85 (q := 86) rfl rfl 1 rfl ?_
        refine v_aload_n h (i := 0) dX10_one_86 (q := 87) rfl rfl 1 rfl ?_
        refine v_bipush h (v := 41) dX10_one_87 (q := 89) rfl (by decide) ?_
        refine v_callV h (As := [.int 41]) (rest := [.ref (b_ad w 0)]) ((c_X10_takes (n := n) (b := (!(prR (BFm σ n) use f 5 (o + 1) (advR S)).1)) (S := (prR (BFm σ n) use f 5 (o + 1) (advR S)).2) (o := (o + 1)) (c := 41) hm hN hn5 hgt.1)) cal_X10_takes calV_X10_takes m1093 ⟨rfl, rfl, by dsimp only; omega, by dsimp only; omega⟩ rfl hm.1.1 hm.1.2 ⟨_, _, rfl⟩ rfl (Nat.le_of_ble_eq_true rfl) dX10_one_89 (q := 92) rfl (kB2 (fun c89 => ?_) (fun c89 => ?_))
        · refine v_if_ne h (t := 99) dX10_one_92 (by decide) (q := 95) rfl (fun _ => ?_) (fun c => absurd c (by decide))
          refine v_iconst h (v := 0) dX10_one_99 (q := 100) rfl (by decide) ?_
          refine v_put h (k := 10) cls10 hm.1.1 hm.1.2 (Nat.le_of_ble_eq_true rfl) rfl m859 rfl ⟨rfl, rfl⟩ dX10_one_100 (q := 103) rfl ?_
          rw [show (b_up (PS σ ((!(prR (BFm σ n) use f 5 (o + 1) (advR S)).1)) (advR ((prR (BFm σ n) use f 5 (o + 1) (advR S)).2)) ((o + 1))) 0 10 0 : bSt) = PS σ false (advR (prR (BFm σ n) use f 5 (o + 1) (advR S)).2) (o + 1) from PS_wr (c := false)]
          refine v_aload_n h (i := 0) dX10_one_103 (q := 104) rfl rfl 1 rfl ?_
          refine v_dup h dX10_one_104 (q := 105) rfl rfl ?_
          refine v_get h (k := 8) (v := .int ((PS σ false (advR (prR (BFm σ n) use f 5 (o + 1) (advR S)).2) (o + 1)) 0 8)) cls10 hm.1.1 hm.1.2 (Nat.le_of_ble_eq_true rfl) m857 rfl dX10_one_105 (q := 108) rfl ?_
          rw [show ((PS σ false (advR (prR (BFm σ n) use f 5 (o + 1) (advR S)).2) (o + 1)) 0 8 : Int32) = nI (o + 1) from PS_8]
          refine v_iconst h (v := 1) dX10_one_108 (q := 109) rfl (by decide) ?_
          refine v_isub h dX10_one_109 (q := 110) rfl ?_
          rw [show ((nI (o + 1)) - 1 : Int32) = nI o from (nI_sub 1 (by omega))]
          refine v_put h (k := 8) cls10 hm.1.1 hm.1.2 (Nat.le_of_ble_eq_true rfl) rfl m857 rfl ⟨rfl, rfl⟩ dX10_one_110 (q := 113) rfl ?_
          rw [show (b_up (PS σ false (advR (prR (BFm σ n) use f 5 (o + 1) (advR S)).2) (o + 1)) 0 8 (nI o) : bSt) = PS σ false (advR (prR (BFm σ n) use f 5 (o + 1) (advR S)).2) o from PS_open]
          refine v_goto h (t := 247) dX10_one_113 (by decide) ?_
          exact v_vret h dX10_one_247 ⟨rfl, ps_end (by rw [one_40 hu2 c14, if_neg (show ¬ 5 ≤ o from (Nat.not_le.mpr ho4)), if_pos c89]; rfl)⟩
        · refine v_if_ne h (t := 99) dX10_one_92 (by decide) (q := 95) rfl (fun c => absurd (by decide) c) (fun _ => ?_)
          refine v_iconst h (v := 1) dX10_one_95 (q := 96) rfl (by decide) ?_
          refine v_goto h (t := 100) dX10_one_96 (by decide) ?_
          refine v_put h (k := 10) cls10 hm.1.1 hm.1.2 (Nat.le_of_ble_eq_true rfl) rfl m859 rfl ⟨rfl, rfl⟩ dX10_one_100 (q := 103) rfl ?_
          rw [show (b_up (PS σ ((!(prR (BFm σ n) use f 5 (o + 1) (advR S)).1)) ((prR (BFm σ n) use f 5 (o + 1) (advR S)).2) ((o + 1))) 0 10 1 : bSt) = PS σ true (prR (BFm σ n) use f 5 (o + 1) (advR S)).2 (o + 1) from PS_wr (c := true)]
          refine v_aload_n h (i := 0) dX10_one_103 (q := 104) rfl rfl 1 rfl ?_
          refine v_dup h dX10_one_104 (q := 105) rfl rfl ?_
          refine v_get h (k := 8) (v := .int ((PS σ true (prR (BFm σ n) use f 5 (o + 1) (advR S)).2 (o + 1)) 0 8)) cls10 hm.1.1 hm.1.2 (Nat.le_of_ble_eq_true rfl) m857 rfl dX10_one_105 (q := 108) rfl ?_
          rw [show ((PS σ true (prR (BFm σ n) use f 5 (o + 1) (advR S)).2 (o + 1)) 0 8 : Int32) = nI (o + 1) from PS_8]
          refine v_iconst h (v := 1) dX10_one_108 (q := 109) rfl (by decide) ?_
          refine v_isub h dX10_one_109 (q := 110) rfl ?_
          rw [show ((nI (o + 1)) - 1 : Int32) = nI o from (nI_sub 1 (by omega))]
          refine v_put h (k := 8) cls10 hm.1.1 hm.1.2 (Nat.le_of_ble_eq_true rfl) rfl m857 rfl ⟨rfl, rfl⟩ dX10_one_110 (q := 113) rfl ?_
          rw [show (b_up (PS σ true (prR (BFm σ n) use f 5 (o + 1) (advR S)).2 (o + 1)) 0 8 (nI o) : bSt) = PS σ true (prR (BFm σ n) use f 5 (o + 1) (advR S)).2 o from PS_open]
          refine v_goto h (t := 247) dX10_one_113 (by decide) ?_
          exact v_vret h dX10_one_247 ⟨rfl, ps_end (by rw [one_40 hu2 c14, if_neg (show ¬ 5 ≤ o from (Nat.not_le.mpr ho4)), if_neg c89]; rfl)⟩
      · refine v_iconst h (v := 1) dX10_one_26 (q := 27) rfl (by decide) ?_
        refine v_goto h (t := 31) dX10_one_27 (by decide) ?_
        refine v_put h (k := 10) cls10 hm.1.1 hm.1.2 (Nat.le_of_ble_eq_true rfl) rfl m859 rfl ⟨rfl, rfl⟩ dX10_one_31 (q := 34) rfl ?_
        rw [show (b_up (PS σ false S o) 0 10 1 : bSt) = PS σ true S o from PS_wr (c := true)]
        refine v_aload_n h (i := 0) dX10_one_34 (q := 35) rfl rfl 1 rfl ?_
        refine v_get h (k := 10) (v := .int ((PS σ true S o) 0 10)) cls10 hm.1.1 hm.1.2 (Nat.le_of_ble_eq_true rfl) m859 rfl dX10_one_35 (q := 38) rfl ?_
        rw [show ((PS σ true S o) 0 10 : Int32) = 1 from PS_10]
        refine v_if_ne h (t := 247) dX10_one_38 (by decide) (q := 41) rfl (fun _ => ?_) (fun c => absurd c (by decide))
        exact v_vret h dX10_one_247 ⟨rfl, ps_end (by rw [one_40 hu2 c14, if_pos (show 5 ≤ o from Nat.le_of_eq (nI_inj (a := o) (b := 5) (by omega) (by decide) c23_1).symm)]; rfl)⟩
