theorem mv_sh {τ14 σ14 fs fo : Nat → Int32} {b : Int32} {q a0 d0 c ls : Nat} (h : ∀ i, τ14 i = if 40 * q + d0 ≤ i ∧ i < 40 * q + d0 + c then fs (a0 + (i - (40 * q + d0))) else σ14 i) (gs : ∀ k, k < 40 → seS b (fs k) = fs k) (go : ∀ k, k < 40 → σ14 (40 * q + k) = fo k ∧ seS b (fo k) = fo k) (h1 : a0 + c ≤ ls) (h2 : ls ≤ 40) : ∀ k, k < 40 → τ14 (40 * q + k) = cpS fs fo a0 d0 c k ∧ seS b (cpS fs fo a0 d0 c k) = cpS fs fo a0 d0 c k := by
  intro k hk
  rw [h]
  unfold cpS
  by_cases e : d0 ≤ k ∧ k < d0 + c
  · rw [if_pos (by omega), if_pos e, show 40 * q + k - (40 * q + d0) = k - d0 by omega]
    exact ⟨rfl, gs _ (by omega)⟩
  · rw [if_neg (by omega), if_neg e]
    exact go k hk

set_option maxHeartbeats 4000000 in
set_option maxRecDepth 100000 in
theorem lX10_move_165 {w : bw} {σ : bSt} {A : bA} {s i o j n : Int32} (hm : sModel w) (hR : RQ σ A) {x : bX} (h : Cx x w cX10_move RX10 7 (some .int) (rmm 2 42)) : ∀ u q a0 d0 m1 : Nat, u < 4 → q < 4 → a0 + m1 ≤ (A.2.2.2.2.2 u).2.1 → d0 + m1 ≤ (A.2.2.2.2.2 q).2.1 → (A.2.2.2.2.2 u).1 = (A.2.2.2.2.2 q).1 → oMove s i o j n A = (nI m1, setS A q ((A.2.2.2.2.2 q).1, (A.2.2.2.2.2 q).2.1, cpS (A.2.2.2.2.2 u).2.2 (A.2.2.2.2.2 q).2.2 a0 d0 m1)) → ∀ m k : Nat, k + m = m1 → ∀ τ : bSt, (∀ j, j ≠ 14 → j ≠ 15 → τ j = σ j) → (∀ i, i < m1 → τ 15 i = (A.2.2.2.2.2 u).2.2 (a0 + i)) → (∀ i, τ 14 i = if 40 * q + d0 ≤ i ∧ i < 40 * q + d0 + k then (A.2.2.2.2.2 u).2.2 (a0 + (i - (40 * q + d0))) else σ 14 i) → V x w 7 (pM (oMove s i o j n A)) 165 [(6, .int (nI k)), (0, .ref (b_ad w 0)), (1, .int (nI u)), (2, .int (nI a0)), (3, .int (nI q)), (4, .int (nI d0)), (5, .int (nI m1))] [] τ := by
  intro u q a0 d0 m1 hu hq hac hdc hbe hop
  have gl1 := (hR.sh hu).2.2.2.1
  have gl2 := (hR.sh hq).2.2.2.1
  refine b_ind (fun m ih => ?_)
  intro k hkm τ ho h15 h14
  refine v_iload h (i := 6) dX10_move_165 (q := 167) rfl 0 rfl ?_
  refine v_iload h (i := 5) dX10_move_167 (q := 169) rfl 6 rfl ?_
  refine v_icmp_ge h (t := 200) dX10_move_169 (by decide) (q := 172) rfl (fun c169 => ?_) (fun c169 => ?_)
  · refine v_iload h (i := 5) dX10_move_200 (q := 202) rfl 6 rfl ?_
    exact v_iret h dX10_move_202 (pM_of hop (hR.sheet (p := ((A.2.2.2.2.2 q).1, (A.2.2.2.2.2 q).2.1, cpS (A.2.2.2.2.2 u).2.2 (A.2.2.2.2.2 q).2.2 a0 d0 m1)) hq (fun j _ _ c d => ho j c d) ⟨by rw [ho 12 (by decide) (by decide)]; exact (hR.sh hq).1, fun t _ _ => by rw [ho 12 (by decide) (by decide)]⟩ ⟨by rw [ho 13 (by decide) (by decide)]; exact (hR.sh hq).2.2.1, fun t _ _ => by rw [ho 13 (by decide) (by decide)]⟩ (hR.sh hq).2.1 gl2 (hR.sh hq).2.2.2.2.1 (mv_sh (c := m1) (by rw [show m1 = k by have := nge (k := m1) (nI_toInt (by omega)) (by omega) c169; omega]; exact h14) (fun i hi => by rw [← hbe]; exact ((hR.sh hu).2.2.2.2.2 i hi).2) (hR.sh hq).2.2.2.2.2 hac gl1) (fun i hi => by rw [h14, if_neg (by omega)])))
  · have hkm1 : k < m1 := nlt (nI_toInt (by omega)) (by omega) c169
    refine v_aload_n h (i := 0) dX10_move_172 (q := 173) rfl rfl 1 rfl ?_
    refine v_get h (k := 21) (v := .ref (b_ad w 14)) cls10 hm.1.1 hm.1.2 (Nat.le_of_ble_eq_true rfl) m870 rfl dX10_move_173 (q := 176) rfl ?_
    refine v_bipush h (v := 40) dX10_move_176 (q := 178) rfl (by decide) ?_
    refine v_iload_n h (i := 3) dX10_move_178 (q := 179) rfl rfl 4 rfl ?_
    refine v_imul h dX10_move_179 (q := 180) rfl ?_
    rw [show (40 * (nI q) : Int32) = nI (40 * q) from (nI_mulN 40 q)]
    refine v_iload h (i := 4) dX10_move_180 (q := 182) rfl 5 rfl ?_
    refine v_iadd h dX10_move_182 (q := 183) rfl ?_
    rw [show ((nI (40 * q)) + (nI d0) : Int32) = nI (40 * q + d0) from (nI_add _ _)]
    refine v_iload h (i := 6) dX10_move_183 (q := 185) rfl 0 rfl ?_
    refine v_iadd h dX10_move_185 (q := 186) rfl ?_
    rw [show ((nI (40 * q + d0)) + (nI k) : Int32) = nI (40 * q + d0 + k) from (nI_add _ _)]
    refine v_aload_n h (i := 0) dX10_move_186 (q := 187) rfl rfl 1 rfl ?_
    refine v_get h (k := 22) (v := .ref (b_ad w 15)) cls10 hm.1.1 hm.1.2 (Nat.le_of_ble_eq_true rfl) m871 rfl dX10_move_187 (q := 190) rfl ?_
    refine v_iload h (i := 6) dX10_move_190 (q := 192) rfl 0 rfl ?_
    refine v_iald h (k := k) hm.2.2.2.2.2.2.2.2.2.2.2.2.2.2.2.1 hm.2.2.2.2.2.2.2.2.2.2.2.2.2.2.2.2 (vp_in_nI (by omega) (by decide)) (nI_clamp (by omega)) dX10_move_192 (q := 193) rfl ?_
    rw [show (τ 15 k : Int32) = (A.2.2.2.2.2 u).2.2 (a0 + k) from (h15 k hkm1)]
    refine v_iast h (k := (40 * q + d0 + k)) hm.2.2.2.2.2.2.2.2.2.2.2.2.2.2.1.1 hm.2.2.2.2.2.2.2.2.2.2.2.2.2.2.1.2 (vp_in_nI (by omega) (by decide)) (nI_clamp (by omega)) dX10_move_193 (q := 194) rfl ?_
    refine v_iinc h (p := 0) (u := nI (k + 1)) (ls1 := [(6, .int (nI (k + 1))), (0, .ref (b_ad w 0)), (1, .int (nI u)), (2, .int (nI a0)), (3, .int (nI q)), (4, .int (nI d0)), (5, .int (nI m1))]) dX10_move_194 (q := 197) rfl rfl (nI_1 k) (Nat.le_of_ble_eq_true rfl) rfl ?_
    refine v_goto h (t := 165) dX10_move_197 (by decide) ?_
    exact ih (m - 1) (by omega) (k + 1) (by omega) _ (fun j a b => by rw [b_up_n a]; exact ho j a b) (fun i hi => by rw [b_up_n (by decide)]; exact h15 i hi) (fun i => by
      rw [b_up_s]
      by_cases e : i = 40 * q + d0 + k
      · rw [e, upd_s, if_pos (by omega), show 40 * q + d0 + k - (40 * q + d0) = k by omega]
      · rw [upd_n e, h14]
        by_cases z : 40 * q + d0 ≤ i ∧ i < 40 * q + d0 + k
        · rw [if_pos z, if_pos (by omega)]
        · rw [if_neg z, if_neg (by omega)])
set_option maxHeartbeats 4000000 in
set_option maxRecDepth 100000 in
theorem lX10_move_128 {w : bw} {σ : bSt} {A : bA} {s i o j n : Int32} (hm : sModel w) (hR : RQ σ A) {x : bX} (h : Cx x w cX10_move RX10 7 (some .int) (rmm 2 42)) : ∀ u q a0 d0 m1 : Nat, u < 4 → q < 4 → a0 + m1 ≤ (A.2.2.2.2.2 u).2.1 → d0 + m1 ≤ (A.2.2.2.2.2 q).2.1 → (A.2.2.2.2.2 u).1 = (A.2.2.2.2.2 q).1 → oMove s i o j n A = (nI m1, setS A q ((A.2.2.2.2.2 q).1, (A.2.2.2.2.2 q).2.1, cpS (A.2.2.2.2.2 u).2.2 (A.2.2.2.2.2 q).2.2 a0 d0 m1)) → ∀ m k : Nat, k + m = m1 → ∀ τ : bSt, (∀ j, j ≠ 15 → τ j = σ j) → (∀ i, i < k → τ 15 i = (A.2.2.2.2.2 u).2.2 (a0 + i)) → V x w 7 (pM (oMove s i o j n A)) 128 [(6, .int (nI k)), (0, .ref (b_ad w 0)), (1, .int (nI u)), (2, .int (nI a0)), (3, .int (nI q)), (4, .int (nI d0)), (5, .int (nI m1))] [] τ := by
  intro u q a0 d0 m1 hu hq hac hdc hbe hop
  have gl1 := (hR.sh hu).2.2.2.1
  have gl2 := (hR.sh hq).2.2.2.1
  refine b_ind (fun m ih => ?_)
  intro k hkm τ ho h15
  refine v_iload h (i := 6) dX10_move_128 (q := 130) rfl 0 rfl ?_
  refine v_iload h (i := 5) dX10_move_130 (q := 132) rfl 6 rfl ?_
  refine v_icmp_ge h (t := 162) dX10_move_132 (by decide) (q := 135) rfl (fun c132 => ?_) (fun c132 => ?_)
  · refine v_iconst h (v := 0) dX10_move_162 (q := 163) rfl (by decide) ?_
    refine v_istore h (i := 6) (ls1 := [(6, .int 0), (0, .ref (b_ad w 0)), (1, .int (nI u)), (2, .int (nI a0)), (3, .int (nI q)), (4, .int (nI d0)), (5, .int (nI m1))]) dX10_move_163 (q := 165) rfl (Nat.le_of_ble_eq_true rfl) rfl ?_
    exact lX10_move_165 hm hR h u q a0 d0 m1 hu hq hac hdc hbe hop m1 0 (by omega) τ (fun j a b => ho j b) (fun i hi => h15 i (by have := nge (k := m1) (nI_toInt (by omega)) (by omega) c132; omega)) (fun i => by rw [if_neg (by omega), ho 14 (by decide)])
  · have hkm1 : k < m1 := nlt (nI_toInt (by omega)) (by omega) c132
    refine v_aload_n h (i := 0) dX10_move_135 (q := 136) rfl rfl 1 rfl ?_
    refine v_get h (k := 22) (v := .ref (b_ad w 15)) cls10 hm.1.1 hm.1.2 (Nat.le_of_ble_eq_true rfl) m871 rfl dX10_move_136 (q := 139) rfl ?_
    refine v_iload h (i := 6) dX10_move_139 (q := 141) rfl 0 rfl ?_
    refine v_aload_n h (i := 0) dX10_move_141 (q := 142) rfl rfl 1 rfl ?_
    refine v_get h (k := 21) (v := .ref (b_ad w 14)) cls10 hm.1.1 hm.1.2 (Nat.le_of_ble_eq_true rfl) m870 rfl dX10_move_142 (q := 145) rfl ?_
    refine v_bipush h (v := 40) dX10_move_145 (q := 147) rfl (by decide) ?_
    refine v_iload_n h (i := 1) dX10_move_147 (q := 148) rfl rfl 2 rfl ?_
    refine v_imul h dX10_move_148 (q := 149) rfl ?_
    rw [show (40 * (nI u) : Int32) = nI (40 * u) from (nI_mulN 40 u)]
    refine v_iload_n h (i := 2) dX10_move_149 (q := 150) rfl rfl 3 rfl ?_
    refine v_iadd h dX10_move_150 (q := 151) rfl ?_
    rw [show ((nI (40 * u)) + (nI a0) : Int32) = nI (40 * u + a0) from (nI_add _ _)]
    refine v_iload h (i := 6) dX10_move_151 (q := 153) rfl 0 rfl ?_
    refine v_iadd h dX10_move_153 (q := 154) rfl ?_
    rw [show ((nI (40 * u + a0)) + (nI k) : Int32) = nI (40 * u + a0 + k) from (nI_add _ _)]
    refine v_iald h (k := (40 * u + a0 + k)) hm.2.2.2.2.2.2.2.2.2.2.2.2.2.2.1.1 hm.2.2.2.2.2.2.2.2.2.2.2.2.2.2.1.2 (vp_in_nI (by omega) (by decide)) (nI_clamp (by omega)) dX10_move_154 (q := 155) rfl ?_
    rw [show (τ 14 ((40 * u + a0 + k)) : Int32) = (A.2.2.2.2.2 u).2.2 (a0 + k) from (by rw [ho 14 (by decide), show 40 * u + a0 + k = 40 * u + (a0 + k) by omega]; exact ((hR.sh hu).2.2.2.2.2 (a0 + k) (by omega)).1)]
    refine v_iast h (k := k) hm.2.2.2.2.2.2.2.2.2.2.2.2.2.2.2.1 hm.2.2.2.2.2.2.2.2.2.2.2.2.2.2.2.2 (vp_in_nI (by omega) (by decide)) (nI_clamp (by omega)) dX10_move_155 (q := 156) rfl ?_
    refine v_iinc h (p := 0) (u := nI (k + 1)) (ls1 := [(6, .int (nI (k + 1))), (0, .ref (b_ad w 0)), (1, .int (nI u)), (2, .int (nI a0)), (3, .int (nI q)), (4, .int (nI d0)), (5, .int (nI m1))]) dX10_move_156 (q := 159) rfl rfl (nI_1 k) (Nat.le_of_ble_eq_true rfl) rfl ?_
    refine v_goto h (t := 128) dX10_move_159 (by decide) ?_
    exact ih (m - 1) (by omega) (k + 1) (by omega) _ (fun j hj => by rw [b_up_n hj]; exact ho j hj) (fun i hi => by
      rw [b_up_s]
      by_cases e : i = k
      · rw [e, upd_s]
      · rw [upd_n e]; exact h15 i (by omega))
set_option maxHeartbeats 4000000 in
set_option maxRecDepth 100000 in
theorem c_X10_move {w : bw} {σ : bSt} {A : bA} {s i o j n : Int32} (hm : sModel w) (hR : RQ σ A) : MV yX10_move cX10_move 7 (some .int) (rmm 2 42) w [.ref (b_ad w 0), .int s, .int i, .int o, .int j, .int n] σ (pM (oMove s i o j n A)) := by
  refine b_met (ls := [(0, .ref (b_ad w 0)), (1, .int s), (2, .int i), (3, .int o), (4, .int j), (5, .int n)]) (by decide) (Nat.le_of_ble_eq_true rfl) rfl (fun x h => ?_)
  refine v_iload_n h (i := 1) dX10_move_0 (q := 1) rfl rfl 1 rfl ?_
  refine v_callS h (As := [.int s]) (rest := []) (c_X10_isSheet (v := s)) cal_X10_isSheet m1302 m1301 ⟨rfl, rfl, Nat.le_of_ble_eq_true rfl, Nat.le_of_ble_eq_true rfl⟩ rfl rfl (Nat.le_of_ble_eq_true rfl) dX10_move_1 (q := 4) rfl (kB (fun c1 => ?_) (fun c1 => ?_))
  · refine v_if_eq h (t := 14) dX10_move_4 (by decide) (q := 7) rfl (fun c => absurd c (by decide)) (fun _ => ?_)
    refine v_iload_n h (i := 3) dX10_move_7 (q := 8) rfl rfl 3 rfl ?_
    refine v_callS h (As := [.int o]) (rest := []) (c_X10_isSheet (v := o)) cal_X10_isSheet m1302 m1301 ⟨rfl, rfl, Nat.le_of_ble_eq_true rfl, Nat.le_of_ble_eq_true rfl⟩ rfl rfl (Nat.le_of_ble_eq_true rfl) dX10_move_8 (q := 11) rfl (kB (fun c8 => ?_) (fun c8 => ?_))
    · refine v_if_ne h (t := 21) dX10_move_11 (by decide) (q := 14) rfl (fun _ => ?_) (fun c => absurd c (by decide))
      obtain ⟨u, hu, rfl⟩ := inN_nI (s_in.mp c1)
      obtain ⟨q, hq, rfl⟩ := inN_nI (s_in.mp c8)
      have gl1 := (hR.sh hu).2.2.2.1
      have gl2 := (hR.sh hq).2.2.2.1
      refine v_aload_n h (i := 0) dX10_move_21 (q := 22) rfl rfl 0 rfl ?_
      refine v_get h (k := 19) (v := .ref (b_ad w 12)) cls10 hm.1.1 hm.1.2 (Nat.le_of_ble_eq_true rfl) m868 rfl dX10_move_22 (q := 25) rfl ?_
      refine v_iload_n h (i := 1) dX10_move_25 (q := 26) rfl rfl 1 rfl ?_
      refine v_iald h (k := u) hm.2.2.2.2.2.2.2.2.2.2.2.2.1.1 hm.2.2.2.2.2.2.2.2.2.2.2.2.1.2 (vp_in_nI (by omega) (by decide)) (nI_clamp (by omega)) dX10_move_26 (q := 27) rfl ?_
      rw [show (σ 12 u : Int32) = (A.2.2.2.2.2 u).1 from (hR.sh hu).1]
      refine v_if_eq h (t := 39) dX10_move_27 (by decide) (q := 30) rfl (fun c27 => ?_) (fun c27 => ?_)
      · refine v_aload_n h (i := 0) dX10_move_39 (q := 40) rfl rfl 0 rfl ?_
        refine v_ldcw h (v := -1000000002) m1261 dX10_move_40 (q := 43) rfl ?_
        refine v_callV h (As := [.int (-1000000002)]) (rest := []) (c_X10_finding (σ := σ) (e := 2) (v := -1000000002) hm (by decide) (by decide +kernel)) cal_X10_finding calV_X10_finding m932 ⟨rfl, rfl, Nat.le_of_ble_eq_true rfl, Nat.le_of_ble_eq_true rfl⟩ rfl hm.1.1 hm.1.2 ⟨_, _, rfl⟩ rfl (Nat.le_of_ble_eq_true rfl) dX10_move_43 (q := 46) rfl (kI ?_)
        exact v_iret h dX10_move_46 (pM_of (by unfold oMove shA; rw [if_pos ⟨s_in.mp c1, s_in.mp c8⟩, cl_nI (n := u) (by omega), cl_nI (n := q) (by omega), if_pos (Or.inl c27), ref2]) (hR.err (by decide)))
      · refine v_aload_n h (i := 0) dX10_move_30 (q := 31) rfl rfl 0 rfl ?_
        refine v_get h (k := 19) (v := .ref (b_ad w 12)) cls10 hm.1.1 hm.1.2 (Nat.le_of_ble_eq_true rfl) m868 rfl dX10_move_31 (q := 34) rfl ?_
        refine v_iload_n h (i := 3) dX10_move_34 (q := 35) rfl rfl 3 rfl ?_
        refine v_iald h (k := q) hm.2.2.2.2.2.2.2.2.2.2.2.2.1.1 hm.2.2.2.2.2.2.2.2.2.2.2.2.1.2 (vp_in_nI (by omega) (by decide)) (nI_clamp (by omega)) dX10_move_35 (q := 36) rfl ?_
        rw [show (σ 12 q : Int32) = (A.2.2.2.2.2 q).1 from (hR.sh hq).1]
        refine v_if_ne h (t := 47) dX10_move_36 (by decide) (q := 39) rfl (fun c36 => ?_) (fun c36 => ?_)
        · refine v_aload_n h (i := 0) dX10_move_47 (q := 48) rfl rfl 0 rfl ?_
          refine v_get h (k := 19) (v := .ref (b_ad w 12)) cls10 hm.1.1 hm.1.2 (Nat.le_of_ble_eq_true rfl) m868 rfl dX10_move_48 (q := 51) rfl ?_
          refine v_iload_n h (i := 1) dX10_move_51 (q := 52) rfl rfl 1 rfl ?_
          refine v_iald h (k := u) hm.2.2.2.2.2.2.2.2.2.2.2.2.1.1 hm.2.2.2.2.2.2.2.2.2.2.2.2.1.2 (vp_in_nI (by omega) (by decide)) (nI_clamp (by omega)) dX10_move_52 (q := 53) rfl ?_
          rw [show (σ 12 u : Int32) = (A.2.2.2.2.2 u).1 from (hR.sh hu).1]
          refine v_aload_n h (i := 0) dX10_move_53 (q := 54) rfl rfl 0 rfl ?_
          refine v_get h (k := 19) (v := .ref (b_ad w 12)) cls10 hm.1.1 hm.1.2 (Nat.le_of_ble_eq_true rfl) m868 rfl dX10_move_54 (q := 57) rfl ?_
          refine v_iload_n h (i := 3) dX10_move_57 (q := 58) rfl rfl 3 rfl ?_
          refine v_iald h (k := q) hm.2.2.2.2.2.2.2.2.2.2.2.2.1.1 hm.2.2.2.2.2.2.2.2.2.2.2.2.1.2 (vp_in_nI (by omega) (by decide)) (nI_clamp (by omega)) dX10_move_58 (q := 59) rfl ?_
          rw [show (σ 12 q : Int32) = (A.2.2.2.2.2 q).1 from (hR.sh hq).1]
          refine v_icmp_eq h (t := 69) dX10_move_59 (by decide) (q := 62) rfl (fun c59 => ?_) (fun c59 => ?_)
          · refine v_iload h (i := 5) dX10_move_69 (q := 71) rfl 5 rfl ?_
            refine v_if_lt h (t := 118) dX10_move_71 (by decide) (q := 74) rfl (fun c71 => ?_) (fun c71 => ?_)
            · refine v_aload_n h (i := 0) dX10_move_118 (q := 119) rfl rfl 0 rfl ?_
              refine v_ldc h (v := -1000000001) m931 dX10_move_119 (q := 121) rfl ?_
              refine v_callV h (As := [.int (-1000000001)]) (rest := []) (c_X10_finding (σ := σ) (e := 1) (v := -1000000001) hm (by decide) (by decide +kernel)) cal_X10_finding calV_X10_finding m932 ⟨rfl, rfl, Nat.le_of_ble_eq_true rfl, Nat.le_of_ble_eq_true rfl⟩ rfl hm.1.1 hm.1.2 ⟨_, _, rfl⟩ rfl (Nat.le_of_ble_eq_true rfl) dX10_move_121 (q := 124) rfl (kI ?_)
              exact v_iret h dX10_move_124 (pM_of (by unfold oMove shA; rw [if_pos ⟨s_in.mp c1, s_in.mp c8⟩, cl_nI (n := u) (by omega), cl_nI (n := q) (by omega), if_neg (fun z => z.elim c27 c36), if_neg (fun z => z c59), if_neg (fun z => z.1.2.1 c71), ref1]) (hR.err (by decide)))
            · refine v_iload_n h (i := 2) dX10_move_74 (q := 75) rfl rfl 2 rfl ?_
              refine v_if_lt h (t := 118) dX10_move_75 (by decide) (q := 78) rfl (fun c75 => ?_) (fun c75 => ?_)
              · refine v_aload_n h (i := 0) dX10_move_118 (q := 119) rfl rfl 0 rfl ?_
                refine v_ldc h (v := -1000000001) m931 dX10_move_119 (q := 121) rfl ?_
                refine v_callV h (As := [.int (-1000000001)]) (rest := []) (c_X10_finding (σ := σ) (e := 1) (v := -1000000001) hm (by decide) (by decide +kernel)) cal_X10_finding calV_X10_finding m932 ⟨rfl, rfl, Nat.le_of_ble_eq_true rfl, Nat.le_of_ble_eq_true rfl⟩ rfl hm.1.1 hm.1.2 ⟨_, _, rfl⟩ rfl (Nat.le_of_ble_eq_true rfl) dX10_move_121 (q := 124) rfl (kI ?_)
                exact v_iret h dX10_move_124 (pM_of (by unfold oMove shA; rw [if_pos ⟨s_in.mp c1, s_in.mp c8⟩, cl_nI (n := u) (by omega), cl_nI (n := q) (by omega), if_neg (fun z => z.elim c27 c36), if_neg (fun z => z c59), if_neg (fun z => z.1.1 c75), ref1]) (hR.err (by decide)))
              · refine v_iload h (i := 4) dX10_move_78 (q := 80) rfl 4 rfl ?_
                refine v_if_lt h (t := 118) dX10_move_80 (by decide) (q := 83) rfl (fun c80 => ?_) (fun c80 => ?_)
                · refine v_aload_n h (i := 0) dX10_move_118 (q := 119) rfl rfl 0 rfl ?_
                  refine v_ldc h (v := -1000000001) m931 dX10_move_119 (q := 121) rfl ?_
                  refine v_callV h (As := [.int (-1000000001)]) (rest := []) (c_X10_finding (σ := σ) (e := 1) (v := -1000000001) hm (by decide) (by decide +kernel)) cal_X10_finding calV_X10_finding m932 ⟨rfl, rfl, Nat.le_of_ble_eq_true rfl, Nat.le_of_ble_eq_true rfl⟩ rfl hm.1.1 hm.1.2 ⟨_, _, rfl⟩ rfl (Nat.le_of_ble_eq_true rfl) dX10_move_121 (q := 124) rfl (kI ?_)
                  exact v_iret h dX10_move_124 (pM_of (by unfold oMove shA; rw [if_pos ⟨s_in.mp c1, s_in.mp c8⟩, cl_nI (n := u) (by omega), cl_nI (n := q) (by omega), if_neg (fun z => z.elim c27 c36), if_neg (fun z => z c59), if_neg (fun z => z.2.1 c80), ref1]) (hR.err (by decide)))
                · refine v_iload_n h (i := 2) dX10_move_83 (q := 84) rfl rfl 2 rfl ?_
                  refine v_i2l h (v := i.toInt64) dX10_move_84 (q := 85) rfl rfl ?_
                  refine v_iload h (i := 5) dX10_move_85 (q := 87) rfl 5 rfl ?_
                  refine v_i2l h (v := n.toInt64) dX10_move_87 (q := 88) rfl rfl ?_
                  refine v_ladd h dX10_move_88 (q := 89) rfl ?_
                  refine v_aload_n h (i := 0) dX10_move_89 (q := 90) rfl rfl 0 rfl ?_
                  refine v_get h (k := 20) (v := .ref (b_ad w 13)) cls10 hm.1.1 hm.1.2 (Nat.le_of_ble_eq_true rfl) m869 rfl dX10_move_90 (q := 93) rfl ?_
                  refine v_iload_n h (i := 1) dX10_move_93 (q := 94) rfl rfl 1 rfl ?_
                  refine v_iald h (k := u) hm.2.2.2.2.2.2.2.2.2.2.2.2.2.1.1 hm.2.2.2.2.2.2.2.2.2.2.2.2.2.1.2 (vp_in_nI (by omega) (by decide)) (nI_clamp (by omega)) dX10_move_94 (q := 95) rfl ?_
                  rw [show (σ 13 u : Int32) = nI (A.2.2.2.2.2 u).2.1 from (hR.sh hu).2.2.1]
                  refine v_i2l h (v := (nI (A.2.2.2.2.2 u).2.1).toInt64) dX10_move_95 (q := 96) rfl rfl ?_
                  refine v_lcmp h dX10_move_96 (q := 97) rfl ?_
                  refine v_if_gt h (t := 118) dX10_move_97 (by decide) (q := 100) rfl (fun c97 => ?_) (fun c97 => ?_)
                  · refine v_aload_n h (i := 0) dX10_move_118 (q := 119) rfl rfl 0 rfl ?_
                    refine v_ldc h (v := -1000000001) m931 dX10_move_119 (q := 121) rfl ?_
                    refine v_callV h (As := [.int (-1000000001)]) (rest := []) (c_X10_finding (σ := σ) (e := 1) (v := -1000000001) hm (by decide) (by decide +kernel)) cal_X10_finding calV_X10_finding m932 ⟨rfl, rfl, Nat.le_of_ble_eq_true rfl, Nat.le_of_ble_eq_true rfl⟩ rfl hm.1.1 hm.1.2 ⟨_, _, rfl⟩ rfl (Nat.le_of_ble_eq_true rfl) dX10_move_121 (q := 124) rfl (kI ?_)
                    exact v_iret h dX10_move_124 (pM_of (by unfold oMove shA; rw [if_pos ⟨s_in.mp c1, s_in.mp c8⟩, cl_nI (n := u) (by omega), cl_nI (n := q) (by omega), if_neg (fun z => z.elim c27 c36), if_neg (fun z => z c59), if_neg (fun z => (hf_M gl1 c71 c75).mpr z.1 c97), ref1]) (hR.err (by decide)))
                  · refine v_iload h (i := 4) dX10_move_100 (q := 102) rfl 4 rfl ?_
                    refine v_i2l h (v := j.toInt64) dX10_move_102 (q := 103) rfl rfl ?_
                    refine v_iload h (i := 5) dX10_move_103 (q := 105) rfl 5 rfl ?_
                    refine v_i2l h (v := n.toInt64) dX10_move_105 (q := 106) rfl rfl ?_
                    refine v_ladd h dX10_move_106 (q := 107) rfl ?_
                    refine v_aload_n h (i := 0) dX10_move_107 (q := 108) rfl rfl 0 rfl ?_
                    refine v_get h (k := 20) (v := .ref (b_ad w 13)) cls10 hm.1.1 hm.1.2 (Nat.le_of_ble_eq_true rfl) m869 rfl dX10_move_108 (q := 111) rfl ?_
                    refine v_iload_n h (i := 3) dX10_move_111 (q := 112) rfl rfl 3 rfl ?_
                    refine v_iald h (k := q) hm.2.2.2.2.2.2.2.2.2.2.2.2.2.1.1 hm.2.2.2.2.2.2.2.2.2.2.2.2.2.1.2 (vp_in_nI (by omega) (by decide)) (nI_clamp (by omega)) dX10_move_112 (q := 113) rfl ?_
                    rw [show (σ 13 q : Int32) = nI (A.2.2.2.2.2 q).2.1 from (hR.sh hq).2.2.1]
                    refine v_i2l h (v := (nI (A.2.2.2.2.2 q).2.1).toInt64) dX10_move_113 (q := 114) rfl rfl ?_
                    refine v_lcmp h dX10_move_114 (q := 115) rfl ?_
                    refine v_if_le h (t := 125) dX10_move_115 (by decide) (q := 118) rfl (fun c115 => ?_) (fun c115 => ?_)
                    · have hf1 := (hf_M gl1 c71 c75).mp c97
                      have hf2 := (hf_M gl2 c71 c80).mp (Int32.not_lt.mpr c115)
                      have hop : oMove (nI u) i (nI q) j n A = (n, setS A q ((A.2.2.2.2.2 q).1, (A.2.2.2.2.2 q).2.1, cpS (A.2.2.2.2.2 u).2.2 (A.2.2.2.2.2 q).2.2 (cl i) (cl j) (cl n))) := by
                        unfold oMove shA; rw [if_pos ⟨s_in.mp c1, s_in.mp c8⟩, cl_nI (n := u) (by omega), cl_nI (n := q) (by omega), if_neg (fun z => z.elim c27 c36), if_neg (fun z => z c59), if_pos ⟨hf1, hf2⟩]
                      have hbe := c59
                      obtain ⟨a0, m0, ei, en, hac⟩ := hf_nat gl1 hf1
                      obtain ⟨d0, m1, ej, en1, hdc⟩ := hf_nat gl2 hf2
                      have em : m1 = m0 := nI_inj (by omega) (by omega) (en1.symm.trans en)
                      subst em
                      subst ei ej en
                      rw [cl_nI (n := a0) (by omega), cl_nI (n := d0) (by omega), cl_nI (n := m1) (by omega)] at hop
                      refine v_iconst h (v := 0) dX10_move_125 (q := 126) rfl (by decide) ?_
                      refine v_istore h (i := 6) (ls1 := [(6, .int 0), (0, .ref (b_ad w 0)), (1, .int (nI u)), (2, .int (nI a0)), (3, .int (nI q)), (4, .int (nI d0)), (5, .int (nI m1))]) dX10_move_126 (q := 128) rfl (Nat.le_of_ble_eq_true rfl) rfl ?_
                      exact lX10_move_128 hm hR h u q a0 d0 m1 hu hq hac hdc hbe hop m1 0 (by omega) σ (fun _ _ => rfl) (fun i hi => absurd hi (Nat.not_lt_zero i))
                    · refine v_aload_n h (i := 0) dX10_move_118 (q := 119) rfl rfl 0 rfl ?_
                      refine v_ldc h (v := -1000000001) m931 dX10_move_119 (q := 121) rfl ?_
                      refine v_callV h (As := [.int (-1000000001)]) (rest := []) (c_X10_finding (σ := σ) (e := 1) (v := -1000000001) hm (by decide) (by decide +kernel)) cal_X10_finding calV_X10_finding m932 ⟨rfl, rfl, Nat.le_of_ble_eq_true rfl, Nat.le_of_ble_eq_true rfl⟩ rfl hm.1.1 hm.1.2 ⟨_, _, rfl⟩ rfl (Nat.le_of_ble_eq_true rfl) dX10_move_121 (q := 124) rfl (kI ?_)
                      exact v_iret h dX10_move_124 (pM_of (by unfold oMove shA; rw [if_pos ⟨s_in.mp c1, s_in.mp c8⟩, cl_nI (n := u) (by omega), cl_nI (n := q) (by omega), if_neg (fun z => z.elim c27 c36), if_neg (fun z => z c59), if_neg (fun z => (hf_M gl2 c71 c80).mpr z.2 (Int32.not_le.mp c115)), ref1]) (hR.err (by decide)))
          · refine v_aload_n h (i := 0) dX10_move_62 (q := 63) rfl rfl 0 rfl ?_
            refine v_ldc h (v := -1000000005) m984 dX10_move_63 (q := 65) rfl ?_
            refine v_callV h (As := [.int (-1000000005)]) (rest := []) (c_X10_finding (σ := σ) (e := 5) (v := -1000000005) hm (by decide) (by decide +kernel)) cal_X10_finding calV_X10_finding m932 ⟨rfl, rfl, Nat.le_of_ble_eq_true rfl, Nat.le_of_ble_eq_true rfl⟩ rfl hm.1.1 hm.1.2 ⟨_, _, rfl⟩ rfl (Nat.le_of_ble_eq_true rfl) dX10_move_65 (q := 68) rfl (kI ?_)
            exact v_iret h dX10_move_68 (pM_of (by unfold oMove shA; rw [if_pos ⟨s_in.mp c1, s_in.mp c8⟩, cl_nI (n := u) (by omega), cl_nI (n := q) (by omega), if_neg (fun z => z.elim c27 c36), if_pos c59, ref5]) (hR.err (by decide)))
        · refine v_aload_n h (i := 0) dX10_move_39 (q := 40) rfl rfl 0 rfl ?_
          refine v_ldcw h (v := -1000000002) m1261 dX10_move_40 (q := 43) rfl ?_
          refine v_callV h (As := [.int (-1000000002)]) (rest := []) (c_X10_finding (σ := σ) (e := 2) (v := -1000000002) hm (by decide) (by decide +kernel)) cal_X10_finding calV_X10_finding m932 ⟨rfl, rfl, Nat.le_of_ble_eq_true rfl, Nat.le_of_ble_eq_true rfl⟩ rfl hm.1.1 hm.1.2 ⟨_, _, rfl⟩ rfl (Nat.le_of_ble_eq_true rfl) dX10_move_43 (q := 46) rfl (kI ?_)
          exact v_iret h dX10_move_46 (pM_of (by unfold oMove shA; rw [if_pos ⟨s_in.mp c1, s_in.mp c8⟩, cl_nI (n := u) (by omega), cl_nI (n := q) (by omega), if_pos (Or.inr c36), ref2]) (hR.err (by decide)))
    · refine v_if_ne h (t := 21) dX10_move_11 (by decide) (q := 14) rfl (fun c => absurd (by decide) c) (fun _ => ?_)
      refine v_aload_n h (i := 0) dX10_move_14 (q := 15) rfl rfl 0 rfl ?_
      refine v_ldc h (v := -1000000001) m931 dX10_move_15 (q := 17) rfl ?_
      refine v_callV h (As := [.int (-1000000001)]) (rest := []) (c_X10_finding (σ := σ) (e := 1) (v := -1000000001) hm (by decide) (by decide +kernel)) cal_X10_finding calV_X10_finding m932 ⟨rfl, rfl, Nat.le_of_ble_eq_true rfl, Nat.le_of_ble_eq_true rfl⟩ rfl hm.1.1 hm.1.2 ⟨_, _, rfl⟩ rfl (Nat.le_of_ble_eq_true rfl) dX10_move_17 (q := 20) rfl (kI ?_)
      exact v_iret h dX10_move_20 (pM_of (by unfold oMove; rw [if_neg (fun z => by first | exact c8 (s_in.mpr z.2)), ref1]) (hR.err (by decide)))
  · refine v_if_eq h (t := 14) dX10_move_4 (by decide) (q := 7) rfl (fun _ => ?_) (fun c => absurd (by decide) c)
    refine v_aload_n h (i := 0) dX10_move_14 (q := 15) rfl rfl 0 rfl ?_
    refine v_ldc h (v := -1000000001) m931 dX10_move_15 (q := 17) rfl ?_
    refine v_callV h (As := [.int (-1000000001)]) (rest := []) (c_X10_finding (σ := σ) (e := 1) (v := -1000000001) hm (by decide) (by decide +kernel)) cal_X10_finding calV_X10_finding m932 ⟨rfl, rfl, Nat.le_of_ble_eq_true rfl, Nat.le_of_ble_eq_true rfl⟩ rfl hm.1.1 hm.1.2 ⟨_, _, rfl⟩ rfl (Nat.le_of_ble_eq_true rfl) dX10_move_17 (q := 20) rfl (kI ?_)
    exact v_iret h dX10_move_20 (pM_of (by unfold oMove; rw [if_neg (fun z => by first | exact c1 (s_in.mpr z.1)), ref1]) (hR.err (by decide)))
