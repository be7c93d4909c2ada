/-! the model's sheets -/
theorem s_in {s : Int32} : wi s 0 3 ↔ inN s 4 := by
  unfold wi inN
  rw [i_lt, i_lt]
  have h0 : (0 : Int32).toInt = 0 := rfl
  have h3 : (3 : Int32).toInt = 3 := rfl
  omega
theorem RQ.sheet {σ τ : bSt} {A : bA} {s : Nat} {p : Int32 × Nat × (Nat → Int32)} (h : RQ σ A) (hs : s < 4) (ho : ∀ j, j ≠ 12 → j ≠ 13 → j ≠ 14 → j ≠ 15 → τ j = σ j) (e12 : τ 12 s = p.1 ∧ ∀ t, t < 4 → t ≠ s → τ 12 t = σ 12 t) (e13 : τ 13 s = nI p.2.1 ∧ ∀ t, t < 4 → t ≠ s → τ 13 t = σ 13 t) (h2 : bitsOK p.1) (h4 : p.2.1 ≤ 40) (h5 : p.1 = 0 → p.2.1 = 0) (e14 : ∀ k, k < 40 → τ 14 (40 * s + k) = p.2.2 k ∧ seS p.1 (p.2.2 k) = p.2.2 k) (o14 : ∀ i, (i < 40 * s ∨ 40 * s + 40 ≤ i) → τ 14 i = σ 14 i) : RQ τ (setS A s p) := by
  obtain ⟨g1, g2, g3, g4, g5, g6, g7⟩ := h
  refine ⟨by rw [ho 1 (by omega) (by omega) (by omega) (by omega)]; exact g1, g2.sc (ho 5 (by omega) (by omega) (by omega) (by omega)), by rw [ho 0 (by omega) (by omega) (by omega) (by omega)]; exact g3, fun z => by rw [ho 2 (by omega) (by omega) (by omega) (by omega)]; exact g4 z, by rw [ho 4 (by omega) (by omega) (by omega) (by omega)]; exact g5, by rw [ho 0 (by omega) (by omega) (by omega) (by omega), ho 11 (by omega) (by omega) (by omega) (by omega)]; exact g6, fun t ht => ?_⟩
  show _ = (if t = s then p else _).1 ∧ bitsOK (if t = s then p else _).1 ∧ _ = nI (if t = s then p else _).2.1 ∧ (if t = s then p else _).2.1 ≤ 40 ∧ ((if t = s then p else _).1 = 0 → (if t = s then p else _).2.1 = 0) ∧ ∀ k, k < 40 → _ = (if t = s then p else _).2.2 k ∧ seS (if t = s then p else _).1 ((if t = s then p else _).2.2 k) = (if t = s then p else _).2.2 k
  by_cases e : t = s
  · subst e
    rw [if_pos rfl]
    exact ⟨e12.1, h2, e13.1, h4, h5, e14⟩
  · rw [if_neg e]
    obtain ⟨a1, a2, a3, a4, a5, a6⟩ := g7 t ht
    exact ⟨by rw [e12.2 t ht e]; exact a1, a2, by rw [e13.2 t ht e]; exact a3, a4, a5, fun k hk => by rw [o14 _ (by omega)]; exact a6 k hk⟩
theorem se_0 {b : Int32} : seS b 0 = 0 := by
  unfold seS
  repeat' split
  all_goals rfl
theorem se_se {b v : Int32} : seS b (seS b v) = seS b v := by
  unfold seS
  by_cases c8 : b = 8
  · simp only [if_pos c8]
    have h := lg_i2b_range v
    exact lg_i2b_small h.1 h.2
  · simp only [if_neg c8]
    by_cases c16 : b = 16
    · simp only [if_pos c16]
      have h := lg_i2s_range v
      exact lg_i2s_small h.1 h.2
    · simp only [if_neg c16]
theorem lo8_tab : ∀ c : Nat, c < 64 → (nI c).toInt8.toInt32 = nI c ∧ (nI c).toInt16.toInt32 = nI c ∧ nI c &&& 255 = nI c ∧ nI c &&& 65535 = nI c := by decide +kernel
theorem i8_and (v : Int32) : (v &&& 255).toInt8 = v.toInt8 := by
  apply Int8.toBitVec_inj.mp
  rw [Int32.toBitVec_toInt8, Int32.toBitVec_toInt8, Int32.toBitVec_and]
  apply BitVec.eq_of_getLsbD_eq
  intro i hi
  rw [BitVec.signExtend_eq_setWidth_of_le _ (by decide), BitVec.signExtend_eq_setWidth_of_le _ (by decide), BitVec.getLsbD_setWidth, BitVec.getLsbD_setWidth, BitVec.getLsbD_and, i255 i (by omega), decide_eq_true hi, Bool.and_true]
theorem i65535 : ∀ i : Nat, i < 32 → (65535 : Int32).toBitVec.getLsbD i = decide (i < 16) := by decide +kernel
theorem i16_and (v : Int32) : (v &&& 65535).toInt16 = v.toInt16 := by
  apply Int16.toBitVec_inj.mp
  rw [Int32.toBitVec_toInt16, Int32.toBitVec_toInt16, Int32.toBitVec_and]
  apply BitVec.eq_of_getLsbD_eq
  intro i hi
  rw [BitVec.signExtend_eq_setWidth_of_le _ (by decide), BitVec.signExtend_eq_setWidth_of_le _ (by decide), BitVec.getLsbD_setWidth, BitVec.getLsbD_setWidth, BitVec.getLsbD_and, i65535 i (by omega), decide_eq_true hi, Bool.and_true]
theorem wr_cell {b v : Int32} {c : Nat} (hf : seS b v = v) (hc : c < 64) : wrS b v = nI c ↔ v = nI c := by
  have t := lo8_tab c hc
  unfold seS at hf
  unfold wrS
  by_cases c8 : b = 8
  · rw [if_pos c8] at hf ⊢
    constructor
    · intro e
      rw [← hf, ← i8_and, e]
      exact t.1
    · intro e
      rw [e]
      exact t.2.2.1
  · rw [if_neg c8] at hf ⊢
    by_cases c16 : b = 16
    · rw [if_pos c16] at hf ⊢
      constructor
      · intro e
        rw [← hf, ← i16_and, e]
        exact t.2.1
      · intro e
        rw [e]
        exact t.2.2.2
    · rw [if_neg c16]
theorem wr_31 {b v : Int32} (hf : seS b v = v) : (wi (wrS b v) 0 31 ↔ wi v 0 31) ∧ (wi v 0 31 → wrS b v = v) := by
  refine ⟨⟨fun h => ?_, fun h => ?_⟩, fun h => ?_⟩
  · obtain ⟨u, hu, e⟩ := wi_0 (n := 31) h rfl
    rw [(wr_cell hf (by omega)).mp e, ← e]
    exact h
  · obtain ⟨u, hu, e⟩ := wi_0 (n := 31) h rfl
    rw [(wr_cell hf (by omega)).mpr e, ← e]
    exact h
  · obtain ⟨u, hu, e⟩ := wi_0 (n := 31) h rfl
    rw [(wr_cell hf (by omega)).mpr e, e]
theorem hf_M {i n : Int32} {len : Nat} (hl : len ≤ 40) (hn : ¬ n < 0) (hi : ¬ i < 0) : ¬ 0 < lg_cmp (i.toInt64 + n.toInt64) (nI len).toInt64 ↔ hfN i n len := by
  rw [lg_cmp_gt, Int64.lt_iff_toInt_lt, lg_i2l_add, Int32.toInt_toInt64, nI_toInt (by omega)]
  constructor
  · intro h
    obtain ⟨a, ha, rfl⟩ := nI_of hi
    obtain ⟨c, hc, rfl⟩ := nI_of hn
    rw [nI_toInt ha, nI_toInt hc] at h
    refine ⟨hi, hn, ?_⟩
    rw [nI_sub c (by omega), i_lt, nI_toInt (by omega), nI_toInt ha]
    omega
  · intro h
    obtain ⟨a, c, rfl, rfl, hac⟩ := hf_nat hl h
    rw [nI_toInt (by omega), nI_toInt (by omega)]
    omega
def rfV (A : bA) (s b : Int32) : Int32 := if inN s 4 ∧ inN b (afN A.1.1) then (if (shA A s).1 = 0 then -1000000002 else 0) else -1000000001
theorem rf_0 {A : bA} {s b : Int32} (h : rfV A s b = 0) : (inN s 4 ∧ inN b (afN A.1.1)) ∧ ¬ (shA A s).1 = 0 := by
  unfold rfV at h
  by_cases c : inN s 4 ∧ inN b (afN A.1.1)
  · rw [if_pos c] at h
    refine ⟨c, fun z => ?_⟩
    rw [if_pos z] at h
    exact absurd h (by decide)
  · rw [if_neg c] at h
    exact absurd h (by decide)
theorem rf_n {A : bA} {s b : Int32} (h : ¬ rfV A s b = 0) : ∃ e : Nat, e < 6 ∧ rfV A s b = -1000000000 - nI e ∧ oPart s b A = refA e A ∧ oJudge s b A = refA e A := by
  unfold rfV at *
  by_cases c : inN s 4 ∧ inN b (afN A.1.1)
  · rw [if_pos c] at h ⊢
    by_cases z : (shA A s).1 = 0
    · rw [if_pos z]
      refine ⟨2, by decide, by decide +kernel, ?_, ?_⟩
      · unfold oPart
        rw [if_pos c, if_pos z]
      · unfold oJudge
        rw [if_pos c, if_pos z]
    · rw [if_neg z] at h
      exact absurd rfl h
  · rw [if_neg c]
    refine ⟨1, by decide, by decide +kernel, ?_, ?_⟩
    · unfold oPart
      rw [if_neg c]
    · unfold oJudge
      rw [if_neg c]

set_option maxHeartbeats 4000000 in
set_option maxRecDepth 100000 in
theorem lX10_sheet_93 {w : bw} {σ : bSt} {A : bA} {s b n : Int32} (hm : sModel w) (hR : RQ σ A) {x : bX} (h : Cx x w cX10_sheet RX10 5 (some .int) (rmm 2 42)) : ∀ u n2 : Nat, u < 4 → (b = 0 ∨ b = 8 ∨ b = 16 ∨ b = 32) → n2 ≤ 40 → (b = 0 → n2 = 0) → oSheet s b n A = (1, setS A u (b, n2, fun _ => 0)) → ∀ m k : Nat, k + m = 40 → ∀ τ : bSt, (∀ j, j ≠ 12 → j ≠ 13 → j ≠ 14 → τ j = σ j) → τ 12 = upd (σ 12) u b → τ 13 = upd (σ 13) u (nI n2) → (∀ i, i < k → τ 14 (40 * u + i) = 0) → (∀ i, (i < 40 * u ∨ 40 * u + 40 ≤ i) → τ 14 i = σ 14 i) → V x w 5 (pM (oSheet s b n A)) 93 [(4, .int (nI k)), (0, .ref (b_ad w 0)), (1, .int (nI u))] [] τ := by
  intro u n2 hu hbo hn2 hz hop
  refine b_ind (fun m ih => ?_)
  intro k hkm τ ho e12 e13 hk0 hko
  refine v_iload h (i := 4) dX10_sheet_93 (q := 95) rfl 0 rfl ?_
  refine v_bipush h (v := 40) dX10_sheet_95 (q := 97) rfl (by decide) ?_
  refine v_icmp_ge h (t := 119) dX10_sheet_97 (by decide) (q := 100) rfl (fun c97 => ?_) (fun c97 => ?_)
  · refine v_iconst h (v := 1) dX10_sheet_119 (q := 120) rfl (by decide) ?_
    exact v_iret h dX10_sheet_120 (pM_of hop (hR.sheet hu (fun j a b c _ => ho j a b c) ⟨by rw [e12, upd_s], fun t _ ht => by rw [e12, upd_n ht]⟩ ⟨by rw [e13, upd_s], fun t _ ht => by rw [e13, upd_n ht]⟩ hbo hn2 hz (fun i hi => ⟨hk0 i (by have := nge (k := 40) rfl (by omega) c97; omega), se_0⟩) hko))
  · have hk40 : k < 40 := nlt rfl (by omega) c97
    refine v_aload_n h (i := 0) dX10_sheet_100 (q := 101) rfl rfl 1 rfl ?_
    refine v_get h (k := 21) (v := .ref (b_ad w 14)) cls10 hm.1.1 hm.1.2 (Nat.le_of_ble_eq_true rfl) m870 rfl dX10_sheet_101 (q := 104) rfl ?_
    refine v_bipush h (v := 40) dX10_sheet_104 (q := 106) rfl (by decide) ?_
    refine v_iload_n h (i := 1) dX10_sheet_106 (q := 107) rfl rfl 2 rfl ?_
    refine v_imul h dX10_sheet_107 (q := 108) rfl ?_
    rw [show (40 * (nI u) : Int32) = nI (40 * u) from (nI_mulN 40 u)]
    refine v_iload h (i := 4) dX10_sheet_108 (q := 110) rfl 0 rfl ?_
    refine v_iadd h dX10_sheet_110 (q := 111) rfl ?_
    rw [show ((nI (40 * u)) + (nI k) : Int32) = nI (40 * u + k) from (nI_add _ k)]
    refine v_iconst h (v := 0) dX10_sheet_111 (q := 112) rfl (by decide) ?_
    refine v_iast h (k := (40 * u + k)) hm.2.2.2.2.2.2.2.2.2.2.2.2.2.2.1.1 hm.2.2.2.2.2.2.2.2.2.2.2.2.2.2.1.2 (vp_in_nI (by omega) (by decide)) (nI_clamp (by omega)) dX10_sheet_112 (q := 113) rfl ?_
    refine v_iinc h (p := 0) (u := nI (k + 1)) (ls1 := [(4, .int (nI (k + 1))), (0, .ref (b_ad w 0)), (1, .int (nI u))]) dX10_sheet_113 (q := 116) rfl rfl (nI_1 k) (Nat.le_of_ble_eq_true rfl) rfl ?_
    refine v_goto h (t := 93) dX10_sheet_116 (by decide) ?_
    exact ih (m - 1) (by omega) (k + 1) (by omega) _ (fun j a b c => by rw [b_up_n c]; exact ho j a b c) (by rw [b_up_n (by decide)]; exact e12) (by rw [b_up_n (by decide)]; exact e13) (fun i hi => by
      rw [b_up_s]
      by_cases e : i = k
      · rw [e, upd_s]
      · rw [upd_n (by omega)]; exact hk0 i (by omega)) (fun i hi => by rw [b_up_s, upd_n (by omega)]; exact hko i hi)
set_option maxHeartbeats 4000000 in
set_option maxRecDepth 100000 in
theorem c_X10_sheet {w : bw} {σ : bSt} {A : bA} {s b n : Int32} (hm : sModel w) (hR : RQ σ A) : MV yX10_sheet cX10_sheet 5 (some .int) (rmm 2 42) w [.ref (b_ad w 0), .int s, .int b, .int n] σ (pM (oSheet s b n A)) := by
  refine b_met (ls := [(0, .ref (b_ad w 0)), (1, .int s), (2, .int b), (3, .int n)]) (by decide) (Nat.le_of_ble_eq_true rfl) rfl (fun x h => ?_)
  refine v_iload_n h (i := 1) dX10_sheet_0 (q := 1) rfl rfl 1 rfl ?_
  refine v_callS h (As := [.int s]) (rest := []) (c_X10_isSheet (v := s)) cal_X10_isSheet m1302 m1301 ⟨rfl, rfl, Nat.le_of_ble_eq_true rfl, Nat.le_of_ble_eq_true rfl⟩ rfl rfl (Nat.le_of_ble_eq_true rfl) dX10_sheet_1 (q := 4) rfl (kB (fun c1 => ?_) (fun c1 => ?_))
  · refine v_if_eq h (t := 29) dX10_sheet_4 (by decide) (q := 7) rfl (fun c => absurd c (by decide)) (fun _ => ?_)
    refine v_iload_n h (i := 2) dX10_sheet_7 (q := 8) rfl rfl 2 rfl ?_
    refine v_if_eq h (t := 36) dX10_sheet_8 (by decide) (q := 11) rfl (fun c8 => ?_) (fun c8 => ?_)
    · refine v_iload_n h (i := 2) dX10_sheet_36 (q := 37) rfl rfl 2 rfl ?_
      refine v_if_eq h (t := 51) dX10_sheet_37 (by decide) (q := 40) rfl (fun c37 => ?_) (fun c37 => ?_)
      · refine v_iload_n h (i := 2) dX10_sheet_51 (q := 52) rfl rfl 2 rfl ?_
        refine v_if_eq h (t := 68) dX10_sheet_52 (by decide) (q := 55) rfl (fun c52 => ?_) (fun c52 => ?_)
        · have hbo : b = 0 ∨ b = 8 ∨ b = 16 ∨ b = 32 := (Or.inl c8)
          have hs4 := s_in.mp c1
          have hop : oSheet s b n A = (1, setS A (cl s) (b, 0, fun _ => 0)) := by
            unfold oSheet
            rw [if_pos ⟨hs4, hbo⟩, if_neg (fun z => z.1 c52), if_neg (fun z => z.1 c52), if_pos c52]
          obtain ⟨u, hu, rfl⟩ := inN_nI hs4
          rw [cl_nI (n := u) (by omega)] at hop
          refine v_aload_n h (i := 0) dX10_sheet_68 (q := 69) rfl rfl 0 rfl ?_
          refine v_get h (k := 19) (v := .ref (b_ad w 12)) cls10 hm.1.1 hm.1.2 (Nat.le_of_ble_eq_true rfl) m868 rfl dX10_sheet_69 (q := 72) rfl ?_
          refine v_iload_n h (i := 1) dX10_sheet_72 (q := 73) rfl rfl 1 rfl ?_
          refine v_iload_n h (i := 2) dX10_sheet_73 (q := 74) rfl rfl 2 rfl ?_
          refine v_iast h (k := u) hm.2.2.2.2.2.2.2.2.2.2.2.2.1.1 hm.2.2.2.2.2.2.2.2.2.2.2.2.1.2 (vp_in_nI (by omega) (by decide)) (nI_clamp (by omega)) dX10_sheet_74 (q := 75) rfl ?_
          refine v_aload_n h (i := 0) dX10_sheet_75 (q := 76) rfl rfl 0 rfl ?_
          refine v_get h (k := 20) (v := .ref (b_ad w 13)) cls10 hm.1.1 hm.1.2 (Nat.le_of_ble_eq_true rfl) m869 rfl dX10_sheet_76 (q := 79) rfl ?_
          refine v_iload_n h (i := 1) dX10_sheet_79 (q := 80) rfl rfl 1 rfl ?_
          refine v_iload_n h (i := 2) dX10_sheet_80 (q := 81) rfl rfl 2 rfl ?_
          refine v_if_ne h (t := 88) dX10_sheet_81 (by decide) (q := 84) rfl (fun c81 => ?_) (fun c81 => ?_)
          · refine v_iload_n h (i := 3) dX10_sheet_88 (q := 89) rfl rfl 3 rfl ?_
            refine v_iast h (k := u) hm.2.2.2.2.2.2.2.2.2.2.2.2.2.1.1 hm.2.2.2.2.2.2.2.2.2.2.2.2.2.1.2 (vp_in_nI (by omega) (by decide)) (nI_clamp (by omega)) dX10_sheet_89 (q := 90) rfl ?_
            refine v_iconst h (v := 0) dX10_sheet_90 (q := 91) rfl (by decide) ?_
            refine v_istore h (i := 4) (ls1 := [(4, .int 0), (0, .ref (b_ad w 0)), (1, .int (nI u)), (2, .int b), (3, .int n)]) dX10_sheet_91 (q := 93) rfl (Nat.le_of_ble_eq_true rfl) rfl ?_
            refine v_ls [0, 1, 2] (ls2 := [(4, .int 0), (0, .ref (b_ad w 0)), (1, .int (nI u))]) rfl ?_
            exact absurd c52 c81
          · refine v_iconst h (v := 0) dX10_sheet_84 (q := 85) rfl (by decide) ?_
            refine v_goto h (t := 89) dX10_sheet_85 (by decide) ?_
            refine v_iast h (k := u) hm.2.2.2.2.2.2.2.2.2.2.2.2.2.1.1 hm.2.2.2.2.2.2.2.2.2.2.2.2.2.1.2 (vp_in_nI (by omega) (by decide)) (nI_clamp (by omega)) dX10_sheet_89 (q := 90) rfl ?_
            refine v_iconst h (v := 0) dX10_sheet_90 (q := 91) rfl (by decide) ?_
            refine v_istore h (i := 4) (ls1 := [(4, .int 0), (0, .ref (b_ad w 0)), (1, .int (nI u)), (2, .int b), (3, .int n)]) dX10_sheet_91 (q := 93) rfl (Nat.le_of_ble_eq_true rfl) rfl ?_
            refine v_ls [0, 1, 2] (ls2 := [(4, .int 0), (0, .ref (b_ad w 0)), (1, .int (nI u))]) rfl ?_
            exact lX10_sheet_93 hm hR h u 0 hu hbo (Nat.zero_le _) (fun z => rfl) hop 40 0 rfl _ (fun j a b c => by rw [b_up_n b, b_up_n a]) (by rw [b_up_n (by decide), b_up_s]) (by rw [b_up_s, b_up_n (by decide)]; rfl) (fun i hi => absurd hi (Nat.not_lt_zero i)) (fun i hi => by rw [b_up_n (by decide), b_up_n (by decide)])
        · refine v_iload_n h (i := 3) dX10_sheet_55 (q := 56) rfl rfl 3 rfl ?_
          refine v_bipush h (v := 40) dX10_sheet_56 (q := 58) rfl (by decide) ?_
          refine v_icmp_le h (t := 68) dX10_sheet_58 (by decide) (q := 61) rfl (fun c58 => ?_) (fun c58 => ?_)
          · have hbo : b = 0 ∨ b = 8 ∨ b = 16 ∨ b = 32 := (Or.inl c8)
            have hs4 := s_in.mp c1
            obtain ⟨n2, hn2, en2⟩ := n40 (absurd c37 c52) c58
            have hop : oSheet s b n A = (1, setS A (cl s) (b, n2, fun _ => 0)) := by
              unfold oSheet
              rw [if_pos ⟨hs4, hbo⟩, if_neg (fun z => z.2 (absurd c37 c52)), if_neg (fun z => z.2 c58), if_neg c52, en2, cl_nI (n := n2) (by omega)]
            subst en2
            obtain ⟨u, hu, rfl⟩ := inN_nI hs4
            rw [cl_nI (n := u) (by omega)] at hop
            refine v_aload_n h (i := 0) dX10_sheet_68 (q := 69) rfl rfl 0 rfl ?_
            refine v_get h (k := 19) (v := .ref (b_ad w 12)) cls10 hm.1.1 hm.1.2 (Nat.le_of_ble_eq_true rfl) m868 rfl dX10_sheet_69 (q := 72) rfl ?_
            refine v_iload_n h (i := 1) dX10_sheet_72 (q := 73) rfl rfl 1 rfl ?_
            refine v_iload_n h (i := 2) dX10_sheet_73 (q := 74) rfl rfl 2 rfl ?_
            refine v_iast h (k := u) hm.2.2.2.2.2.2.2.2.2.2.2.2.1.1 hm.2.2.2.2.2.2.2.2.2.2.2.2.1.2 (vp_in_nI (by omega) (by decide)) (nI_clamp (by omega)) dX10_sheet_74 (q := 75) rfl ?_
            refine v_aload_n h (i := 0) dX10_sheet_75 (q := 76) rfl rfl 0 rfl ?_
            refine v_get h (k := 20) (v := .ref (b_ad w 13)) cls10 hm.1.1 hm.1.2 (Nat.le_of_ble_eq_true rfl) m869 rfl dX10_sheet_76 (q := 79) rfl ?_
            refine v_iload_n h (i := 1) dX10_sheet_79 (q := 80) rfl rfl 1 rfl ?_
            refine v_iload_n h (i := 2) dX10_sheet_80 (q := 81) rfl rfl 2 rfl ?_
            refine v_if_ne h (t := 88) dX10_sheet_81 (by decide) (q := 84) rfl (fun c81_1 => ?_) (fun c81_1 => ?_)
            · refine v_iload_n h (i := 3) dX10_sheet_88 (q := 89) rfl rfl 3 rfl ?_
              refine v_iast h (k := u) hm.2.2.2.2.2.2.2.2.2.2.2.2.2.1.1 hm.2.2.2.2.2.2.2.2.2.2.2.2.2.1.2 (vp_in_nI (by omega) (by decide)) (nI_clamp (by omega)) dX10_sheet_89 (q := 90) rfl ?_
              refine v_iconst h (v := 0) dX10_sheet_90 (q := 91) rfl (by decide) ?_
              refine v_istore h (i := 4) (ls1 := [(4, .int 0), (0, .ref (b_ad w 0)), (1, .int (nI u)), (2, .int b), (3, .int (nI n2))]) dX10_sheet_91 (q := 93) rfl (Nat.le_of_ble_eq_true rfl) rfl ?_
              refine v_ls [0, 1, 2] (ls2 := [(4, .int 0), (0, .ref (b_ad w 0)), (1, .int (nI u))]) rfl ?_
              exact lX10_sheet_93 hm hR h u n2 hu hbo hn2 (fun z => absurd z c52) hop 40 0 rfl _ (fun j a b c => by rw [b_up_n b, b_up_n a]) (by rw [b_up_n (by decide), b_up_s]) (by rw [b_up_s, b_up_n (by decide)]) (fun i hi => absurd hi (Nat.not_lt_zero i)) (fun i hi => by rw [b_up_n (by decide), b_up_n (by decide)])
            · refine v_iconst h (v := 0) dX10_sheet_84 (q := 85) rfl (by decide) ?_
              refine v_goto h (t := 89) dX10_sheet_85 (by decide) ?_
              refine v_iast h (k := u) hm.2.2.2.2.2.2.2.2.2.2.2.2.2.1.1 hm.2.2.2.2.2.2.2.2.2.2.2.2.2.1.2 (vp_in_nI (by omega) (by decide)) (nI_clamp (by omega)) dX10_sheet_89 (q := 90) rfl ?_
              refine v_iconst h (v := 0) dX10_sheet_90 (q := 91) rfl (by decide) ?_
              refine v_istore h (i := 4) (ls1 := [(4, .int 0), (0, .ref (b_ad w 0)), (1, .int (nI u)), (2, .int b), (3, .int (nI n2))]) dX10_sheet_91 (q := 93) rfl (Nat.le_of_ble_eq_true rfl) rfl ?_
              refine v_ls [0, 1, 2] (ls2 := [(4, .int 0), (0, .ref (b_ad w 0)), (1, .int (nI u))]) rfl ?_
              exact absurd c81_1 c52
          · refine v_aload_n h (i := 0) dX10_sheet_61 (q := 62) rfl rfl 0 rfl ?_
            refine v_ldc h (v := -1000000001) m931 dX10_sheet_62 (q := 64) rfl ?_
            refine v_callV h (As := [.int (-1000000001)]) (rest := []) (c_X10_finding (σ := σ) (e := 1) (v := -1000000001) hm (by decide) (by decide +kernel)) cal_X10_finding calV_X10_finding m932 ⟨rfl, rfl, Nat.le_of_ble_eq_true rfl, Nat.le_of_ble_eq_true rfl⟩ rfl hm.1.1 hm.1.2 ⟨_, _, rfl⟩ rfl (Nat.le_of_ble_eq_true rfl) dX10_sheet_64 (q := 67) rfl (kI ?_)
            exact v_iret h dX10_sheet_67 (pM_of (by unfold oSheet; rw [if_pos ⟨s_in.mp c1, (Or.inl c8)⟩, if_neg (fun z => z.1 c37), if_pos ⟨c52, c58⟩, ref1]) (hR.err (by decide)))
      · refine v_iload_n h (i := 3) dX10_sheet_40 (q := 41) rfl rfl 3 rfl ?_
        refine v_if_ge h (t := 51) dX10_sheet_41 (by decide) (q := 44) rfl (fun c41 => ?_) (fun c41 => ?_)
        · refine v_iload_n h (i := 2) dX10_sheet_51 (q := 52) rfl rfl 2 rfl ?_
          refine v_if_eq h (t := 68) dX10_sheet_52 (by decide) (q := 55) rfl (fun c52_1 => ?_) (fun c52_1 => ?_)
          · have hbo : b = 0 ∨ b = 8 ∨ b = 16 ∨ b = 32 := (Or.inl c8)
            have hs4 := s_in.mp c1
            have hop : oSheet s b n A = (1, setS A (cl s) (b, 0, fun _ => 0)) := by
              unfold oSheet
              rw [if_pos ⟨hs4, hbo⟩, if_neg (fun z => z.1 c52_1), if_neg (fun z => z.1 c52_1), if_pos c52_1]
            obtain ⟨u, hu, rfl⟩ := inN_nI hs4
            rw [cl_nI (n := u) (by omega)] at hop
            refine v_aload_n h (i := 0) dX10_sheet_68 (q := 69) rfl rfl 0 rfl ?_
            refine v_get h (k := 19) (v := .ref (b_ad w 12)) cls10 hm.1.1 hm.1.2 (Nat.le_of_ble_eq_true rfl) m868 rfl dX10_sheet_69 (q := 72) rfl ?_
            refine v_iload_n h (i := 1) dX10_sheet_72 (q := 73) rfl rfl 1 rfl ?_
            refine v_iload_n h (i := 2) dX10_sheet_73 (q := 74) rfl rfl 2 rfl ?_
            refine v_iast h (k := u) hm.2.2.2.2.2.2.2.2.2.2.2.2.1.1 hm.2.2.2.2.2.2.2.2.2.2.2.2.1.2 (vp_in_nI (by omega) (by decide)) (nI_clamp (by omega)) dX10_sheet_74 (q := 75) rfl ?_
            refine v_aload_n h (i := 0) dX10_sheet_75 (q := 76) rfl rfl 0 rfl ?_
            refine v_get h (k := 20) (v := .ref (b_ad w 13)) cls10 hm.1.1 hm.1.2 (Nat.le_of_ble_eq_true rfl) m869 rfl dX10_sheet_76 (q := 79) rfl ?_
            refine v_iload_n h (i := 1) dX10_sheet_79 (q := 80) rfl rfl 1 rfl ?_
            refine v_iload_n h (i := 2) dX10_sheet_80 (q := 81) rfl rfl 2 rfl ?_
            refine v_if_ne h (t := 88) dX10_sheet_81 (by decide) (q := 84) rfl (fun c81_2 => ?_) (fun c81_2 => ?_)
            · refine v_iload_n h (i := 3) dX10_sheet_88 (q := 89) rfl rfl 3 rfl ?_
              refine v_iast h (k := u) hm.2.2.2.2.2.2.2.2.2.2.2.2.2.1.1 hm.2.2.2.2.2.2.2.2.2.2.2.2.2.1.2 (vp_in_nI (by omega) (by decide)) (nI_clamp (by omega)) dX10_sheet_89 (q := 90) rfl ?_
              refine v_iconst h (v := 0) dX10_sheet_90 (q := 91) rfl (by decide) ?_
              refine v_istore h (i := 4) (ls1 := [(4, .int 0), (0, .ref (b_ad w 0)), (1, .int (nI u)), (2, .int b), (3, .int n)]) dX10_sheet_91 (q := 93) rfl (Nat.le_of_ble_eq_true rfl) rfl ?_
              refine v_ls [0, 1, 2] (ls2 := [(4, .int 0), (0, .ref (b_ad w 0)), (1, .int (nI u))]) rfl ?_
              exact absurd c52_1 c81_2
            · refine v_iconst h (v := 0) dX10_sheet_84 (q := 85) rfl (by decide) ?_
              refine v_goto h (t := 89) dX10_sheet_85 (by decide) ?_
              refine v_iast h (k := u) hm.2.2.2.2.2.2.2.2.2.2.2.2.2.1.1 hm.2.2.2.2.2.2.2.2.2.2.2.2.2.1.2 (vp_in_nI (by omega) (by decide)) (nI_clamp (by omega)) dX10_sheet_89 (q := 90) rfl ?_
              refine v_iconst h (v := 0) dX10_sheet_90 (q := 91) rfl (by decide) ?_
              refine v_istore h (i := 4) (ls1 := [(4, .int 0), (0, .ref (b_ad w 0)), (1, .int (nI u)), (2, .int b), (3, .int n)]) dX10_sheet_91 (q := 93) rfl (Nat.le_of_ble_eq_true rfl) rfl ?_
              refine v_ls [0, 1, 2] (ls2 := [(4, .int 0), (0, .ref (b_ad w 0)), (1, .int (nI u))]) rfl ?_
              exact lX10_sheet_93 hm hR h u 0 hu hbo (Nat.zero_le _) (fun z => rfl) hop 40 0 rfl _ (fun j a b c => by rw [b_up_n b, b_up_n a]) (by rw [b_up_n (by decide), b_up_s]) (by rw [b_up_s, b_up_n (by decide)]; rfl) (fun i hi => absurd hi (Nat.not_lt_zero i)) (fun i hi => by rw [b_up_n (by decide), b_up_n (by decide)])
          · refine v_iload_n h (i := 3) dX10_sheet_55 (q := 56) rfl rfl 3 rfl ?_
            refine v_bipush h (v := 40) dX10_sheet_56 (q := 58) rfl (by decide) ?_
            refine v_icmp_le h (t := 68) dX10_sheet_58 (by decide) (q := 61) rfl (fun c58_1 => ?_) (fun c58_1 => ?_)
            · have hbo : b = 0 ∨ b = 8 ∨ b = 16 ∨ b = 32 := (Or.inl c8)
              have hs4 := s_in.mp c1
              obtain ⟨n2, hn2, en2⟩ := n40 c41 c58_1
              have hop : oSheet s b n A = (1, setS A (cl s) (b, n2, fun _ => 0)) := by
                unfold oSheet
                rw [if_pos ⟨hs4, hbo⟩, if_neg (fun z => z.2 c41), if_neg (fun z => z.2 c58_1), if_neg c52_1, en2, cl_nI (n := n2) (by omega)]
              subst en2
              obtain ⟨u, hu, rfl⟩ := inN_nI hs4
              rw [cl_nI (n := u) (by omega)] at hop
              refine v_aload_n h (i := 0) dX10_sheet_68 (q := 69) rfl rfl 0 rfl ?_
              refine v_get h (k := 19) (v := .ref (b_ad w 12)) cls10 hm.1.1 hm.1.2 (Nat.le_of_ble_eq_true rfl) m868 rfl dX10_sheet_69 (q := 72) rfl ?_
              refine v_iload_n h (i := 1) dX10_sheet_72 (q := 73) rfl rfl 1 rfl ?_
              refine v_iload_n h (i := 2) dX10_sheet_73 (q := 74) rfl rfl 2 rfl ?_
              refine v_iast h (k := u) hm.2.2.2.2.2.2.2.2.2.2.2.2.1.1 hm.2.2.2.2.2.2.2.2.2.2.2.2.1.2 (vp_in_nI (by omega) (by decide)) (nI_clamp (by omega)) dX10_sheet_74 (q := 75) rfl ?_
              refine v_aload_n h (i := 0) dX10_sheet_75 (q := 76) rfl rfl 0 rfl ?_
              refine v_get h (k := 20) (v := .ref (b_ad w 13)) cls10 hm.1.1 hm.1.2 (Nat.le_of_ble_eq_true rfl) m869 rfl dX10_sheet_76 (q := 79) rfl ?_
              refine v_iload_n h (i := 1) dX10_sheet_79 (q := 80) rfl rfl 1 rfl ?_
              refine v_iload_n h (i := 2) dX10_sheet_80 (q := 81) rfl rfl 2 rfl ?_
              refine v_if_ne h (t := 88) dX10_sheet_81 (by decide) (q := 84) rfl (fun c81_3 => ?_) (fun c81_3 => ?_)
              · refine v_iload_n h (i := 3) dX10_sheet_88 (q := 89) rfl rfl 3 rfl ?_
                refine v_iast h (k := u) hm.2.2.2.2.2.2.2.2.2.2.2.2.2.1.1 hm.2.2.2.2.2.2.2.2.2.2.2.2.2.1.2 (vp_in_nI (by omega) (by decide)) (nI_clamp (by omega)) dX10_sheet_89 (q := 90) rfl ?_
                refine v_iconst h (v := 0) dX10_sheet_90 (q := 91) rfl (by decide) ?_
                refine v_istore h (i := 4) (ls1 := [(4, .int 0), (0, .ref (b_ad w 0)), (1, .int (nI u)), (2, .int b), (3, .int (nI n2))]) dX10_sheet_91 (q := 93) rfl (Nat.le_of_ble_eq_true rfl) rfl ?_
                refine v_ls [0, 1, 2] (ls2 := [(4, .int 0), (0, .ref (b_ad w 0)), (1, .int (nI u))]) rfl ?_
                exact lX10_sheet_93 hm hR h u n2 hu hbo hn2 (fun z => absurd z c52_1) hop 40 0 rfl _ (fun j a b c => by rw [b_up_n b, b_up_n a]) (by rw [b_up_n (by decide), b_up_s]) (by rw [b_up_s, b_up_n (by decide)]) (fun i hi => absurd hi (Nat.not_lt_zero i)) (fun i hi => by rw [b_up_n (by decide), b_up_n (by decide)])
              · refine v_iconst h (v := 0) dX10_sheet_84 (q := 85) rfl (by decide) ?_
                refine v_goto h (t := 89) dX10_sheet_85 (by decide) ?_
                refine v_iast h (k := u) hm.2.2.2.2.2.2.2.2.2.2.2.2.2.1.1 hm.2.2.2.2.2.2.2.2.2.2.2.2.2.1.2 (vp_in_nI (by omega) (by decide)) (nI_clamp (by omega)) dX10_sheet_89 (q := 90) rfl ?_
                refine v_iconst h (v := 0) dX10_sheet_90 (q := 91) rfl (by decide) ?_
                refine v_istore h (i := 4) (ls1 := [(4, .int 0), (0, .ref (b_ad w 0)), (1, .int (nI u)), (2, .int b), (3, .int (nI n2))]) dX10_sheet_91 (q := 93) rfl (Nat.le_of_ble_eq_true rfl) rfl ?_
                refine v_ls [0, 1, 2] (ls2 := [(4, .int 0), (0, .ref (b_ad w 0)), (1, .int (nI u))]) rfl ?_
                exact absurd c81_3 c52_1
            · refine v_aload_n h (i := 0) dX10_sheet_61 (q := 62) rfl rfl 0 rfl ?_
              refine v_ldc h (v := -1000000001) m931 dX10_sheet_62 (q := 64) rfl ?_
              refine v_callV h (As := [.int (-1000000001)]) (rest := []) (c_X10_finding (σ := σ) (e := 1) (v := -1000000001) hm (by decide) (by decide +kernel)) cal_X10_finding calV_X10_finding m932 ⟨rfl, rfl, Nat.le_of_ble_eq_true rfl, Nat.le_of_ble_eq_true rfl⟩ rfl hm.1.1 hm.1.2 ⟨_, _, rfl⟩ rfl (Nat.le_of_ble_eq_true rfl) dX10_sheet_64 (q := 67) rfl (kI ?_)
              exact v_iret h dX10_sheet_67 (pM_of (by unfold oSheet; rw [if_pos ⟨s_in.mp c1, (Or.inl c8)⟩, if_neg (fun z => z.2 c41), if_pos ⟨c52_1, c58_1⟩, ref1]) (hR.err (by decide)))
        · refine v_aload_n h (i := 0) dX10_sheet_44 (q := 45) rfl rfl 0 rfl ?_
          refine v_ldc h (v := -1000000003) m1165 dX10_sheet_45 (q := 47) rfl ?_
          refine v_callV h (As := [.int (-1000000003)]) (rest := []) (c_X10_finding (σ := σ) (e := 3) (v := -1000000003) hm (by decide) (by decide +kernel)) cal_X10_finding calV_X10_finding m932 ⟨rfl, rfl, Nat.le_of_ble_eq_true rfl, Nat.le_of_ble_eq_true rfl⟩ rfl hm.1.1 hm.1.2 ⟨_, _, rfl⟩ rfl (Nat.le_of_ble_eq_true rfl) dX10_sheet_47 (q := 50) rfl (kI ?_)
          exact v_iret h dX10_sheet_50 (pM_of (by unfold oSheet; rw [if_pos ⟨s_in.mp c1, (Or.inl c8)⟩, if_pos ⟨c37, fun z => c41 z⟩, ref3]) (hR.err (by decide)))
    · refine v_iload_n h (i := 2) dX10_sheet_11 (q := 12) rfl rfl 2 rfl ?_
      refine v_bipush h (v := 8) dX10_sheet_12 (q := 14) rfl (by decide) ?_
      refine v_icmp_eq h (t := 36) dX10_sheet_14 (by decide) (q := 17) rfl (fun c14 => ?_) (fun c14 => ?_)
      · refine v_iload_n h (i := 2) dX10_sheet_36 (q := 37) rfl rfl 2 rfl ?_
        refine v_if_eq h (t := 51) dX10_sheet_37 (by decide) (q := 40) rfl (fun c37_1 => ?_) (fun c37_1 => ?_)
        · refine v_iload_n h (i := 2) dX10_sheet_51 (q := 52) rfl rfl 2 rfl ?_
          refine v_if_eq h (t := 68) dX10_sheet_52 (by decide) (q := 55) rfl (fun c52_2 => ?_) (fun c52_2 => ?_)
          · have hbo : b = 0 ∨ b = 8 ∨ b = 16 ∨ b = 32 := (Or.inr (Or.inl c14))
            have hs4 := s_in.mp c1
            have hop : oSheet s b n A = (1, setS A (cl s) (b, 0, fun _ => 0)) := by
              unfold oSheet
              rw [if_pos ⟨hs4, hbo⟩, if_neg (fun z => z.1 c52_2), if_neg (fun z => z.1 c52_2), if_pos c52_2]
            obtain ⟨u, hu, rfl⟩ := inN_nI hs4
            rw [cl_nI (n := u) (by omega)] at hop
            refine v_aload_n h (i := 0) dX10_sheet_68 (q := 69) rfl rfl 0 rfl ?_
            refine v_get h (k := 19) (v := .ref (b_ad w 12)) cls10 hm.1.1 hm.1.2 (Nat.le_of_ble_eq_true rfl) m868 rfl dX10_sheet_69 (q := 72) rfl ?_
            refine v_iload_n h (i := 1) dX10_sheet_72 (q := 73) rfl rfl 1 rfl ?_
            refine v_iload_n h (i := 2) dX10_sheet_73 (q := 74) rfl rfl 2 rfl ?_
            refine v_iast h (k := u) hm.2.2.2.2.2.2.2.2.2.2.2.2.1.1 hm.2.2.2.2.2.2.2.2.2.2.2.2.1.2 (vp_in_nI (by omega) (by decide)) (nI_clamp (by omega)) dX10_sheet_74 (q := 75) rfl ?_
            refine v_aload_n h (i := 0) dX10_sheet_75 (q := 76) rfl rfl 0 rfl ?_
            refine v_get h (k := 20) (v := .ref (b_ad w 13)) cls10 hm.1.1 hm.1.2 (Nat.le_of_ble_eq_true rfl) m869 rfl dX10_sheet_76 (q := 79) rfl ?_
            refine v_iload_n h (i := 1) dX10_sheet_79 (q := 80) rfl rfl 1 rfl ?_
            refine v_iload_n h (i := 2) dX10_sheet_80 (q := 81) rfl rfl 2 rfl ?_
            refine v_if_ne h (t := 88) dX10_sheet_81 (by decide) (q := 84) rfl (fun c81_4 => ?_) (fun c81_4 => ?_)
            · refine v_iload_n h (i := 3) dX10_sheet_88 (q := 89) rfl rfl 3 rfl ?_
              refine v_iast h (k := u) hm.2.2.2.2.2.2.2.2.2.2.2.2.2.1.1 hm.2.2.2.2.2.2.2.2.2.2.2.2.2.1.2 (vp_in_nI (by omega) (by decide)) (nI_clamp (by omega)) dX10_sheet_89 (q := 90) rfl ?_
              refine v_iconst h (v := 0) dX10_sheet_90 (q := 91) rfl (by decide) ?_
              refine v_istore h (i := 4) (ls1 := [(4, .int 0), (0, .ref (b_ad w 0)), (1, .int (nI u)), (2, .int b), (3, .int n)]) dX10_sheet_91 (q := 93) rfl (Nat.le_of_ble_eq_true rfl) rfl ?_
              refine v_ls [0, 1, 2] (ls2 := [(4, .int 0), (0, .ref (b_ad w 0)), (1, .int (nI u))]) rfl ?_
              exact absurd c52_2 c81_4
            · refine v_iconst h (v := 0) dX10_sheet_84 (q := 85) rfl (by decide) ?_
              refine v_goto h (t := 89) dX10_sheet_85 (by decide) ?_
              refine v_iast h (k := u) hm.2.2.2.2.2.2.2.2.2.2.2.2.2.1.1 hm.2.2.2.2.2.2.2.2.2.2.2.2.2.1.2 (vp_in_nI (by omega) (by decide)) (nI_clamp (by omega)) dX10_sheet_89 (q := 90) rfl ?_
              refine v_iconst h (v := 0) dX10_sheet_90 (q := 91) rfl (by decide) ?_
              refine v_istore h (i := 4) (ls1 := [(4, .int 0), (0, .ref (b_ad w 0)), (1, .int (nI u)), (2, .int b), (3, .int n)]) dX10_sheet_91 (q := 93) rfl (Nat.le_of_ble_eq_true rfl) rfl ?_
              refine v_ls [0, 1, 2] (ls2 := [(4, .int 0), (0, .ref (b_ad w 0)), (1, .int (nI u))]) rfl ?_
              exact lX10_sheet_93 hm hR h u 0 hu hbo (Nat.zero_le _) (fun z => rfl) hop 40 0 rfl _ (fun j a b c => by rw [b_up_n b, b_up_n a]) (by rw [b_up_n (by decide), b_up_s]) (by rw [b_up_s, b_up_n (by decide)]; rfl) (fun i hi => absurd hi (Nat.not_lt_zero i)) (fun i hi => by rw [b_up_n (by decide), b_up_n (by decide)])
          · refine v_iload_n h (i := 3) dX10_sheet_55 (q := 56) rfl rfl 3 rfl ?_
            refine v_bipush h (v := 40) dX10_sheet_56 (q := 58) rfl (by decide) ?_
            refine v_icmp_le h (t := 68) dX10_sheet_58 (by decide) (q := 61) rfl (fun c58_2 => ?_) (fun c58_2 => ?_)
            · have hbo : b = 0 ∨ b = 8 ∨ b = 16 ∨ b = 32 := (Or.inr (Or.inl c14))
              have hs4 := s_in.mp c1
              obtain ⟨n2, hn2, en2⟩ := n40 (absurd c37_1 c52_2) c58_2
              have hop : oSheet s b n A = (1, setS A (cl s) (b, n2, fun _ => 0)) := by
                unfold oSheet
                rw [if_pos ⟨hs4, hbo⟩, if_neg (fun z => z.2 (absurd c37_1 c52_2)), if_neg (fun z => z.2 c58_2), if_neg c52_2, en2, cl_nI (n := n2) (by omega)]
              subst en2
              obtain ⟨u, hu, rfl⟩ := inN_nI hs4
              rw [cl_nI (n := u) (by omega)] at hop
              refine v_aload_n h (i := 0) dX10_sheet_68 (q := 69) rfl rfl 0 rfl ?_
              refine v_get h (k := 19) (v := .ref (b_ad w 12)) cls10 hm.1.1 hm.1.2 (Nat.le_of_ble_eq_true rfl) m868 rfl dX10_sheet_69 (q := 72) rfl ?_
              refine v_iload_n h (i := 1) dX10_sheet_72 (q := 73) rfl rfl 1 rfl ?_
              refine v_iload_n h (i := 2) dX10_sheet_73 (q := 74) rfl rfl 2 rfl ?_
              refine v_iast h (k := u) hm.2.2.2.2.2.2.2.2.2.2.2.2.1.1 hm.2.2.2.2.2.2.2.2.2.2.2.2.1.2 (vp_in_nI (by omega) (by decide)) (nI_clamp (by omega)) dX10_sheet_74 (q := 75) rfl ?_
              refine v_aload_n h (i := 0) dX10_sheet_75 (q := 76) rfl rfl 0 rfl ?_
              refine v_get h (k := 20) (v := .ref (b_ad w 13)) cls10 hm.1.1 hm.1.2 (Nat.le_of_ble_eq_true rfl) m869 rfl dX10_sheet_76 (q := 79) rfl ?_
              refine v_iload_n h (i := 1) dX10_sheet_79 (q := 80) rfl rfl 1 rfl ?_
              refine v_iload_n h (i := 2) dX10_sheet_80 (q := 81) rfl rfl 2 rfl ?_
              refine v_if_ne h (t := 88) dX10_sheet_81 (by decide) (q := 84) rfl (fun c81_5 => ?_) (fun c81_5 => ?_)
              · refine v_iload_n h (i := 3) dX10_sheet_88 (q := 89) rfl rfl 3 rfl ?_
                refine v_iast h (k := u) hm.2.2.2.2.2.2.2.2.2.2.2.2.2.1.1 hm.2.2.2.2.2.2.2.2.2.2.2.2.2.1.2 (vp_in_nI (by omega) (by decide)) (nI_clamp (by omega)) dX10_sheet_89 (q := 90) rfl ?_
                refine v_iconst h (v := 0) dX10_sheet_90 (q := 91) rfl (by decide) ?_
                refine v_istore h (i := 4) (ls1 := [(4, .int 0), (0, .ref (b_ad w 0)), (1, .int (nI u)), (2, .int b), (3, .int (nI n2))]) dX10_sheet_91 (q := 93) rfl (Nat.le_of_ble_eq_true rfl) rfl ?_
                refine v_ls [0, 1, 2] (ls2 := [(4, .int 0), (0, .ref (b_ad w 0)), (1, .int (nI u))]) rfl ?_
                exact lX10_sheet_93 hm hR h u n2 hu hbo hn2 (fun z => absurd z c52_2) hop 40 0 rfl _ (fun j a b c => by rw [b_up_n b, b_up_n a]) (by rw [b_up_n (by decide), b_up_s]) (by rw [b_up_s, b_up_n (by decide)]) (fun i hi => absurd hi (Nat.not_lt_zero i)) (fun i hi => by rw [b_up_n (by decide), b_up_n (by decide)])
              · refine v_iconst h (v := 0) dX10_sheet_84 (q := 85) rfl (by decide) ?_
                refine v_goto h (t := 89) dX10_sheet_85 (by decide) ?_
                refine v_iast h (k := u) hm.2.2.2.2.2.2.2.2.2.2.2.2.2.1.1 hm.2.2.2.2.2.2.2.2.2.2.2.2.2.1.2 (vp_in_nI (by omega) (by decide)) (nI_clamp (by omega)) dX10_sheet_89 (q := 90) rfl ?_
                refine v_iconst h (v := 0) dX10_sheet_90 (q := 91) rfl (by decide) ?_
                refine v_istore h (i := 4) (ls1 := [(4, .int 0), (0, .ref (b_ad w 0)), (1, .int (nI u)), (2, .int b), (3, .int (nI n2))]) dX10_sheet_91 (q := 93) rfl (Nat.le_of_ble_eq_true rfl) rfl ?_
                refine v_ls [0, 1, 2] (ls2 := [(4, .int 0), (0, .ref (b_ad w 0)), (1, .int (nI u))]) rfl ?_
                exact absurd c81_5 c52_2
            · refine v_aload_n h (i := 0) dX10_sheet_61 (q := 62) rfl rfl 0 rfl ?_
              refine v_ldc h (v := -1000000001) m931 dX10_sheet_62 (q := 64) rfl ?_
              refine v_callV h (As := [.int (-1000000001)]) (rest := []) (c_X10_finding (σ := σ) (e := 1) (v := -1000000001) hm (by decide) (by decide +kernel)) cal_X10_finding calV_X10_finding m932 ⟨rfl, rfl, Nat.le_of_ble_eq_true rfl, Nat.le_of_ble_eq_true rfl⟩ rfl hm.1.1 hm.1.2 ⟨_, _, rfl⟩ rfl (Nat.le_of_ble_eq_true rfl) dX10_sheet_64 (q := 67) rfl (kI ?_)
              exact v_iret h dX10_sheet_67 (pM_of (by unfold oSheet; rw [if_pos ⟨s_in.mp c1, (Or.inr (Or.inl c14))⟩, if_neg (fun z => z.1 c37_1), if_pos ⟨c52_2, c58_2⟩, ref1]) (hR.err (by decide)))
        · refine v_iload_n h (i := 3) dX10_sheet_40 (q := 41) rfl rfl 3 rfl ?_
          refine v_if_ge h (t := 51) dX10_sheet_41 (by decide) (q := 44) rfl (fun c41_1 => ?_) (fun c41_1 => ?_)
          · refine v_iload_n h (i := 2) dX10_sheet_51 (q := 52) rfl rfl 2 rfl ?_
            refine v_if_eq h (t := 68) dX10_sheet_52 (by decide) (q := 55) rfl (fun c52_3 => ?_) (fun c52_3 => ?_)
            · have hbo : b = 0 ∨ b = 8 ∨ b = 16 ∨ b = 32 := (Or.inr (Or.inl c14))
              have hs4 := s_in.mp c1
              have hop : oSheet s b n A = (1, setS A (cl s) (b, 0, fun _ => 0)) := by
                unfold oSheet
                rw [if_pos ⟨hs4, hbo⟩, if_neg (fun z => z.1 c52_3), if_neg (fun z => z.1 c52_3), if_pos c52_3]
              obtain ⟨u, hu, rfl⟩ := inN_nI hs4
              rw [cl_nI (n := u) (by omega)] at hop
              refine v_aload_n h (i := 0) dX10_sheet_68 (q := 69) rfl rfl 0 rfl ?_
              refine v_get h (k := 19) (v := .ref (b_ad w 12)) cls10 hm.1.1 hm.1.2 (Nat.le_of_ble_eq_true rfl) m868 rfl dX10_sheet_69 (q := 72) rfl ?_
              refine v_iload_n h (i := 1) dX10_sheet_72 (q := 73) rfl rfl 1 rfl ?_
              refine v_iload_n h (i := 2) dX10_sheet_73 (q := 74) rfl rfl 2 rfl ?_
              refine v_iast h (k := u) hm.2.2.2.2.2.2.2.2.2.2.2.2.1.1 hm.2.2.2.2.2.2.2.2.2.2.2.2.1.2 (vp_in_nI (by omega) (by decide)) (nI_clamp (by omega)) dX10_sheet_74 (q := 75) rfl ?_
              refine v_aload_n h (i := 0) dX10_sheet_75 (q := 76) rfl rfl 0 rfl ?_
              refine v_get h (k := 20) (v := .ref (b_ad w 13)) cls10 hm.1.1 hm.1.2 (Nat.le_of_ble_eq_true rfl) m869 rfl dX10_sheet_76 (q := 79) rfl ?_
              refine v_iload_n h (i := 1) dX10_sheet_79 (q := 80) rfl rfl 1 rfl ?_
              refine v_iload_n h (i := 2) dX10_sheet_80 (q := 81) rfl rfl 2 rfl ?_
              refine v_if_ne h (t := 88) dX10_sheet_81 (by decide) (q := 84) rfl (fun c81_6 => ?_) (fun c81_6 => ?_)
              · refine v_iload_n h (i := 3) dX10_sheet_88 (q := 89) rfl rfl 3 rfl ?_
                refine v_iast h (k := u) hm.2.2.2.2.2.2.2.2.2.2.2.2.2.1.1 hm.2.2.2.2.2.2.2.2.2.2.2.2.2.1.2 (vp_in_nI (by omega) (by decide)) (nI_clamp (by omega)) dX10_sheet_89 (q := 90) rfl ?_
                refine v_iconst h (v := 0) dX10_sheet_90 (q := 91) rfl (by decide) ?_
                refine v_istore h (i := 4) (ls1 := [(4, .int 0), (0, .ref (b_ad w 0)), (1, .int (nI u)), (2, .int b), (3, .int n)]) dX10_sheet_91 (q := 93) rfl (Nat.le_of_ble_eq_true rfl) rfl ?_
                refine v_ls [0, 1, 2] (ls2 := [(4, .int 0), (0, .ref (b_ad w 0)), (1, .int (nI u))]) rfl ?_
                exact absurd c52_3 c81_6
              · refine v_iconst h (v := 0) dX10_sheet_84 (q := 85) rfl (by decide) ?_
                refine v_goto h (t := 89) dX10_sheet_85 (by decide) ?_
                refine v_iast h (k := u) hm.2.2.2.2.2.2.2.2.2.2.2.2.2.1.1 hm.2.2.2.2.2.2.2.2.2.2.2.2.2.1.2 (vp_in_nI (by omega) (by decide)) (nI_clamp (by omega)) dX10_sheet_89 (q := 90) rfl ?_
                refine v_iconst h (v := 0) dX10_sheet_90 (q := 91) rfl (by decide) ?_
                refine v_istore h (i := 4) (ls1 := [(4, .int 0), (0, .ref (b_ad w 0)), (1, .int (nI u)), (2, .int b), (3, .int n)]) dX10_sheet_91 (q := 93) rfl (Nat.le_of_ble_eq_true rfl) rfl ?_
                refine v_ls [0, 1, 2] (ls2 := [(4, .int 0), (0, .ref (b_ad w 0)), (1, .int (nI u))]) rfl ?_
                exact lX10_sheet_93 hm hR h u 0 hu hbo (Nat.zero_le _) (fun z => rfl) hop 40 0 rfl _ (fun j a b c => by rw [b_up_n b, b_up_n a]) (by rw [b_up_n (by decide), b_up_s]) (by rw [b_up_s, b_up_n (by decide)]; rfl) (fun i hi => absurd hi (Nat.not_lt_zero i)) (fun i hi => by rw [b_up_n (by decide), b_up_n (by decide)])
            · refine v_iload_n h (i := 3) dX10_sheet_55 (q := 56) rfl rfl 3 rfl ?_
              refine v_bipush h (v := 40) dX10_sheet_56 (q := 58) rfl (by decide) ?_
              refine v_icmp_le h (t := 68) dX10_sheet_58 (by decide) (q := 61) rfl (fun c58_3 => ?_) (fun c58_3 => ?_)
              · have hbo : b = 0 ∨ b = 8 ∨ b = 16 ∨ b = 32 := (Or.inr (Or.inl c14))
                have hs4 := s_in.mp c1
                obtain ⟨n2, hn2, en2⟩ := n40 c41_1 c58_3
                have hop : oSheet s b n A = (1, setS A (cl s) (b, n2, fun _ => 0)) := by
                  unfold oSheet
                  rw [if_pos ⟨hs4, hbo⟩, if_neg (fun z => z.2 c41_1), if_neg (fun z => z.2 c58_3), if_neg c52_3, en2, cl_nI (n := n2) (by omega)]
                subst en2
                obtain ⟨u, hu, rfl⟩ := inN_nI hs4
                rw [cl_nI (n := u) (by omega)] at hop
                refine v_aload_n h (i := 0) dX10_sheet_68 (q := 69) rfl rfl 0 rfl ?_
                refine v_get h (k := 19) (v := .ref (b_ad w 12)) cls10 hm.1.1 hm.1.2 (Nat.le_of_ble_eq_true rfl) m868 rfl dX10_sheet_69 (q := 72) rfl ?_
                refine v_iload_n h (i := 1) dX10_sheet_72 (q := 73) rfl rfl 1 rfl ?_
                refine v_iload_n h (i := 2) dX10_sheet_73 (q := 74) rfl rfl 2 rfl ?_
                refine v_iast h (k := u) hm.2.2.2.2.2.2.2.2.2.2.2.2.1.1 hm.2.2.2.2.2.2.2.2.2.2.2.2.1.2 (vp_in_nI (by omega) (by decide)) (nI_clamp (by omega)) dX10_sheet_74 (q := 75) rfl ?_
                refine v_aload_n h (i := 0) dX10_sheet_75 (q := 76) rfl rfl 0 rfl ?_
                refine v_get h (k := 20) (v := .ref (b_ad w 13)) cls10 hm.1.1 hm.1.2 (Nat.le_of_ble_eq_true rfl) m869 rfl dX10_sheet_76 (q := 79) rfl ?_
                refine v_iload_n h (i := 1) dX10_sheet_79 (q := 80) rfl rfl 1 rfl ?_
                refine v_iload_n h (i := 2) dX10_sheet_80 (q := 81) rfl rfl 2 rfl ?_
                refine v_if_ne h (t := 88) dX10_sheet_81 (by decide) (q := 84) rfl (fun c81_7 => ?_) (fun c81_7 => ?_)
                · refine v_iload_n h (i := 3) dX10_sheet_88 (q := 89) rfl rfl 3 rfl ?_
                  refine v_iast h (k := u) hm.2.2.2.2.2.2.2.2.2.2.2.2.2.1.1 hm.2.2.2.2.2.2.2.2.2.2.2.2.2.1.2 (vp_in_nI (by omega) (by decide)) (nI_clamp (by omega)) dX10_sheet_89 (q := 90) rfl ?_
                  refine v_iconst h (v := 0) dX10_sheet_90 (q := 91) rfl (by decide) ?_
                  refine v_istore h (i := 4) (ls1 := [(4, .int 0), (0, .ref (b_ad w 0)), (1, .int (nI u)), (2, .int b), (3, .int (nI n2))]) dX10_sheet_91 (q := 93) rfl (Nat.le_of_ble_eq_true rfl) rfl ?_
                  refine v_ls [0, 1, 2] (ls2 := [(4, .int 0), (0, .ref (b_ad w 0)), (1, .int (nI u))]) rfl ?_
                  exact lX10_sheet_93 hm hR h u n2 hu hbo hn2 (fun z => absurd z c52_3) hop 40 0 rfl _ (fun j a b c => by rw [b_up_n b, b_up_n a]) (by rw [b_up_n (by decide), b_up_s]) (by rw [b_up_s, b_up_n (by decide)]) (fun i hi => absurd hi (Nat.not_lt_zero i)) (fun i hi => by rw [b_up_n (by decide), b_up_n (by decide)])
                · refine v_iconst h (v := 0) dX10_sheet_84 (q := 85) rfl (by decide) ?_
                  refine v_goto h (t := 89) dX10_sheet_85 (by decide) ?_
                  refine v_iast h (k := u) hm.2.2.2.2.2.2.2.2.2.2.2.2.2.1.1 hm.2.2.2.2.2.2.2.2.2.2.2.2.2.1.2 (vp_in_nI (by omega) (by decide)) (nI_clamp (by omega)) dX10_sheet_89 (q := 90) rfl ?_
                  refine v_iconst h (v := 0) dX10_sheet_90 (q := 91) rfl (by decide) ?_
                  refine v_istore h (i := 4) (ls1 := [(4, .int 0), (0, .ref (b_ad w 0)), (1, .int (nI u)), (2, .int b), (3, .int (nI n2))]) dX10_sheet_91 (q := 93) rfl (Nat.le_of_ble_eq_true rfl) rfl ?_
                  refine v_ls [0, 1, 2] (ls2 := [(4, .int 0), (0, .ref (b_ad w 0)), (1, .int (nI u))]) rfl ?_
                  exact absurd c81_7 c52_3
              · refine v_aload_n h (i := 0) dX10_sheet_61 (q := 62) rfl rfl 0 rfl ?_
                refine v_ldc h (v := -1000000001) m931 dX10_sheet_62 (q := 64) rfl ?_
                refine v_callV h (As := [.int (-1000000001)]) (rest := []) (c_X10_finding (σ := σ) (e := 1) (v := -1000000001) hm (by decide) (by decide +kernel)) cal_X10_finding calV_X10_finding m932 ⟨rfl, rfl, Nat.le_of_ble_eq_true rfl, Nat.le_of_ble_eq_true rfl⟩ rfl hm.1.1 hm.1.2 ⟨_, _, rfl⟩ rfl (Nat.le_of_ble_eq_true rfl) dX10_sheet_64 (q := 67) rfl (kI ?_)
                exact v_iret h dX10_sheet_67 (pM_of (by unfold oSheet; rw [if_pos ⟨s_in.mp c1, (Or.inr (Or.inl c14))⟩, if_neg (fun z => z.2 c41_1), if_pos ⟨c52_3, c58_3⟩, ref1]) (hR.err (by decide)))
          · refine v_aload_n h (i := 0) dX10_sheet_44 (q := 45) rfl rfl 0 rfl ?_
            refine v_ldc h (v := -1000000003) m1165 dX10_sheet_45 (q := 47) rfl ?_
            refine v_callV h (As := [.int (-1000000003)]) (rest := []) (c_X10_finding (σ := σ) (e := 3) (v := -1000000003) hm (by decide) (by decide +kernel)) cal_X10_finding calV_X10_finding m932 ⟨rfl, rfl, Nat.le_of_ble_eq_true rfl, Nat.le_of_ble_eq_true rfl⟩ rfl hm.1.1 hm.1.2 ⟨_, _, rfl⟩ rfl (Nat.le_of_ble_eq_true rfl) dX10_sheet_47 (q := 50) rfl (kI ?_)
            exact v_iret h dX10_sheet_50 (pM_of (by unfold oSheet; rw [if_pos ⟨s_in.mp c1, (Or.inr (Or.inl c14))⟩, if_pos ⟨c37_1, fun z => c41_1 z⟩, ref3]) (hR.err (by decide)))
      · refine v_iload_n h (i := 2) dX10_sheet_17 (q := 18) rfl rfl 2 rfl ?_
        refine v_bipush h (v := 16) dX10_sheet_18 (q := 20) rfl (by decide) ?_
        refine v_icmp_eq h (t := 36) dX10_sheet_20 (by decide) (q := 23) rfl (fun c20 => ?_) (fun c20 => ?_)
        · refine v_iload_n h (i := 2) dX10_sheet_36 (q := 37) rfl rfl 2 rfl ?_
          refine v_if_eq h (t := 51) dX10_sheet_37 (by decide) (q := 40) rfl (fun c37_2 => ?_) (fun c37_2 => ?_)
          · refine v_iload_n h (i := 2) dX10_sheet_51 (q := 52) rfl rfl 2 rfl ?_
            refine v_if_eq h (t := 68) dX10_sheet_52 (by decide) (q := 55) rfl (fun c52_4 => ?_) (fun c52_4 => ?_)
            · have hbo : b = 0 ∨ b = 8 ∨ b = 16 ∨ b = 32 := (Or.inr (Or.inr (Or.inl c20)))
              have hs4 := s_in.mp c1
              have hop : oSheet s b n A = (1, setS A (cl s) (b, 0, fun _ => 0)) := by
                unfold oSheet
                rw [if_pos ⟨hs4, hbo⟩, if_neg (fun z => z.1 c52_4), if_neg (fun z => z.1 c52_4), if_pos c52_4]
              obtain ⟨u, hu, rfl⟩ := inN_nI hs4
              rw [cl_nI (n := u) (by omega)] at hop
              refine v_aload_n h (i := 0) dX10_sheet_68 (q := 69) rfl rfl 0 rfl ?_
              refine v_get h (k := 19) (v := .ref (b_ad w 12)) cls10 hm.1.1 hm.1.2 (Nat.le_of_ble_eq_true rfl) m868 rfl dX10_sheet_69 (q := 72) rfl ?_
              refine v_iload_n h (i := 1) dX10_sheet_72 (q := 73) rfl rfl 1 rfl ?_
              refine v_iload_n h (i := 2) dX10_sheet_73 (q := 74) rfl rfl 2 rfl ?_
              refine v_iast h (k := u) hm.2.2.2.2.2.2.2.2.2.2.2.2.1.1 hm.2.2.2.2.2.2.2.2.2.2.2.2.1.2 (vp_in_nI (by omega) (by decide)) (nI_clamp (by omega)) dX10_sheet_74 (q := 75) rfl ?_
              refine v_aload_n h (i := 0) dX10_sheet_75 (q := 76) rfl rfl 0 rfl ?_
              refine v_get h (k := 20) (v := .ref (b_ad w 13)) cls10 hm.1.1 hm.1.2 (Nat.le_of_ble_eq_true rfl) m869 rfl dX10_sheet_76 (q := 79) rfl ?_
              refine v_iload_n h (i := 1) dX10_sheet_79 (q := 80) rfl rfl 1 rfl ?_
              refine v_iload_n h (i := 2) dX10_sheet_80 (q := 81) rfl rfl 2 rfl ?_
              refine v_if_ne h (t := 88) dX10_sheet_81 (by decide) (q := 84) rfl (fun c81_8 => ?_) (fun c81_8 => ?_)
              · refine v_iload_n h (i := 3) dX10_sheet_88 (q := 89) rfl rfl 3 rfl ?_
                refine v_iast h (k := u) hm.2.2.2.2.2.2.2.2.2.2.2.2.2.1.1 hm.2.2.2.2.2.2.2.2.2.2.2.2.2.1.2 (vp_in_nI (by omega) (by decide)) (nI_clamp (by omega)) dX10_sheet_89 (q := 90) rfl ?_
                refine v_iconst h (v := 0) dX10_sheet_90 (q := 91) rfl (by decide) ?_
                refine v_istore h (i := 4) (ls1 := [(4, .int 0), (0, .ref (b_ad w 0)), (1, .int (nI u)), (2, .int b), (3, .int n)]) dX10_sheet_91 (q := 93) rfl (Nat.le_of_ble_eq_true rfl) rfl ?_
                refine v_ls [0, 1, 2] (ls2 := [(4, .int 0), (0, .ref (b_ad w 0)), (1, .int (nI u))]) rfl ?_
                exact absurd c52_4 c81_8
              · refine v_iconst h (v := 0) dX10_sheet_84 (q := 85) rfl (by decide) ?_
                refine v_goto h (t := 89) dX10_sheet_85 (by decide) ?_
                refine v_iast h (k := u) hm.2.2.2.2.2.2.2.2.2.2.2.2.2.1.1 hm.2.2.2.2.2.2.2.2.2.2.2.2.2.1.2 (vp_in_nI (by omega) (by decide)) (nI_clamp (by omega)) dX10_sheet_89 (q := 90) rfl ?_
                refine v_iconst h (v := 0) dX10_sheet_90 (q := 91) rfl (by decide) ?_
                refine v_istore h (i := 4) (ls1 := [(4, .int 0), (0, .ref (b_ad w 0)), (1, .int (nI u)), (2, .int b), (3, .int n)]) dX10_sheet_91 (q := 93) rfl (Nat.le_of_ble_eq_true rfl) rfl ?_
                refine v_ls [0, 1, 2] (ls2 := [(4, .int 0), (0, .ref (b_ad w 0)), (1, .int (nI u))]) rfl ?_
                exact lX10_sheet_93 hm hR h u 0 hu hbo (Nat.zero_le _) (fun z => rfl) hop 40 0 rfl _ (fun j a b c => by rw [b_up_n b, b_up_n a]) (by rw [b_up_n (by decide), b_up_s]) (by rw [b_up_s, b_up_n (by decide)]; rfl) (fun i hi => absurd hi (Nat.not_lt_zero i)) (fun i hi => by rw [b_up_n (by decide), b_up_n (by decide)])
            · refine v_iload_n h (i := 3) dX10_sheet_55 (q := 56) rfl rfl 3 rfl ?_
              refine v_bipush h (v := 40) dX10_sheet_56 (q := 58) rfl (by decide) ?_
              refine v_icmp_le h (t := 68) dX10_sheet_58 (by decide) (q := 61) rfl (fun c58_4 => ?_) (fun c58_4 => ?_)
              · have hbo : b = 0 ∨ b = 8 ∨ b = 16 ∨ b = 32 := (Or.inr (Or.inr (Or.inl c20)))
                have hs4 := s_in.mp c1
                obtain ⟨n2, hn2, en2⟩ := n40 (absurd c37_2 c52_4) c58_4
                have hop : oSheet s b n A = (1, setS A (cl s) (b, n2, fun _ => 0)) := by
                  unfold oSheet
                  rw [if_pos ⟨hs4, hbo⟩, if_neg (fun z => z.2 (absurd c37_2 c52_4)), if_neg (fun z => z.2 c58_4), if_neg c52_4, en2, cl_nI (n := n2) (by omega)]
                subst en2
                obtain ⟨u, hu, rfl⟩ := inN_nI hs4
                rw [cl_nI (n := u) (by omega)] at hop
                refine v_aload_n h (i := 0) dX10_sheet_68 (q := 69) rfl rfl 0 rfl ?_
                refine v_get h (k := 19) (v := .ref (b_ad w 12)) cls10 hm.1.1 hm.1.2 (Nat.le_of_ble_eq_true rfl) m868 rfl dX10_sheet_69 (q := 72) rfl ?_
                refine v_iload_n h (i := 1) dX10_sheet_72 (q := 73) rfl rfl 1 rfl ?_
                refine v_iload_n h (i := 2) dX10_sheet_73 (q := 74) rfl rfl 2 rfl ?_
                refine v_iast h (k := u) hm.2.2.2.2.2.2.2.2.2.2.2.2.1.1 hm.2.2.2.2.2.2.2.2.2.2.2.2.1.2 (vp_in_nI (by omega) (by decide)) (nI_clamp (by omega)) dX10_sheet_74 (q := 75) rfl ?_
                refine v_aload_n h (i := 0) dX10_sheet_75 (q := 76) rfl rfl 0 rfl ?_
                refine v_get h (k := 20) (v := .ref (b_ad w 13)) cls10 hm.1.1 hm.1.2 (Nat.le_of_ble_eq_true rfl) m869 rfl dX10_sheet_76 (q := 79) rfl ?_
                refine v_iload_n h (i := 1) dX10_sheet_79 (q := 80) rfl rfl 1 rfl ?_
                refine v_iload_n h (i := 2) dX10_sheet_80 (q := 81) rfl rfl 2 rfl ?_
                refine v_if_ne h (t := 88) dX10_sheet_81 (by decide) (q := 84) rfl (fun c81_9 => ?_) (fun c81_9 => ?_)
                · refine v_iload_n h (i := 3) dX10_sheet_88 (q := 89) rfl rfl 3 rfl ?_
                  refine v_iast h (k := u) hm.2.2.2.2.2.2.2.2.2.2.2.2.2.1.1 hm.2.2.2.2.2.2.2.2.2.2.2.2.2.1.2 (vp_in_nI (by omega) (by decide)) (nI_clamp (by omega)) dX10_sheet_89 (q := 90) rfl ?_
                  refine v_iconst h (v := 0) dX10_sheet_90 (q := 91) rfl (by decide) ?_
                  refine v_istore h (i := 4) (ls1 := [(4, .int 0), (0, .ref (b_ad w 0)), (1, .int (nI u)), (2, .int b), (3, .int (nI n2))]) dX10_sheet_91 (q := 93) rfl (Nat.le_of_ble_eq_true rfl) rfl ?_
                  refine v_ls [0, 1, 2] (ls2 := [(4, .int 0), (0, .ref (b_ad w 0)), (1, .int (nI u))]) rfl ?_
                  exact lX10_sheet_93 hm hR h u n2 hu hbo hn2 (fun z => absurd z c52_4) hop 40 0 rfl _ (fun j a b c => by rw [b_up_n b, b_up_n a]) (by rw [b_up_n (by decide), b_up_s]) (by rw [b_up_s, b_up_n (by decide)]) (fun i hi => absurd hi (Nat.not_lt_zero i)) (fun i hi => by rw [b_up_n (by decide), b_up_n (by decide)])
                · refine v_iconst h (v := 0) dX10_sheet_84 (q := 85) rfl (by decide) ?_
                  refine v_goto h (t := 89) dX10_sheet_85 (by decide) ?_
                  refine v_iast h (k := u) hm.2.2.2.2.2.2.2.2.2.2.2.2.2.1.1 hm.2.2.2.2.2.2.2.2.2.2.2.2.2.1.2 (vp_in_nI (by omega) (by decide)) (nI_clamp (by omega)) dX10_sheet_89 (q := 90) rfl ?_
                  refine v_iconst h (v := 0) dX10_sheet_90 (q := 91) rfl (by decide) ?_
                  refine v_istore h (i := 4) (ls1 := [(4, .int 0), (0, .ref (b_ad w 0)), (1, .int (nI u)), (2, .int b), (3, .int (nI n2))]) dX10_sheet_91 (q := 93) rfl (Nat.le_of_ble_eq_true rfl) rfl ?_
                  refine v_ls [0, 1, 2] (ls2 := [(4, .int 0), (0, .ref (b_ad w 0)), (1, .int (nI u))]) rfl ?_
                  exact absurd c81_9 c52_4
              · refine v_aload_n h (i := 0) dX10_sheet_61 (q := 62) rfl rfl 0 rfl ?_
                refine v_ldc h (v := -1000000001) m931 dX10_sheet_62 (q := 64) rfl ?_
                refine v_callV h (As := [.int (-1000000001)]) (rest := []) (c_X10_finding (σ := σ) (e := 1) (v := -1000000001) hm (by decide) (by decide +kernel)) cal_X10_finding calV_X10_finding m932 ⟨rfl, rfl, Nat.le_of_ble_eq_true rfl, Nat.le_of_ble_eq_true rfl⟩ rfl hm.1.1 hm.1.2 ⟨_, _, rfl⟩ rfl (Nat.le_of_ble_eq_true rfl) dX10_sheet_64 (q := 67) rfl (kI ?_)
                exact v_iret h dX10_sheet_67 (pM_of (by unfold oSheet; rw [if_pos ⟨s_in.mp c1, (Or.inr (Or.inr (Or.inl c20)))⟩, if_neg (fun z => z.1 c37_2), if_pos ⟨c52_4, c58_4⟩, ref1]) (hR.err (by decide)))
          · refine v_iload_n h (i := 3) dX10_sheet_40 (q := 41) rfl rfl 3 rfl ?_
            refine v_if_ge h (t := 51) dX10_sheet_41 (by decide) (q := 44) rfl (fun c41_2 => ?_) (fun c41_2 => ?_)
            · refine v_iload_n h (i := 2) dX10_sheet_51 (q := 52) rfl rfl 2 rfl ?_
              refine v_if_eq h (t := 68) dX10_sheet_52 (by decide) (q := 55) rfl (fun c52_5 => ?_) (fun c52_5 => ?_)
              · have hbo : b = 0 ∨ b = 8 ∨ b = 16 ∨ b = 32 := (Or.inr (Or.inr (Or.inl c20)))
                have hs4 := s_in.mp c1
                have hop : oSheet s b n A = (1, setS A (cl s) (b, 0, fun _ => 0)) := by
                  unfold oSheet
                  rw [if_pos ⟨hs4, hbo⟩, if_neg (fun z => z.1 c52_5), if_neg (fun z => z.1 c52_5), if_pos c52_5]
                obtain ⟨u, hu, rfl⟩ := inN_nI hs4
                rw [cl_nI (n := u) (by omega)] at hop
                refine v_aload_n h (i := 0) dX10_sheet_68 (q := 69) rfl rfl 0 rfl ?_
                refine v_get h (k := 19) (v := .ref (b_ad w 12)) cls10 hm.1.1 hm.1.2 (Nat.le_of_ble_eq_true rfl) m868 rfl dX10_sheet_69 (q := 72) rfl ?_
                refine v_iload_n h (i := 1) dX10_sheet_72 (q := 73) rfl rfl 1 rfl ?_
                refine v_iload_n h (i := 2) dX10_sheet_73 (q := 74) rfl rfl 2 rfl ?_
                refine v_iast h (k := u) hm.2.2.2.2.2.2.2.2.2.2.2.2.1.1 hm.2.2.2.2.2.2.2.2.2.2.2.2.1.2 (vp_in_nI (by omega) (by decide)) (nI_clamp (by omega)) dX10_sheet_74 (q := 75) rfl ?_
                refine v_aload_n h (i := 0) dX10_sheet_75 (q := 76) rfl rfl 0 rfl ?_
                refine v_get h (k := 20) (v := .ref (b_ad w 13)) cls10 hm.1.1 hm.1.2 (Nat.le_of_ble_eq_true rfl) m869 rfl dX10_sheet_76 (q := 79) rfl ?_
                refine v_iload_n h (i := 1) dX10_sheet_79 (q := 80) rfl rfl 1 rfl ?_
                refine v_iload_n h (i := 2) dX10_sheet_80 (q := 81) rfl rfl 2 rfl ?_
                refine v_if_ne h (t := 88) dX10_sheet_81 (by decide) (q := 84) rfl (fun c81_10 => ?_) (fun c81_10 => ?_)
                · refine v_iload_n h (i := 3) dX10_sheet_88 (q := 89) rfl rfl 3 rfl ?_
                  refine v_iast h (k := u) hm.2.2.2.2.2.2.2.2.2.2.2.2.2.1.1 hm.2.2.2.2.2.2.2.2.2.2.2.2.2.1.2 (vp_in_nI (by omega) (by decide)) (nI_clamp (by omega)) dX10_sheet_89 (q := 90) rfl ?_
                  refine v_iconst h (v := 0) dX10_sheet_90 (q := 91) rfl (by decide) ?_
                  refine v_istore h (i := 4) (ls1 := [(4, .int 0), (0, .ref (b_ad w 0)), (1, .int (nI u)), (2, .int b), (3, .int n)]) dX10_sheet_91 (q := 93) rfl (Nat.le_of_ble_eq_true rfl) rfl ?_
                  refine v_ls [0, 1, 2] (ls2 := [(4, .int 0), (0, .ref (b_ad w 0)), (1, .int (nI u))]) rfl ?_
                  exact absurd c52_5 c81_10
                · refine v_iconst h (v := 0) dX10_sheet_84 (q := 85) rfl (by decide) ?_
                  refine v_goto h (t := 89) dX10_sheet_85 (by decide) ?_
                  refine v_iast h (k := u) hm.2.2.2.2.2.2.2.2.2.2.2.2.2.1.1 hm.2.2.2.2.2.2.2.2.2.2.2.2.2.1.2 (vp_in_nI (by omega) (by decide)) (nI_clamp (by omega)) dX10_sheet_89 (q := 90) rfl ?_
                  refine v_iconst h (v := 0) dX10_sheet_90 (q := 91) rfl (by decide) ?_
                  refine v_istore h (i := 4) (ls1 := [(4, .int 0), (0, .ref (b_ad w 0)), (1, .int (nI u)), (2, .int b), (3, .int n)]) dX10_sheet_91 (q := 93) rfl (Nat.le_of_ble_eq_true rfl) rfl ?_
                  refine v_ls [0, 1, 2] (ls2 := [(4, .int 0), (0, .ref (b_ad w 0)), (1, .int (nI u))]) rfl ?_
                  exact lX10_sheet_93 hm hR h u 0 hu hbo (Nat.zero_le _) (fun z => rfl) hop 40 0 rfl _ (fun j a b c => by rw [b_up_n b, b_up_n a]) (by rw [b_up_n (by decide), b_up_s]) (by rw [b_up_s, b_up_n (by decide)]; rfl) (fun i hi => absurd hi (Nat.not_lt_zero i)) (fun i hi => by rw [b_up_n (by decide), b_up_n (by decide)])
              · refine v_iload_n h (i := 3) dX10_sheet_55 (q := 56) rfl rfl 3 rfl ?_
                refine v_bipush h (v := 40) dX10_sheet_56 (q := 58) rfl (by decide) ?_
                refine v_icmp_le h (t := 68) dX10_sheet_58 (by decide) (q := 61) rfl (fun c58_5 => ?_) (fun c58_5 => ?_)
                · have hbo : b = 0 ∨ b = 8 ∨ b = 16 ∨ b = 32 := (Or.inr (Or.inr (Or.inl c20)))
                  have hs4 := s_in.mp c1
                  obtain ⟨n2, hn2, en2⟩ := n40 c41_2 c58_5
                  have hop : oSheet s b n A = (1, setS A (cl s) (b, n2, fun _ => 0)) := by
                    unfold oSheet
                    rw [if_pos ⟨hs4, hbo⟩, if_neg (fun z => z.2 c41_2), if_neg (fun z => z.2 c58_5), if_neg c52_5, en2, cl_nI (n := n2) (by omega)]
                  subst en2
                  obtain ⟨u, hu, rfl⟩ := inN_nI hs4
                  rw [cl_nI (n := u) (by omega)] at hop
                  refine v_aload_n h (i := 0) dX10_sheet_68 (q := 69) rfl rfl 0 rfl ?_
                  refine v_get h (k := 19) (v := .ref (b_ad w 12)) cls10 hm.1.1 hm.1.2 (Nat.le_of_ble_eq_true rfl) m868 rfl dX10_sheet_69 (q := 72) rfl ?_
                  refine v_iload_n h (i := 1) dX10_sheet_72 (q := 73) rfl rfl 1 rfl ?_
                  refine v_iload_n h (i := 2) dX10_sheet_73 (q := 74) rfl rfl 2 rfl ?_
                  refine v_iast h (k := u) hm.2.2.2.2.2.2.2.2.2.2.2.2.1.1 hm.2.2.2.2.2.2.2.2.2.2.2.2.1.2 (vp_in_nI (by omega) (by decide)) (nI_clamp (by omega)) dX10_sheet_74 (q := 75) rfl ?_
                  refine v_aload_n h (i := 0) dX10_sheet_75 (q := 76) rfl rfl 0 rfl ?_
                  refine v_get h (k := 20) (v := .ref (b_ad w 13)) cls10 hm.1.1 hm.1.2 (Nat.le_of_ble_eq_true rfl) m869 rfl dX10_sheet_76 (q := 79) rfl ?_
                  refine v_iload_n h (i := 1) dX10_sheet_79 (q := 80) rfl rfl 1 rfl ?_
                  refine v_iload_n h (i := 2) dX10_sheet_80 (q := 81) rfl rfl 2 rfl ?_
                  refine v_if_ne h (t := 88) dX10_sheet_81 (by decide) (q := 84) rfl (fun c81_11 => ?_) (fun c81_11 => ?_)
                  · refine v_iload_n h (i := 3) dX10_sheet_88 (q := 89) rfl rfl 3 rfl ?_
                    refine v_iast h (k := u) hm.2.2.2.2.2.2.2.2.2.2.2.2.2.1.1 hm.2.2.2.2.2.2.2.2.2.2.2.2.2.1.2 (vp_in_nI (by omega) (by decide)) (nI_clamp (by omega)) dX10_sheet_89 (q := 90) rfl ?_
                    refine v_iconst h (v := 0) dX10_sheet_90 (q := 91) rfl (by decide) ?_
                    refine v_istore h (i := 4) (ls1 := [(4, .int 0), (0, .ref (b_ad w 0)), (1, .int (nI u)), (2, .int b), (3, .int (nI n2))]) dX10_sheet_91 (q := 93) rfl (Nat.le_of_ble_eq_true rfl) rfl ?_
                    refine v_ls [0, 1, 2] (ls2 := [(4, .int 0), (0, .ref (b_ad w 0)), (1, .int (nI u))]) rfl ?_
                    exact lX10_sheet_93 hm hR h u n2 hu hbo hn2 (fun z => absurd z c52_5) hop 40 0 rfl _ (fun j a b c => by rw [b_up_n b, b_up_n a]) (by rw [b_up_n (by decide), b_up_s]) (by rw [b_up_s, b_up_n (by decide)]) (fun i hi => absurd hi (Nat.not_lt_zero i)) (fun i hi => by rw [b_up_n (by decide), b_up_n (by decide)])
                  · refine v_iconst h (v := 0) dX10_sheet_84 (q := 85) rfl (by decide) ?_
                    refine v_goto h (t := 89) dX10_sheet_85 (by decide) ?_
                    refine v_iast h (k := u) hm.2.2.2.2.2.2.2.2.2.2.2.2.2.1.1 hm.2.2.2.2.2.2.2.2.2.2.2.2.2.1.2 (vp_in_nI (by omega) (by decide)) (nI_clamp (by omega)) dX10_sheet_89 (q := 90) rfl ?_
                    refine v_iconst h (v := 0) dX10_sheet_90 (q := 91) rfl (by decide) ?_
                    refine v_istore h (i := 4) (ls1 := [(4, .int 0), (0, .ref (b_ad w 0)), (1, .int (nI u)), (2, .int b), (3, .int (nI n2))]) dX10_sheet_91 (q := 93) rfl (Nat.le_of_ble_eq_true rfl) rfl ?_
                    refine v_ls [0, 1, 2] (ls2 := [(4, .int 0), (0, .ref (b_ad w 0)), (1, .int (nI u))]) rfl ?_
                    exact absurd c81_11 c52_5
                · refine v_aload_n h (i := 0) dX10_sheet_61 (q := 62) rfl rfl 0 rfl ?_
                  refine v_ldc h (v := -1000000001) m931 dX10_sheet_62 (q := 64) rfl ?_
                  refine v_callV h (As := [.int (-1000000001)]) (rest := []) (c_X10_finding (σ := σ) (e := 1) (v := -1000000001) hm (by decide) (by decide +kernel)) cal_X10_finding calV_X10_finding m932 ⟨rfl, rfl, Nat.le_of_ble_eq_true rfl, Nat.le_of_ble_eq_true rfl⟩ rfl hm.1.1 hm.1.2 ⟨_, _, rfl⟩ rfl (Nat.le_of_ble_eq_true rfl) dX10_sheet_64 (q := 67) rfl (kI ?_)
                  exact v_iret h dX10_sheet_67 (pM_of (by unfold oSheet; rw [if_pos ⟨s_in.mp c1, (Or.inr (Or.inr (Or.inl c20)))⟩, if_neg (fun z => z.2 c41_2), if_pos ⟨c52_5, c58_5⟩, ref1]) (hR.err (by decide)))
            · refine v_aload_n h (i := 0) dX10_sheet_44 (q := 45) rfl rfl 0 rfl ?_
              refine v_ldc h (v := -1000000003) m1165 dX10_sheet_45 (q := 47) rfl ?_
              refine v_callV h (As := [.int (-1000000003)]) (rest := []) (c_X10_finding (σ := σ) (e := 3) (v := -1000000003) hm (by decide) (by decide +kernel)) cal_X10_finding calV_X10_finding m932 ⟨rfl, rfl, Nat.le_of_ble_eq_true rfl, Nat.le_of_ble_eq_true rfl⟩ rfl hm.1.1 hm.1.2 ⟨_, _, rfl⟩ rfl (Nat.le_of_ble_eq_true rfl) dX10_sheet_47 (q := 50) rfl (kI ?_)
              exact v_iret h dX10_sheet_50 (pM_of (by unfold oSheet; rw [if_pos ⟨s_in.mp c1, (Or.inr (Or.inr (Or.inl c20)))⟩, if_pos ⟨c37_2, fun z => c41_2 z⟩, ref3]) (hR.err (by decide)))
        · refine v_iload_n h (i := 2) dX10_sheet_23 (q := 24) rfl rfl 2 rfl ?_
          refine v_bipush h (v := 32) dX10_sheet_24 (q := 26) rfl (by decide) ?_
          refine v_icmp_eq h (t := 36) dX10_sheet_26 (by decide) (q := 29) rfl (fun c26 => ?_) (fun c26 => ?_)
          · refine v_iload_n h (i := 2) dX10_sheet_36 (q := 37) rfl rfl 2 rfl ?_
            refine v_if_eq h (t := 51) dX10_sheet_37 (by decide) (q := 40) rfl (fun c37_3 => ?_) (fun c37_3 => ?_)
            · refine v_iload_n h (i := 2) dX10_sheet_51 (q := 52) rfl rfl 2 rfl ?_
              refine v_if_eq h (t := 68) dX10_sheet_52 (by decide) (q := 55) rfl (fun c52_6 => ?_) (fun c52_6 => ?_)
              · have hbo : b = 0 ∨ b = 8 ∨ b = 16 ∨ b = 32 := (Or.inr (Or.inr (Or.inr c26)))
                have hs4 := s_in.mp c1
                have hop : oSheet s b n A = (1, setS A (cl s) (b, 0, fun _ => 0)) := by
                  unfold oSheet
                  rw [if_pos ⟨hs4, hbo⟩, if_neg (fun z => z.1 c52_6), if_neg (fun z => z.1 c52_6), if_pos c52_6]
                obtain ⟨u, hu, rfl⟩ := inN_nI hs4
                rw [cl_nI (n := u) (by omega)] at hop
                refine v_aload_n h (i := 0) dX10_sheet_68 (q := 69) rfl rfl 0 rfl ?_
                refine v_get h (k := 19) (v := .ref (b_ad w 12)) cls10 hm.1.1 hm.1.2 (Nat.le_of_ble_eq_true rfl) m868 rfl dX10_sheet_69 (q := 72) rfl ?_
                refine v_iload_n h (i := 1) dX10_sheet_72 (q := 73) rfl rfl 1 rfl ?_
                refine v_iload_n h (i := 2) dX10_sheet_73 (q := 74) rfl rfl 2 rfl ?_
                refine v_iast h (k := u) hm.2.2.2.2.2.2.2.2.2.2.2.2.1.1 hm.2.2.2.2.2.2.2.2.2.2.2.2.1.2 (vp_in_nI (by omega) (by decide)) (nI_clamp (by omega)) dX10_sheet_74 (q := 75) rfl ?_
                refine v_aload_n h (i := 0) dX10_sheet_75 (q := 76) rfl rfl 0 rfl ?_
                refine v_get h (k := 20) (v := .ref (b_ad w 13)) cls10 hm.1.1 hm.1.2 (Nat.le_of_ble_eq_true rfl) m869 rfl dX10_sheet_76 (q := 79) rfl ?_
                refine v_iload_n h (i := 1) dX10_sheet_79 (q := 80) rfl rfl 1 rfl ?_
                refine v_iload_n h (i := 2) dX10_sheet_80 (q := 81) rfl rfl 2 rfl ?_
                refine v_if_ne h (t := 88) dX10_sheet_81 (by decide) (q := 84) rfl (fun c81_12 => ?_) (fun c81_12 => ?_)
                · refine v_iload_n h (i := 3) dX10_sheet_88 (q := 89) rfl rfl 3 rfl ?_
                  refine v_iast h (k := u) hm.2.2.2.2.2.2.2.2.2.2.2.2.2.1.1 hm.2.2.2.2.2.2.2.2.2.2.2.2.2.1.2 (vp_in_nI (by omega) (by decide)) (nI_clamp (by omega)) dX10_sheet_89 (q := 90) rfl ?_
                  refine v_iconst h (v := 0) dX10_sheet_90 (q := 91) rfl (by decide) ?_
                  refine v_istore h (i := 4) (ls1 := [(4, .int 0), (0, .ref (b_ad w 0)), (1, .int (nI u)), (2, .int b), (3, .int n)]) dX10_sheet_91 (q := 93) rfl (Nat.le_of_ble_eq_true rfl) rfl ?_
                  refine v_ls [0, 1, 2] (ls2 := [(4, .int 0), (0, .ref (b_ad w 0)), (1, .int (nI u))]) rfl ?_
                  exact absurd c52_6 c81_12
                · refine v_iconst h (v := 0) dX10_sheet_84 (q := 85) rfl (by decide) ?_
                  refine v_goto h (t := 89) dX10_sheet_85 (by decide) ?_
                  refine v_iast h (k := u) hm.2.2.2.2.2.2.2.2.2.2.2.2.2.1.1 hm.2.2.2.2.2.2.2.2.2.2.2.2.2.1.2 (vp_in_nI (by omega) (by decide)) (nI_clamp (by omega)) dX10_sheet_89 (q := 90) rfl ?_
                  refine v_iconst h (v := 0) dX10_sheet_90 (q := 91) rfl (by decide) ?_
                  refine v_istore h (i := 4) (ls1 := [(4, .int 0), (0, .ref (b_ad w 0)), (1, .int (nI u)), (2, .int b), (3, .int n)]) dX10_sheet_91 (q := 93) rfl (Nat.le_of_ble_eq_true rfl) rfl ?_
                  refine v_ls [0, 1, 2] (ls2 := [(4, .int 0), (0, .ref (b_ad w 0)), (1, .int (nI u))]) rfl ?_
                  exact lX10_sheet_93 hm hR h u 0 hu hbo (Nat.zero_le _) (fun z => rfl) hop 40 0 rfl _ (fun j a b c => by rw [b_up_n b, b_up_n a]) (by rw [b_up_n (by decide), b_up_s]) (by rw [b_up_s, b_up_n (by decide)]; rfl) (fun i hi => absurd hi (Nat.not_lt_zero i)) (fun i hi => by rw [b_up_n (by decide), b_up_n (by decide)])
              · refine v_iload_n h (i := 3) dX10_sheet_55 (q := 56) rfl rfl 3 rfl ?_
                refine v_bipush h (v := 40) dX10_sheet_56 (q := 58) rfl (by decide) ?_
                refine v_icmp_le h (t := 68) dX10_sheet_58 (by decide) (q := 61) rfl (fun c58_6 => ?_) (fun c58_6 => ?_)
                · have hbo : b = 0 ∨ b = 8 ∨ b = 16 ∨ b = 32 := (Or.inr (Or.inr (Or.inr c26)))
                  have hs4 := s_in.mp c1
                  obtain ⟨n2, hn2, en2⟩ := n40 (absurd c37_3 c52_6) c58_6
                  have hop : oSheet s b n A = (1, setS A (cl s) (b, n2, fun _ => 0)) := by
                    unfold oSheet
                    rw [if_pos ⟨hs4, hbo⟩, if_neg (fun z => z.2 (absurd c37_3 c52_6)), if_neg (fun z => z.2 c58_6), if_neg c52_6, en2, cl_nI (n := n2) (by omega)]
                  subst en2
                  obtain ⟨u, hu, rfl⟩ := inN_nI hs4
                  rw [cl_nI (n := u) (by omega)] at hop
                  refine v_aload_n h (i := 0) dX10_sheet_68 (q := 69) rfl rfl 0 rfl ?_
                  refine v_get h (k := 19) (v := .ref (b_ad w 12)) cls10 hm.1.1 hm.1.2 (Nat.le_of_ble_eq_true rfl) m868 rfl dX10_sheet_69 (q := 72) rfl ?_
                  refine v_iload_n h (i := 1) dX10_sheet_72 (q := 73) rfl rfl 1 rfl ?_
                  refine v_iload_n h (i := 2) dX10_sheet_73 (q := 74) rfl rfl 2 rfl ?_
                  refine v_iast h (k := u) hm.2.2.2.2.2.2.2.2.2.2.2.2.1.1 hm.2.2.2.2.2.2.2.2.2.2.2.2.1.2 (vp_in_nI (by omega) (by decide)) (nI_clamp (by omega)) dX10_sheet_74 (q := 75) rfl ?_
                  refine v_aload_n h (i := 0) dX10_sheet_75 (q := 76) rfl rfl 0 rfl ?_
                  refine v_get h (k := 20) (v := .ref (b_ad w 13)) cls10 hm.1.1 hm.1.2 (Nat.le_of_ble_eq_true rfl) m869 rfl dX10_sheet_76 (q := 79) rfl ?_
                  refine v_iload_n h (i := 1) dX10_sheet_79 (q := 80) rfl rfl 1 rfl ?_
                  refine v_iload_n h (i := 2) dX10_sheet_80 (q := 81) rfl rfl 2 rfl ?_
                  refine v_if_ne h (t := 88) dX10_sheet_81 (by decide) (q := 84) rfl (fun c81_13 => ?_) (fun c81_13 => ?_)
                  · refine v_iload_n h (i := 3) dX10_sheet_88 (q := 89) rfl rfl 3 rfl ?_
                    refine v_iast h (k := u) hm.2.2.2.2.2.2.2.2.2.2.2.2.2.1.1 hm.2.2.2.2.2.2.2.2.2.2.2.2.2.1.2 (vp_in_nI (by omega) (by decide)) (nI_clamp (by omega)) dX10_sheet_89 (q := 90) rfl ?_
                    refine v_iconst h (v := 0) dX10_sheet_90 (q := 91) rfl (by decide) ?_
                    refine v_istore h (i := 4) (ls1 := [(4, .int 0), (0, .ref (b_ad w 0)), (1, .int (nI u)), (2, .int b), (3, .int (nI n2))]) dX10_sheet_91 (q := 93) rfl (Nat.le_of_ble_eq_true rfl) rfl ?_
                    refine v_ls [0, 1, 2] (ls2 := [(4, .int 0), (0, .ref (b_ad w 0)), (1, .int (nI u))]) rfl ?_
                    exact lX10_sheet_93 hm hR h u n2 hu hbo hn2 (fun z => absurd z c52_6) hop 40 0 rfl _ (fun j a b c => by rw [b_up_n b, b_up_n a]) (by rw [b_up_n (by decide), b_up_s]) (by rw [b_up_s, b_up_n (by decide)]) (fun i hi => absurd hi (Nat.not_lt_zero i)) (fun i hi => by rw [b_up_n (by decide), b_up_n (by decide)])
                  · refine v_iconst h (v := 0) dX10_sheet_84 (q := 85) rfl (by decide) ?_
                    refine v_goto h (t := 89) dX10_sheet_85 (by decide) ?_
                    refine v_iast h (k := u) hm.2.2.2.2.2.2.2.2.2.2.2.2.2.1.1 hm.2.2.2.2.2.2.2.2.2.2.2.2.2.1.2 (vp_in_nI (by omega) (by decide)) (nI_clamp (by omega)) dX10_sheet_89 (q := 90) rfl ?_
                    refine v_iconst h (v := 0) dX10_sheet_90 (q := 91) rfl (by decide) ?_
                    refine v_istore h (i := 4) (ls1 := [(4, .int 0), (0, .ref (b_ad w 0)), (1, .int (nI u)), (2, .int b), (3, .int (nI n2))]) dX10_sheet_91 (q := 93) rfl (Nat.le_of_ble_eq_true rfl) rfl ?_
                    refine v_ls [0, 1, 2] (ls2 := [(4, .int 0), (0, .ref (b_ad w 0)), (1, .int (nI u))]) rfl ?_
                    exact absurd c81_13 c52_6
                · refine v_aload_n h (i := 0) dX10_sheet_61 (q := 62) rfl rfl 0 rfl ?_
                  refine v_ldc h (v := -1000000001) m931 dX10_sheet_62 (q := 64) rfl ?_
                  refine v_callV h (As := [.int (-1000000001)]) (rest := []) (c_X10_finding (σ := σ) (e := 1) (v := -1000000001) hm (by decide) (by decide +kernel)) cal_X10_finding calV_X10_finding m932 ⟨rfl, rfl, Nat.le_of_ble_eq_true rfl, Nat.le_of_ble_eq_true rfl⟩ rfl hm.1.1 hm.1.2 ⟨_, _, rfl⟩ rfl (Nat.le_of_ble_eq_true rfl) dX10_sheet_64 (q := 67) rfl (kI ?_)
                  exact v_iret h dX10_sheet_67 (pM_of (by unfold oSheet; rw [if_pos ⟨s_in.mp c1, (Or.inr (Or.inr (Or.inr c26)))⟩, if_neg (fun z => z.1 c37_3), if_pos ⟨c52_6, c58_6⟩, ref1]) (hR.err (by decide)))
            · refine v_iload_n h (i := 3) dX10_sheet_40 (q := 41) rfl rfl 3 rfl ?_
              refine v_if_ge h (t := 51) dX10_sheet_41 (by decide) (q := 44) rfl (fun c41_3 => ?_) (fun c41_3 => ?_)
              · refine v_iload_n h (i := 2) dX10_sheet_51 (q := 52) rfl rfl 2 rfl ?_
                refine v_if_eq h (t := 68) dX10_sheet_52 (by decide) (q := 55) rfl (fun c52_7 => ?_) (fun c52_7 => ?_)
                · have hbo : b = 0 ∨ b = 8 ∨ b = 16 ∨ b = 32 := (Or.inr (Or.inr (Or.inr c26)))
                  have hs4 := s_in.mp c1
                  have hop : oSheet s b n A = (1, setS A (cl s) (b, 0, fun _ => 0)) := by
                    unfold oSheet
                    rw [if_pos ⟨hs4, hbo⟩, if_neg (fun z => z.1 c52_7), if_neg (fun z => z.1 c52_7), if_pos c52_7]
                  obtain ⟨u, hu, rfl⟩ := inN_nI hs4
                  rw [cl_nI (n := u) (by omega)] at hop
                  refine v_aload_n h (i := 0) dX10_sheet_68 (q := 69) rfl rfl 0 rfl ?_
                  refine v_get h (k := 19) (v := .ref (b_ad w 12)) cls10 hm.1.1 hm.1.2 (Nat.le_of_ble_eq_true rfl) m868 rfl dX10_sheet_69 (q := 72) rfl ?_
                  refine v_iload_n h (i := 1) dX10_sheet_72 (q := 73) rfl rfl 1 rfl ?_
                  refine v_iload_n h (i := 2) dX10_sheet_73 (q := 74) rfl rfl 2 rfl ?_
                  refine v_iast h (k := u) hm.2.2.2.2.2.2.2.2.2.2.2.2.1.1 hm.2.2.2.2.2.2.2.2.2.2.2.2.1.2 (vp_in_nI (by omega) (by decide)) (nI_clamp (by omega)) dX10_sheet_74 (q := 75) rfl ?_
                  refine v_aload_n h (i := 0) dX10_sheet_75 (q := 76) rfl rfl 0 rfl ?_
                  refine v_get h (k := 20) (v := .ref (b_ad w 13)) cls10 hm.1.1 hm.1.2 (Nat.le_of_ble_eq_true rfl) m869 rfl dX10_sheet_76 (q := 79) rfl ?_
                  refine v_iload_n h (i := 1) dX10_sheet_79 (q := 80) rfl rfl 1 rfl ?_
                  refine v_iload_n h (i := 2) dX10_sheet_80 (q := 81) rfl rfl 2 rfl ?_
                  refine v_if_ne h (t := 88) dX10_sheet_81 (by decide) (q := 84) rfl (fun c81_14 => ?_) (fun c81_14 => ?_)
                  · refine v_iload_n h (i := 3) dX10_sheet_88 (q := 89) rfl rfl 3 rfl ?_
                    refine v_iast h (k := u) hm.2.2.2.2.2.2.2.2.2.2.2.2.2.1.1 hm.2.2.2.2.2.2.2.2.2.2.2.2.2.1.2 (vp_in_nI (by omega) (by decide)) (nI_clamp (by omega)) dX10_sheet_89 (q := 90) rfl ?_
                    refine v_iconst h (v := 0) dX10_sheet_90 (q := 91) rfl (by decide) ?_
                    refine v_istore h (i := 4) (ls1 := [(4, .int 0), (0, .ref (b_ad w 0)), (1, .int (nI u)), (2, .int b), (3, .int n)]) dX10_sheet_91 (q := 93) rfl (Nat.le_of_ble_eq_true rfl) rfl ?_
                    refine v_ls [0, 1, 2] (ls2 := [(4, .int 0), (0, .ref (b_ad w 0)), (1, .int (nI u))]) rfl ?_
                    exact absurd c52_7 c81_14
                  · refine v_iconst h (v := 0) dX10_sheet_84 (q := 85) rfl (by decide) ?_
                    refine v_goto h (t := 89) dX10_sheet_85 (by decide) ?_
                    refine v_iast h (k := u) hm.2.2.2.2.2.2.2.2.2.2.2.2.2.1.1 hm.2.2.2.2.2.2.2.2.2.2.2.2.2.1.2 (vp_in_nI (by omega) (by decide)) (nI_clamp (by omega)) dX10_sheet_89 (q := 90) rfl ?_
                    refine v_iconst h (v := 0) dX10_sheet_90 (q := 91) rfl (by decide) ?_
                    refine v_istore h (i := 4) (ls1 := [(4, .int 0), (0, .ref (b_ad w 0)), (1, .int (nI u)), (2, .int b), (3, .int n)]) dX10_sheet_91 (q := 93) rfl (Nat.le_of_ble_eq_true rfl) rfl ?_
                    refine v_ls [0, 1, 2] (ls2 := [(4, .int 0), (0, .ref (b_ad w 0)), (1, .int (nI u))]) rfl ?_
                    exact lX10_sheet_93 hm hR h u 0 hu hbo (Nat.zero_le _) (fun z => rfl) hop 40 0 rfl _ (fun j a b c => by rw [b_up_n b, b_up_n a]) (by rw [b_up_n (by decide), b_up_s]) (by rw [b_up_s, b_up_n (by decide)]; rfl) (fun i hi => absurd hi (Nat.not_lt_zero i)) (fun i hi => by rw [b_up_n (by decide), b_up_n (by decide)])
                · refine v_iload_n h (i := 3) dX10_sheet_55 (q := 56) rfl rfl 3 rfl ?_
                  refine v_bipush h (v := 40) dX10_sheet_56 (q := 58) rfl (by decide) ?_
                  refine v_icmp_le h (t := 68) dX10_sheet_58 (by decide) (q := 61) rfl (fun c58_7 => ?_) (fun c58_7 => ?_)
                  · have hbo : b = 0 ∨ b = 8 ∨ b = 16 ∨ b = 32 := (Or.inr (Or.inr (Or.inr c26)))
                    have hs4 := s_in.mp c1
                    obtain ⟨n2, hn2, en2⟩ := n40 c41_3 c58_7
                    have hop : oSheet s b n A = (1, setS A (cl s) (b, n2, fun _ => 0)) := by
                      unfold oSheet
                      rw [if_pos ⟨hs4, hbo⟩, if_neg (fun z => z.2 c41_3), if_neg (fun z => z.2 c58_7), if_neg c52_7, en2, cl_nI (n := n2) (by omega)]
                    subst en2
                    obtain ⟨u, hu, rfl⟩ := inN_nI hs4
                    rw [cl_nI (n := u) (by omega)] at hop
                    refine v_aload_n h (i := 0) dX10_sheet_68 (q := 69) rfl rfl 0 rfl ?_
                    refine v_get h (k := 19) (v := .ref (b_ad w 12)) cls10 hm.1.1 hm.1.2 (Nat.le_of_ble_eq_true rfl) m868 rfl dX10_sheet_69 (q := 72) rfl ?_
                    refine v_iload_n h (i := 1) dX10_sheet_72 (q := 73) rfl rfl 1 rfl ?_
                    refine v_iload_n h (i := 2) dX10_sheet_73 (q := 74) rfl rfl 2 rfl ?_
                    refine v_iast h (k := u) hm.2.2.2.2.2.2.2.2.2.2.2.2.1.1 hm.2.2.2.2.2.2.2.2.2.2.2.2.1.2 (vp_in_nI (by omega) (by decide)) (nI_clamp (by omega)) dX10_sheet_74 (q := 75) rfl ?_
                    refine v_aload_n h (i := 0) dX10_sheet_75 (q := 76) rfl rfl 0 rfl ?_
                    refine v_get h (k := 20) (v := .ref (b_ad w 13)) cls10 hm.1.1 hm.1.2 (Nat.le_of_ble_eq_true rfl) m869 rfl dX10_sheet_76 (q := 79) rfl ?_
                    refine v_iload_n h (i := 1) dX10_sheet_79 (q := 80) rfl rfl 1 rfl ?_
                    refine v_iload_n h (i := 2) dX10_sheet_80 (q := 81) rfl rfl 2 rfl ?_
                    refine v_if_ne h (t := 88) dX10_sheet_81 (by decide) (q := 84) rfl (fun c81_15 => ?_) (fun c81_15 => ?_)
                    · refine v_iload_n h (i := 3) dX10_sheet_88 (q := 89) rfl rfl 3 rfl ?_
                      refine v_iast h (k := u) hm.2.2.2.2.2.2.2.2.2.2.2.2.2.1.1 hm.2.2.2.2.2.2.2.2.2.2.2.2.2.1.2 (vp_in_nI (by omega) (by decide)) (nI_clamp (by omega)) dX10_sheet_89 (q := 90) rfl ?_
                      refine v_iconst h (v := 0) dX10_sheet_90 (q := 91) rfl (by decide) ?_
                      refine v_istore h (i := 4) (ls1 := [(4, .int 0), (0, .ref (b_ad w 0)), (1, .int (nI u)), (2, .int b), (3, .int (nI n2))]) dX10_sheet_91 (q := 93) rfl (Nat.le_of_ble_eq_true rfl) rfl ?_
                      refine v_ls [0, 1, 2] (ls2 := [(4, .int 0), (0, .ref (b_ad w 0)), (1, .int (nI u))]) rfl ?_
                      exact lX10_sheet_93 hm hR h u n2 hu hbo hn2 (fun z => absurd z c52_7) hop 40 0 rfl _ (fun j a b c => by rw [b_up_n b, b_up_n a]) (by rw [b_up_n (by decide), b_up_s]) (by rw [b_up_s, b_up_n (by decide)]) (fun i hi => absurd hi (Nat.not_lt_zero i)) (fun i hi => by rw [b_up_n (by decide), b_up_n (by decide)])
                    · refine v_iconst h (v := 0) dX10_sheet_84 (q := 85) rfl (by decide) ?_
                      refine v_goto h (t := 89) dX10_sheet_85 (by decide) ?_
                      refine v_iast h (k := u) hm.2.2.2.2.2.2.2.2.2.2.2.2.2.1.1 hm.2.2.2.2.2.2.2.2.2.2.2.2.2.1.2 (vp_in_nI (by omega) (by decide)) (nI_clamp (by omega)) dX10_sheet_89 (q := 90) rfl ?_
                      refine v_iconst h (v := 0) dX10_sheet_90 (q := 91) rfl (by decide) ?_
                      refine v_istore h (i := 4) (ls1 := [(4, .int 0), (0, .ref (b_ad w 0)), (1, .int (nI u)), (2, .int b), (3, .int (nI n2))]) dX10_sheet_91 (q := 93) rfl (Nat.le_of_ble_eq_true rfl) rfl ?_
                      refine v_ls [0, 1, 2] (ls2 := [(4, .int 0), (0, .ref (b_ad w 0)), (1, .int (nI u))]) rfl ?_
                      exact absurd c81_15 c52_7
                  · refine v_aload_n h (i := 0) dX10_sheet_61 (q := 62) rfl rfl 0 rfl ?_
                    refine v_ldc h (v := -1000000001) m931 dX10_sheet_62 (q := 64) rfl ?_
                    refine v_callV h (As := [.int (-1000000001)]) (rest := []) (c_X10_finding (σ := σ) (e := 1) (v := -1000000001) hm (by decide) (by decide +kernel)) cal_X10_finding calV_X10_finding m932 ⟨rfl, rfl, Nat.le_of_ble_eq_true rfl, Nat.le_of_ble_eq_true rfl⟩ rfl hm.1.1 hm.1.2 ⟨_, _, rfl⟩ rfl (Nat.le_of_ble_eq_true rfl) dX10_sheet_64 (q := 67) rfl (kI ?_)
                    exact v_iret h dX10_sheet_67 (pM_of (by unfold oSheet; rw [if_pos ⟨s_in.mp c1, (Or.inr (Or.inr (Or.inr c26)))⟩, if_neg (fun z => z.2 c41_3), if_pos ⟨c52_7, c58_7⟩, ref1]) (hR.err (by decide)))
              · refine v_aload_n h (i := 0) dX10_sheet_44 (q := 45) rfl rfl 0 rfl ?_
                refine v_ldc h (v := -1000000003) m1165 dX10_sheet_45 (q := 47) rfl ?_
                refine v_callV h (As := [.int (-1000000003)]) (rest := []) (c_X10_finding (σ := σ) (e := 3) (v := -1000000003) hm (by decide) (by decide +kernel)) cal_X10_finding calV_X10_finding m932 ⟨rfl, rfl, Nat.le_of_ble_eq_true rfl, Nat.le_of_ble_eq_true rfl⟩ rfl hm.1.1 hm.1.2 ⟨_, _, rfl⟩ rfl (Nat.le_of_ble_eq_true rfl) dX10_sheet_47 (q := 50) rfl (kI ?_)
                exact v_iret h dX10_sheet_50 (pM_of (by unfold oSheet; rw [if_pos ⟨s_in.mp c1, (Or.inr (Or.inr (Or.inr c26)))⟩, if_pos ⟨c37_3, fun z => c41_3 z⟩, ref3]) (hR.err (by decide)))
          · refine v_aload_n h (i := 0) dX10_sheet_29 (q := 30) rfl rfl 0 rfl ?_
            refine v_ldc h (v := -1000000001) m931 dX10_sheet_30 (q := 32) rfl ?_
            refine v_callV h (As := [.int (-1000000001)]) (rest := []) (c_X10_finding (σ := σ) (e := 1) (v := -1000000001) hm (by decide) (by decide +kernel)) cal_X10_finding calV_X10_finding m932 ⟨rfl, rfl, Nat.le_of_ble_eq_true rfl, Nat.le_of_ble_eq_true rfl⟩ rfl hm.1.1 hm.1.2 ⟨_, _, rfl⟩ rfl (Nat.le_of_ble_eq_true rfl) dX10_sheet_32 (q := 35) rfl (kI ?_)
            exact v_iret h dX10_sheet_35 (pM_of (by unfold oSheet; rw [if_neg (fun z => by first | exact z.2.elim c8 (fun q => q.elim c14 (fun q => q.elim c20 c26))), ref1]) (hR.err (by decide)))
  · refine v_if_eq h (t := 29) dX10_sheet_4 (by decide) (q := 7) rfl (fun _ => ?_) (fun c => absurd (by decide) c)
    refine v_aload_n h (i := 0) dX10_sheet_29 (q := 30) rfl rfl 0 rfl ?_
    refine v_ldc h (v := -1000000001) m931 dX10_sheet_30 (q := 32) rfl ?_
    refine v_callV h (As := [.int (-1000000001)]) (rest := []) (c_X10_finding (σ := σ) (e := 1) (v := -1000000001) hm (by decide) (by decide +kernel)) cal_X10_finding calV_X10_finding m932 ⟨rfl, rfl, Nat.le_of_ble_eq_true rfl, Nat.le_of_ble_eq_true rfl⟩ rfl hm.1.1 hm.1.2 ⟨_, _, rfl⟩ rfl (Nat.le_of_ble_eq_true rfl) dX10_sheet_32 (q := 35) rfl (kI ?_)
    exact v_iret h dX10_sheet_35 (pM_of (by unfold oSheet; rw [if_neg (fun z => by first | exact c1 (s_in.mpr z.1)), ref1]) (hR.err (by decide)))

theorem put_sh {τ14 f : Nat → Int32} {b v w : Int32} {a k i n : Nat} (h : ∀ j, j < n → τ14 (a + j) = f j ∧ seS b (f j) = f j) (hi : i < n) (hv : w = seS b v) : upd τ14 (a + k) w (a + i) = upd f k (seS b v) i ∧ seS b (upd f k (seS b v) i) = upd f k (seS b v) i := by
  by_cases e : i = k
  · subst e
    rw [upd_s, upd_s]
    exact ⟨hv, se_se⟩
  · rw [upd_n (show a + i ≠ a + k by omega), upd_n e]
    exact h i hi

set_option maxHeartbeats 4000000 in
set_option maxRecDepth 100000 in
theorem c_X10_put {w : bw} {σ : bSt} {A : bA} {s i v : Int32} (hm : sModel w) (hR : RQ σ A) : MV yX10_put cX10_put 4 (some .int) (rmm 2 42) w [.ref (b_ad w 0), .int s, .int i, .int v] σ (pM (oPut s i v A)) := by
  refine b_met (ls := [(0, .ref (b_ad w 0)), (1, .int s), (2, .int i), (3, .int v)]) (by decide) (Nat.le_of_ble_eq_true rfl) rfl (fun x h => ?_)
  refine v_iload_n h (i := 1) dX10_put_0 (q := 1) rfl rfl 1 rfl ?_
  refine v_callS h (As := [.int s]) (rest := []) (c_X10_isSheet (v := s)) cal_X10_isSheet m1302 m1301 ⟨rfl, rfl, Nat.le_of_ble_eq_true rfl, Nat.le_of_ble_eq_true rfl⟩ rfl rfl (Nat.le_of_ble_eq_true rfl) dX10_put_1 (q := 4) rfl (kB (fun c1 => ?_) (fun c1 => ?_))
  · refine v_if_ne h (t := 14) dX10_put_4 (by decide) (q := 7) rfl (fun _ => ?_) (fun c => absurd c (by decide))
    obtain ⟨u, hu, rfl⟩ := inN_nI (s_in.mp c1)
    have g := hR.sh hu
    have g4 := g.2.2.2.1
    refine v_aload_n h (i := 0) dX10_put_14 (q := 15) rfl rfl 0 rfl ?_
    refine v_get h (k := 19) (v := .ref (b_ad w 12)) cls10 hm.1.1 hm.1.2 (Nat.le_of_ble_eq_true rfl) m868 rfl dX10_put_15 (q := 18) rfl ?_
    refine v_iload_n h (i := 1) dX10_put_18 (q := 19) rfl rfl 1 rfl ?_
    refine v_iald h (k := u) hm.2.2.2.2.2.2.2.2.2.2.2.2.1.1 hm.2.2.2.2.2.2.2.2.2.2.2.2.1.2 (vp_in_nI (by omega) (by decide)) (nI_clamp (by omega)) dX10_put_19 (q := 20) rfl ?_
    rw [show (σ 12 u : Int32) = (A.2.2.2.2.2 u).1 from g.1]
    refine v_if_ne h (t := 31) dX10_put_20 (by decide) (q := 23) rfl (fun c20 => ?_) (fun c20 => ?_)
    · refine v_iload_n h (i := 2) dX10_put_31 (q := 32) rfl rfl 2 rfl ?_
      refine v_iconst h (v := 0) dX10_put_32 (q := 33) rfl (by decide) ?_
      refine v_aload_n h (i := 0) dX10_put_33 (q := 34) rfl rfl 0 rfl ?_
      refine v_get h (k := 20) (v := .ref (b_ad w 13)) cls10 hm.1.1 hm.1.2 (Nat.le_of_ble_eq_true rfl) m869 rfl dX10_put_34 (q := 37) rfl ?_
      refine v_iload_n h (i := 1) dX10_put_37 (q := 38) rfl rfl 1 rfl ?_
      refine v_iald h (k := u) hm.2.2.2.2.2.2.2.2.2.2.2.2.2.1.1 hm.2.2.2.2.2.2.2.2.2.2.2.2.2.1.2 (vp_in_nI (by omega) (by decide)) (nI_clamp (by omega)) dX10_put_38 (q := 39) rfl ?_
      rw [show (σ 13 u : Int32) = nI (A.2.2.2.2.2 u).2.1 from g.2.2.1]
      refine v_iconst h (v := 1) dX10_put_39 (q := 40) rfl (by decide) ?_
      refine v_isub h dX10_put_40 (q := 41) rfl ?_
      refine v_callS h (As := [.int i, .int 0, .int ((nI (A.2.2.2.2.2 u).2.1) - 1)]) (rest := []) (c_X10_within (v := i) (l := 0) (m := (nI (A.2.2.2.2.2 u).2.1) - 1)) cal_X10_within m925 m924 ⟨rfl, rfl, Nat.le_of_ble_eq_true rfl, Nat.le_of_ble_eq_true rfl⟩ rfl rfl (Nat.le_of_ble_eq_true rfl) dX10_put_41 (q := 44) rfl (kB (fun c41 => ?_) (fun c41 => ?_))
      · refine v_if_ne h (t := 54) dX10_put_44 (by decide) (q := 47) rfl (fun _ => ?_) (fun c => absurd c (by decide))
        have hin := (is_iff (a := (A.2.2.2.2.2 u).2.1) (by omega)).mp c41
        obtain ⟨k, hk, rfl⟩ := inN_nI hin
        refine v_aload_n h (i := 0) dX10_put_54 (q := 55) rfl rfl 0 rfl ?_
        refine v_get h (k := 21) (v := .ref (b_ad w 14)) cls10 hm.1.1 hm.1.2 (Nat.le_of_ble_eq_true rfl) m870 rfl dX10_put_55 (q := 58) rfl ?_
        refine v_bipush h (v := 40) dX10_put_58 (q := 60) rfl (by decide) ?_
        refine v_iload_n h (i := 1) dX10_put_60 (q := 61) rfl rfl 1 rfl ?_
        refine v_imul h dX10_put_61 (q := 62) rfl ?_
        rw [show (40 * (nI u) : Int32) = nI (40 * u) from (nI_mulN 40 u)]
        refine v_iload_n h (i := 2) dX10_put_62 (q := 63) rfl rfl 2 rfl ?_
        refine v_iadd h dX10_put_63 (q := 64) rfl ?_
        rw [show ((nI (40 * u)) + (nI k) : Int32) = nI (40 * u + k) from (nI_add _ k)]
        refine v_aload_n h (i := 0) dX10_put_64 (q := 65) rfl rfl 0 rfl ?_
        refine v_get h (k := 19) (v := .ref (b_ad w 12)) cls10 hm.1.1 hm.1.2 (Nat.le_of_ble_eq_true rfl) m868 rfl dX10_put_65 (q := 68) rfl ?_
        refine v_iload_n h (i := 1) dX10_put_68 (q := 69) rfl rfl 1 rfl ?_
        refine v_iald h (k := u) hm.2.2.2.2.2.2.2.2.2.2.2.2.1.1 hm.2.2.2.2.2.2.2.2.2.2.2.2.1.2 (vp_in_nI (by omega) (by decide)) (nI_clamp (by omega)) dX10_put_69 (q := 70) rfl ?_
        rw [show (σ 12 u : Int32) = (A.2.2.2.2.2 u).1 from g.1]
        refine v_bipush h (v := 8) dX10_put_70 (q := 72) rfl (by decide) ?_
        refine v_icmp_ne h (t := 80) dX10_put_72 (by decide) (q := 75) rfl (fun c72 => ?_) (fun c72 => ?_)
        · refine v_aload_n h (i := 0) dX10_put_80 (q := 81) rfl rfl 0 rfl ?_
          refine v_get h (k := 19) (v := .ref (b_ad w 12)) cls10 hm.1.1 hm.1.2 (Nat.le_of_ble_eq_true rfl) m868 rfl dX10_put_81 (q := 84) rfl ?_
          refine v_iload_n h (i := 1) dX10_put_84 (q := 85) rfl rfl 1 rfl ?_
          refine v_iald h (k := u) hm.2.2.2.2.2.2.2.2.2.2.2.2.1.1 hm.2.2.2.2.2.2.2.2.2.2.2.2.1.2 (vp_in_nI (by omega) (by decide)) (nI_clamp (by omega)) dX10_put_85 (q := 86) rfl ?_
          rw [show (σ 12 u : Int32) = (A.2.2.2.2.2 u).1 from g.1]
          refine v_bipush h (v := 16) dX10_put_86 (q := 88) rfl (by decide) ?_
          refine v_icmp_ne h (t := 96) dX10_put_88 (by decide) (q := 91) rfl (fun c88 => ?_) (fun c88 => ?_)
          · refine v_iload_n h (i := 3) dX10_put_96 (q := 97) rfl rfl 3 rfl ?_
            have hval : (v : Int32) = seS (A.2.2.2.2.2 u).1 v := by unfold seS; rw [if_neg c72, if_neg c88]
            refine v_iast h (k := (40 * u + k)) hm.2.2.2.2.2.2.2.2.2.2.2.2.2.2.1.1 hm.2.2.2.2.2.2.2.2.2.2.2.2.2.2.1.2 (vp_in_nI (by omega) (by decide)) (nI_clamp (by omega)) dX10_put_97 (q := 98) rfl ?_
            refine v_iconst h (v := 1) dX10_put_98 (q := 99) rfl (by decide) ?_
            exact v_iret h dX10_put_99 (pM_of (by unfold oPut shA; rw [if_pos (s_in.mp c1), cl_nI (n := u) (by omega), if_neg c20, if_pos hin, cl_nI (n := k) (by omega)]) (hR.sheet (p := ((A.2.2.2.2.2 u).1, (A.2.2.2.2.2 u).2.1, upd (A.2.2.2.2.2 u).2.2 k (seS (A.2.2.2.2.2 u).1 v))) hu (fun j _ _ c _ => b_up_n c) ⟨by rw [b_up_n (by decide)]; exact g.1, fun t _ _ => by rw [b_up_n (by decide)]⟩ ⟨by rw [b_up_n (by decide)]; exact g.2.2.1, fun t _ _ => by rw [b_up_n (by decide)]⟩ g.2.1 g.2.2.2.1 g.2.2.2.2.1 (fun i2 hi2 => by rw [b_up_s]; exact put_sh (τ14 := σ 14) (f := (A.2.2.2.2.2 u).2.2) (b := (A.2.2.2.2.2 u).1) (v := v) (a := 40 * u) (k := k) (i := i2) (n := 40) (fun j hj => g.2.2.2.2.2 j hj) hi2 hval) (fun i hi => by rw [b_up_s, upd_n (by omega)])))
          · refine v_iload_n h (i := 3) dX10_put_91 (q := 92) rfl rfl 3 rfl ?_
            refine v_i2s h (v := v.toInt16.toInt32) dX10_put_92 (q := 93) rfl rfl ?_
            refine v_goto h (t := 97) dX10_put_93 (by decide) ?_
            have hval : (v.toInt16.toInt32 : Int32) = seS (A.2.2.2.2.2 u).1 v := by unfold seS; rw [if_neg c72, if_pos c88]
            refine v_iast h (k := (40 * u + k)) hm.2.2.2.2.2.2.2.2.2.2.2.2.2.2.1.1 hm.2.2.2.2.2.2.2.2.2.2.2.2.2.2.1.2 (vp_in_nI (by omega) (by decide)) (nI_clamp (by omega)) dX10_put_97 (q := 98) rfl ?_
            refine v_iconst h (v := 1) dX10_put_98 (q := 99) rfl (by decide) ?_
            exact v_iret h dX10_put_99 (pM_of (by unfold oPut shA; rw [if_pos (s_in.mp c1), cl_nI (n := u) (by omega), if_neg c20, if_pos hin, cl_nI (n := k) (by omega)]) (hR.sheet (p := ((A.2.2.2.2.2 u).1, (A.2.2.2.2.2 u).2.1, upd (A.2.2.2.2.2 u).2.2 k (seS (A.2.2.2.2.2 u).1 v))) hu (fun j _ _ c _ => b_up_n c) ⟨by rw [b_up_n (by decide)]; exact g.1, fun t _ _ => by rw [b_up_n (by decide)]⟩ ⟨by rw [b_up_n (by decide)]; exact g.2.2.1, fun t _ _ => by rw [b_up_n (by decide)]⟩ g.2.1 g.2.2.2.1 g.2.2.2.2.1 (fun i2 hi2 => by rw [b_up_s]; exact put_sh (τ14 := σ 14) (f := (A.2.2.2.2.2 u).2.2) (b := (A.2.2.2.2.2 u).1) (v := v) (a := 40 * u) (k := k) (i := i2) (n := 40) (fun j hj => g.2.2.2.2.2 j hj) hi2 hval) (fun i hi => by rw [b_up_s, upd_n (by omega)])))
        · refine v_iload_n h (i := 3) dX10_put_75 (q := 76) rfl rfl 3 rfl ?_
          refine v_i2b h (v := v.toInt8.toInt32) dX10_put_76 (q := 77) rfl rfl ?_
          refine v_goto h (t := 97) dX10_put_77 (by decide) ?_
          have hval : (v.toInt8.toInt32 : Int32) = seS (A.2.2.2.2.2 u).1 v := by unfold seS; rw [if_pos c72]
          refine v_iast h (k := (40 * u + k)) hm.2.2.2.2.2.2.2.2.2.2.2.2.2.2.1.1 hm.2.2.2.2.2.2.2.2.2.2.2.2.2.2.1.2 (vp_in_nI (by omega) (by decide)) (nI_clamp (by omega)) dX10_put_97 (q := 98) rfl ?_
          refine v_iconst h (v := 1) dX10_put_98 (q := 99) rfl (by decide) ?_
          exact v_iret h dX10_put_99 (pM_of (by unfold oPut shA; rw [if_pos (s_in.mp c1), cl_nI (n := u) (by omega), if_neg c20, if_pos hin, cl_nI (n := k) (by omega)]) (hR.sheet (p := ((A.2.2.2.2.2 u).1, (A.2.2.2.2.2 u).2.1, upd (A.2.2.2.2.2 u).2.2 k (seS (A.2.2.2.2.2 u).1 v))) hu (fun j _ _ c _ => b_up_n c) ⟨by rw [b_up_n (by decide)]; exact g.1, fun t _ _ => by rw [b_up_n (by decide)]⟩ ⟨by rw [b_up_n (by decide)]; exact g.2.2.1, fun t _ _ => by rw [b_up_n (by decide)]⟩ g.2.1 g.2.2.2.1 g.2.2.2.2.1 (fun i2 hi2 => by rw [b_up_s]; exact put_sh (τ14 := σ 14) (f := (A.2.2.2.2.2 u).2.2) (b := (A.2.2.2.2.2 u).1) (v := v) (a := 40 * u) (k := k) (i := i2) (n := 40) (fun j hj => g.2.2.2.2.2 j hj) hi2 hval) (fun i hi => by rw [b_up_s, upd_n (by omega)])))
      · refine v_if_ne h (t := 54) dX10_put_44 (by decide) (q := 47) rfl (fun c => absurd (by decide) c) (fun _ => ?_)
        refine v_aload_n h (i := 0) dX10_put_47 (q := 48) rfl rfl 0 rfl ?_
        refine v_ldc h (v := -1000000001) m931 dX10_put_48 (q := 50) rfl ?_
        refine v_callV h (As := [.int (-1000000001)]) (rest := []) (c_X10_finding (σ := σ) (e := 1) (v := -1000000001) hm (by decide) (by decide +kernel)) cal_X10_finding calV_X10_finding m932 ⟨rfl, rfl, Nat.le_of_ble_eq_true rfl, Nat.le_of_ble_eq_true rfl⟩ rfl hm.1.1 hm.1.2 ⟨_, _, rfl⟩ rfl (Nat.le_of_ble_eq_true rfl) dX10_put_50 (q := 53) rfl (kI ?_)
        exact v_iret h dX10_put_53 (pM_of (by unfold oPut shA; rw [if_pos (s_in.mp c1), cl_nI (n := u) (by omega), if_neg c20, if_neg (fun z => c41 ((is_iff (by omega)).mpr z)), ref1]) (hR.err (by decide)))
    · refine v_aload_n h (i := 0) dX10_put_23 (q := 24) rfl rfl 0 rfl ?_
      refine v_ldcw h (v := -1000000002) m1261 dX10_put_24 (q := 27) rfl ?_
      refine v_callV h (As := [.int (-1000000002)]) (rest := []) (c_X10_finding (σ := σ) (e := 2) (v := -1000000002) hm (by decide) (by decide +kernel)) cal_X10_finding calV_X10_finding m932 ⟨rfl, rfl, Nat.le_of_ble_eq_true rfl, Nat.le_of_ble_eq_true rfl⟩ rfl hm.1.1 hm.1.2 ⟨_, _, rfl⟩ rfl (Nat.le_of_ble_eq_true rfl) dX10_put_27 (q := 30) rfl (kI ?_)
      exact v_iret h dX10_put_30 (pM_of (by unfold oPut shA; rw [if_pos (s_in.mp c1), cl_nI (n := u) (by omega), if_pos c20, ref2]) (hR.err (by decide)))
  · refine v_if_ne h (t := 14) dX10_put_4 (by decide) (q := 7) rfl (fun c => absurd (by decide) c) (fun _ => ?_)
    refine v_aload_n h (i := 0) dX10_put_7 (q := 8) rfl rfl 0 rfl ?_
    refine v_ldc h (v := -1000000001) m931 dX10_put_8 (q := 10) rfl ?_
    refine v_callV h (As := [.int (-1000000001)]) (rest := []) (c_X10_finding (σ := σ) (e := 1) (v := -1000000001) hm (by decide) (by decide +kernel)) cal_X10_finding calV_X10_finding m932 ⟨rfl, rfl, Nat.le_of_ble_eq_true rfl, Nat.le_of_ble_eq_true rfl⟩ rfl hm.1.1 hm.1.2 ⟨_, _, rfl⟩ rfl (Nat.le_of_ble_eq_true rfl) dX10_put_10 (q := 13) rfl (kI ?_)
    exact v_iret h dX10_put_13 (pM_of (by unfold oPut; rw [if_neg (fun z => by first | exact c1 (s_in.mpr z)), ref1]) (hR.err (by decide)))

set_option maxHeartbeats 4000000 in
set_option maxRecDepth 100000 in
theorem c_X10_refuses {w : bw} {σ : bSt} {A : bA} {s b : Int32} (hm : sModel w) (hR : RQ σ A) : MV yX10_refuses cX10_refuses 3 (some .int) (rmm 2 44) w [.ref (b_ad w 0), .int s, .int b] σ (pI (rfV A s b) σ) := by
  refine b_met (ls := [(0, .ref (b_ad w 0)), (1, .int s), (2, .int b)]) (by decide) (Nat.le_of_ble_eq_true rfl) rfl (fun x h => ?_)
  refine v_iload_n h (i := 1) dX10_refuses_0 (q := 1) rfl rfl 1 rfl ?_
  refine v_callS h (As := [.int s]) (rest := []) (c_X10_isSheet (v := s)) cal_X10_isSheet m1302 m1301 ⟨rfl, rfl, Nat.le_of_ble_eq_true rfl, Nat.le_of_ble_eq_true rfl⟩ rfl rfl (Nat.le_of_ble_eq_true rfl) dX10_refuses_1 (q := 4) rfl (kB (fun c1 => ?_) (fun c1 => ?_))
  · refine v_if_eq h (t := 17) dX10_refuses_4 (by decide) (q := 7) rfl (fun c => absurd c (by decide)) (fun _ => ?_)
    refine v_aload_n h (i := 0) dX10_refuses_7 (q := 8) rfl rfl 0 rfl ?_
    refine v_iload_n h (i := 2) dX10_refuses_8 (q := 9) rfl rfl 2 rfl ?_
    refine v_bipush h (v := 7) dX10_refuses_9 (q := 11) rfl (by decide) ?_
    refine v_callV h (As := [.int b, .int 7]) (rest := []) (c_X10_is (σ := σ) (k := b) (c := 7) hm (by decide)) cal_X10_is calV_X10_is m953 ⟨rfl, rfl, Nat.le_of_ble_eq_true rfl, Nat.le_of_ble_eq_true rfl⟩ rfl hm.1.1 hm.1.2 ⟨_, _, rfl⟩ rfl (Nat.le_of_ble_eq_true rfl) dX10_refuses_11 (q := 14) rfl (kB (fun c11 => ?_) (fun c11 => ?_))
    · refine v_if_ne h (t := 22) dX10_refuses_14 (by decide) (q := 17) rfl (fun _ => ?_) (fun c => absurd c (by decide))
      have hin := s_in.mp c1
      obtain ⟨u, hu, rfl⟩ := inN_nI (s_in.mp c1)
      refine v_aload_n h (i := 0) dX10_refuses_22 (q := 23) rfl rfl 0 rfl ?_
      refine v_get h (k := 19) (v := .ref (b_ad w 12)) cls10 hm.1.1 hm.1.2 (Nat.le_of_ble_eq_true rfl) m868 rfl dX10_refuses_23 (q := 26) rfl ?_
      refine v_iload_n h (i := 1) dX10_refuses_26 (q := 27) rfl rfl 1 rfl ?_
      refine v_iald h (k := u) hm.2.2.2.2.2.2.2.2.2.2.2.2.1.1 hm.2.2.2.2.2.2.2.2.2.2.2.2.1.2 (vp_in_nI (by omega) (by decide)) (nI_clamp (by omega)) dX10_refuses_27 (q := 28) rfl ?_
      rw [show (σ 12 u : Int32) = (A.2.2.2.2.2 u).1 from (hR.sh hu).1]
      refine v_if_ne h (t := 37) dX10_refuses_28 (by decide) (q := 31) rfl (fun c28 => ?_) (fun c28 => ?_)
      · refine v_iconst h (v := 0) dX10_refuses_37 (q := 38) rfl (by decide) ?_
        exact v_iret h dX10_refuses_38 ⟨by unfold rfV shA; rw [if_pos ⟨hin, hR.isb.mp c11⟩, cl_nI (n := u) (by omega), if_neg c28], rfl⟩
      · refine v_ldcw h (v := -1000000002) m1261 dX10_refuses_31 (q := 34) rfl ?_
        refine v_goto h (t := 38) dX10_refuses_34 (by decide) ?_
        exact v_iret h dX10_refuses_38 ⟨by unfold rfV shA; rw [if_pos ⟨hin, hR.isb.mp c11⟩, cl_nI (n := u) (by omega), if_pos c28], rfl⟩
    · refine v_if_ne h (t := 22) dX10_refuses_14 (by decide) (q := 17) rfl (fun c => absurd (by decide) c) (fun _ => ?_)
      refine v_ldc h (v := -1000000001) m931 dX10_refuses_17 (q := 19) rfl ?_
      refine v_goto h (t := 38) dX10_refuses_19 (by decide) ?_
      exact v_iret h dX10_refuses_38 ⟨by unfold rfV; rw [if_neg (fun z => c11 (hR.isb.mpr z.2))], rfl⟩
  · refine v_if_eq h (t := 17) dX10_refuses_4 (by decide) (q := 7) rfl (fun _ => ?_) (fun c => absurd (by decide) c)
    refine v_ldc h (v := -1000000001) m931 dX10_refuses_17 (q := 19) rfl ?_
    refine v_goto h (t := 38) dX10_refuses_19 (by decide) ?_
    exact v_iret h dX10_refuses_38 ⟨by unfold rfV; rw [if_neg (fun z => c1 (s_in.mpr z.1))], rfl⟩

theorem pr_M {A : bA} {u : Nat} {k : Nat} {p : Int32} (hk : k ≤ (A.2.2.2.2.2 u).2.1) (hp : p = orF (fun k => wrS (A.2.2.2.2.2 u).1 ((A.2.2.2.2.2 u).2.2 k)) k) (hr : rkF (fun k => wrS (A.2.2.2.2.2 u).1 ((A.2.2.2.2.2 u).2.2 k)) k = k) (he : k = (A.2.2.2.2.2 u).2.1 ∨ (k < (A.2.2.2.2.2 u).2.1 ∧ ¬ wi (wrS (A.2.2.2.2.2 u).1 ((A.2.2.2.2.2 u).2.2 k)) 0 31)) : p = prS (A.2.2.2.2.2 u) := by
  unfold prS
  rcases he with e | ⟨e1, e2⟩
  · rw [← e, hr, hp]
  · have hz := rkF_stop hr e2 ((A.2.2.2.2.2 u).2.1 - k - 1)
    rw [show k + 1 + ((A.2.2.2.2.2 u).2.1 - k - 1) = (A.2.2.2.2.2 u).2.1 by omega] at hz
    rw [hz, hp]

set_option maxHeartbeats 4000000 in
set_option maxRecDepth 100000 in
theorem lX10_part_23 {w : bw} {σ : bSt} {A : bA} {s b : Int32} (hm : sModel w) (hR : RQ σ A) {x : bX} (h : Cx x w cX10_part RX10 6 (some .int) (rmm 3 66)) : ∀ u d : Nat, ∀ hu : u < 4, d < afN A.1.1 → (inN s 4 ∧ inN b (afN A.1.1)) ∧ ¬ (shA A s).1 = 0 → s = nI u → b = nI d → ∀ (m k : Nat) (p : Int32), k + m = 40 → k ≤ (A.2.2.2.2.2 u).2.1 → p = orF (fun k => wrS (A.2.2.2.2.2 u).1 ((A.2.2.2.2.2 u).2.2 k)) k → rkF (fun k => wrS (A.2.2.2.2.2 u).1 ((A.2.2.2.2.2 u).2.2 k)) k = k → V x w 6 (pM (oPart s b A)) 23 [(5, .int (nI k)), (4, .int p), (0, .ref (b_ad w 0)), (1, .int (nI u)), (2, .int (nI d))] [] σ := by
  intro u d hu hd hcz esu ebd
  have hb9 : d < 9 := by have := hR.af.2; omega
  have g4 := (hR.sh hu).2.2.2.1
  refine b_ind (fun m ih => ?_)
  intro k p hkm hkl0 hp hr
  refine v_iload h (i := 5) dX10_part_23 (q := 25) rfl 0 rfl ?_
  refine v_aload_n h (i := 0) dX10_part_25 (q := 26) rfl rfl 2 rfl ?_
  refine v_get h (k := 20) (v := .ref (b_ad w 13)) cls10 hm.1.1 hm.1.2 (Nat.le_of_ble_eq_true rfl) m869 rfl dX10_part_26 (q := 29) rfl ?_
  refine v_iload_n h (i := 1) dX10_part_29 (q := 30) rfl rfl 3 rfl ?_
  refine v_iald h (k := u) hm.2.2.2.2.2.2.2.2.2.2.2.2.2.1.1 hm.2.2.2.2.2.2.2.2.2.2.2.2.2.1.2 (vp_in_nI (by omega) (by decide)) (nI_clamp (by omega)) dX10_part_30 (q := 31) rfl ?_
  rw [show (σ 13 u : Int32) = nI (A.2.2.2.2.2 u).2.1 from (hR.sh hu).2.2.1]
  refine v_icmp_ge h (t := 80) dX10_part_31 (by decide) (q := 34) rfl (fun c31 => ?_) (fun c31 => ?_)
  · have hpp := pr_M (A := A) (u := u) (k := k) (p := p) hkl0 hp hr (Or.inl (by have := nge (k := (A.2.2.2.2.2 u).2.1) (nI_toInt (by omega)) (by omega) c31; omega))
    refine v_aload_n h (i := 0) dX10_part_80 (q := 81) rfl rfl 2 rfl ?_
    refine v_get h (k := 0) (v := .ref (b_ad w 1)) cls10 hm.1.1 hm.1.2 (Nat.le_of_ble_eq_true rfl) m849 rfl dX10_part_81 (q := 84) rfl ?_
    refine v_bipush h (v := 12) dX10_part_84 (q := 86) rfl (by decide) ?_
    refine v_iconst h (v := 4) dX10_part_86 (q := 87) rfl (by decide) ?_
    refine v_iload_n h (i := 2) dX10_part_87 (q := 88) rfl rfl 4 rfl ?_
    refine v_imul h dX10_part_88 (q := 89) rfl ?_
    rw [show (4 * (nI d) : Int32) = nI (4 * d) from (nI_mulN 4 _)]
    refine v_iadd h dX10_part_89 (q := 90) rfl ?_
    rw [show (12 + (nI (4 * d)) : Int32) = nI (12 + 4 * d) from (nI_add 12 _)]
    refine v_iconst h (v := 3) dX10_part_90 (q := 91) rfl (by decide) ?_
    refine v_iadd h dX10_part_91 (q := 92) rfl ?_
    rw [show ((nI (12 + 4 * d)) + 3 : Int32) = nI (15 + 4 * d) from (by rw [show (3 : Int32) = nI 3 from rfl, nI_add, show 12 + 4 * d + 3 = 15 + 4 * d by omega])]
    refine v_iload h (i := 4) dX10_part_92 (q := 94) rfl 1 rfl ?_
    refine v_iast h (k := (15 + 4 * d)) hm.2.1.1 hm.2.1.2 (vp_in_nI (by omega) (by decide)) (nI_clamp (by omega)) dX10_part_94 (q := 95) rfl ?_
    refine v_iload h (i := 4) dX10_part_95 (q := 97) rfl 1 rfl ?_
    refine v_callS h (As := [.int p]) (rest := []) (c_bits (σ := b_up σ 1 ((15 + 4 * d)) p) (v := p)) cal_X10_bits m1046 m1045 ⟨rfl, rfl, Nat.le_of_ble_eq_true rfl, Nat.le_of_ble_eq_true rfl⟩ rfl rfl (Nat.le_of_ble_eq_true rfl) dX10_part_97 (q := 100) rfl (kI ?_)
    exact v_iret h dX10_part_100 (pM_of (by subst esu ebd; unfold oPart; rw [if_pos hcz.1, if_neg hcz.2]; unfold shA; rw [cl_nI (n := u) (by omega), cl_nI (n := d) (by omega), ← hpp]) (hR.up1 (by omega) (hR.1.2.1.part hb9)))
  · have hkl : k < (A.2.2.2.2.2 u).2.1 := nlt (nI_toInt (by omega)) (by omega) c31
    refine v_aload_n h (i := 0) dX10_part_34 (q := 35) rfl rfl 2 rfl ?_
    refine v_get h (k := 21) (v := .ref (b_ad w 14)) cls10 hm.1.1 hm.1.2 (Nat.le_of_ble_eq_true rfl) m870 rfl dX10_part_35 (q := 38) rfl ?_
    refine v_bipush h (v := 40) dX10_part_38 (q := 40) rfl (by decide) ?_
    refine v_iload_n h (i := 1) dX10_part_40 (q := 41) rfl rfl 3 rfl ?_
    refine v_imul h dX10_part_41 (q := 42) rfl ?_
    rw [show (40 * (nI u) : Int32) = nI (40 * u) from (nI_mulN 40 u)]
    refine v_iload h (i := 5) dX10_part_42 (q := 44) rfl 0 rfl ?_
    refine v_iadd h dX10_part_44 (q := 45) rfl ?_
    rw [show ((nI (40 * u)) + (nI k) : Int32) = nI (40 * u + k) from (nI_add _ k)]
    refine v_iald h (k := (40 * u + k)) hm.2.2.2.2.2.2.2.2.2.2.2.2.2.2.1.1 hm.2.2.2.2.2.2.2.2.2.2.2.2.2.2.1.2 (vp_in_nI (by omega) (by decide)) (nI_clamp (by omega)) dX10_part_45 (q := 46) rfl ?_
    rw [show (σ 14 ((40 * u + k)) : Int32) = (A.2.2.2.2.2 u).2.2 k from ((hR.sh hu).2.2.2.2.2 k (by omega)).1]
    refine v_iconst h (v := 0) dX10_part_46 (q := 47) rfl (by decide) ?_
    refine v_bipush h (v := 31) dX10_part_47 (q := 49) rfl (by decide) ?_
    refine v_callS h (As := [.int ((A.2.2.2.2.2 u).2.2 k), .int 0, .int 31]) (rest := []) (c_X10_within (v := (A.2.2.2.2.2 u).2.2 k) (l := 0) (m := 31)) cal_X10_within m925 m924 ⟨rfl, rfl, Nat.le_of_ble_eq_true rfl, Nat.le_of_ble_eq_true rfl⟩ rfl rfl (Nat.le_of_ble_eq_true rfl) dX10_part_49 (q := 52) rfl (kB (fun c49 => ?_) (fun c49 => ?_))
    · refine v_if_eq h (t := 80) dX10_part_52 (by decide) (q := 55) rfl (fun c => absurd c (by decide)) (fun _ => ?_)
      refine v_iload h (i := 4) dX10_part_55 (q := 57) rfl 1 rfl ?_
      refine v_iconst h (v := 1) dX10_part_57 (q := 58) rfl (by decide) ?_
      refine v_aload_n h (i := 0) dX10_part_58 (q := 59) rfl rfl 2 rfl ?_
      refine v_get h (k := 21) (v := .ref (b_ad w 14)) cls10 hm.1.1 hm.1.2 (Nat.le_of_ble_eq_true rfl) m870 rfl dX10_part_59 (q := 62) rfl ?_
      refine v_bipush h (v := 40) dX10_part_62 (q := 64) rfl (by decide) ?_
      refine v_iload_n h (i := 1) dX10_part_64 (q := 65) rfl rfl 3 rfl ?_
      refine v_imul h dX10_part_65 (q := 66) rfl ?_
      rw [show (40 * (nI u) : Int32) = nI (40 * u) from (nI_mulN 40 u)]
      refine v_iload h (i := 5) dX10_part_66 (q := 68) rfl 0 rfl ?_
      refine v_iadd h dX10_part_68 (q := 69) rfl ?_
      rw [show ((nI (40 * u)) + (nI k) : Int32) = nI (40 * u + k) from (nI_add _ k)]
      refine v_iald h (k := (40 * u + k)) hm.2.2.2.2.2.2.2.2.2.2.2.2.2.2.1.1 hm.2.2.2.2.2.2.2.2.2.2.2.2.2.2.1.2 (vp_in_nI (by omega) (by decide)) (nI_clamp (by omega)) dX10_part_69 (q := 70) rfl ?_
      rw [show (σ 14 ((40 * u + k)) : Int32) = (A.2.2.2.2.2 u).2.2 k from ((hR.sh hu).2.2.2.2.2 k (by omega)).1]
      refine v_ishl h dX10_part_70 (q := 71) rfl ?_
      refine v_ior h dX10_part_71 (q := 72) rfl ?_
      refine v_istore h (i := 4) (ls1 := [(4, .int (p ||| (1 <<< (((A.2.2.2.2.2 u).2.2 k) &&& 31)))), (5, .int (nI k)), (0, .ref (b_ad w 0)), (1, .int (nI u)), (2, .int (nI d))]) dX10_part_72 (q := 74) rfl (Nat.le_of_ble_eq_true rfl) rfl ?_
      refine v_iinc h (p := 1) (u := nI (k + 1)) (ls1 := [(5, .int (nI (k + 1))), (4, .int (p ||| (1 <<< (((A.2.2.2.2.2 u).2.2 k) &&& 31)))), (0, .ref (b_ad w 0)), (1, .int (nI u)), (2, .int (nI d))]) dX10_part_74 (q := 77) rfl rfl (nI_1 k) (Nat.le_of_ble_eq_true rfl) rfl ?_
      refine v_goto h (t := 23) dX10_part_77 (by decide) ?_
      have hw := wr_31 ((hR.sh hu).2.2.2.2.2 k (by omega)).2
      have hwi := hw.1.mpr c49
      exact ih (m - 1) (by omega) (k + 1) _ (by omega) (by omega) (by rw [orF, ← hp, hw.2 c49]) (by rw [rkF, if_pos ⟨hr, hwi.1, hwi.2⟩])
    · refine v_if_eq h (t := 80) dX10_part_52 (by decide) (q := 55) rfl (fun _ => ?_) (fun c => absurd (by decide) c)
      have hpp := pr_M (A := A) (u := u) (k := k) (p := p) hkl0 hp hr (Or.inr ⟨hkl, fun z => c49 ((wr_31 ((hR.sh hu).2.2.2.2.2 k (by omega)).2).1.mp z)⟩)
      refine v_aload_n h (i := 0) dX10_part_80 (q := 81) rfl rfl 2 rfl ?_
      refine v_get h (k := 0) (v := .ref (b_ad w 1)) cls10 hm.1.1 hm.1.2 (Nat.le_of_ble_eq_true rfl) m849 rfl dX10_part_81 (q := 84) rfl ?_
      refine v_bipush h (v := 12) dX10_part_84 (q := 86) rfl (by decide) ?_
      refine v_iconst h (v := 4) dX10_part_86 (q := 87) rfl (by decide) ?_
      refine v_iload_n h (i := 2) dX10_part_87 (q := 88) rfl rfl 4 rfl ?_
      refine v_imul h dX10_part_88 (q := 89) rfl ?_
      rw [show (4 * (nI d) : Int32) = nI (4 * d) from (nI_mulN 4 _)]
      refine v_iadd h dX10_part_89 (q := 90) rfl ?_
      rw [show (12 + (nI (4 * d)) : Int32) = nI (12 + 4 * d) from (nI_add 12 _)]
      refine v_iconst h (v := 3) dX10_part_90 (q := 91) rfl (by decide) ?_
      refine v_iadd h dX10_part_91 (q := 92) rfl ?_
      rw [show ((nI (12 + 4 * d)) + 3 : Int32) = nI (15 + 4 * d) from (by rw [show (3 : Int32) = nI 3 from rfl, nI_add, show 12 + 4 * d + 3 = 15 + 4 * d by omega])]
      refine v_iload h (i := 4) dX10_part_92 (q := 94) rfl 1 rfl ?_
      refine v_iast h (k := (15 + 4 * d)) hm.2.1.1 hm.2.1.2 (vp_in_nI (by omega) (by decide)) (nI_clamp (by omega)) dX10_part_94 (q := 95) rfl ?_
      refine v_iload h (i := 4) dX10_part_95 (q := 97) rfl 1 rfl ?_
      refine v_callS h (As := [.int p]) (rest := []) (c_bits (σ := b_up σ 1 ((15 + 4 * d)) p) (v := p)) cal_X10_bits m1046 m1045 ⟨rfl, rfl, Nat.le_of_ble_eq_true rfl, Nat.le_of_ble_eq_true rfl⟩ rfl rfl (Nat.le_of_ble_eq_true rfl) dX10_part_97 (q := 100) rfl (kI ?_)
      exact v_iret h dX10_part_100 (pM_of (by subst esu ebd; unfold oPart; rw [if_pos hcz.1, if_neg hcz.2]; unfold shA; rw [cl_nI (n := u) (by omega), cl_nI (n := d) (by omega), ← hpp]) (hR.up1 (by omega) (hR.1.2.1.part hb9)))
set_option maxHeartbeats 4000000 in
set_option maxRecDepth 100000 in
theorem c_X10_part {w : bw} {σ : bSt} {A : bA} {s b : Int32} (hm : sModel w) (hR : RQ σ A) : MV yX10_part cX10_part 6 (some .int) (rmm 3 66) w [.ref (b_ad w 0), .int s, .int b] σ (pM (oPart s b A)) := by
  refine b_met (ls := [(0, .ref (b_ad w 0)), (1, .int s), (2, .int b)]) (by decide) (Nat.le_of_ble_eq_true rfl) rfl (fun x h => ?_)
  refine v_aload_n h (i := 0) dX10_part_0 (q := 1) rfl rfl 0 rfl ?_
  refine v_iload_n h (i := 1) dX10_part_1 (q := 2) rfl rfl 1 rfl ?_
  refine v_iload_n h (i := 2) dX10_part_2 (q := 3) rfl rfl 2 rfl ?_
  refine v_callV h (As := [.int s, .int b]) (rest := []) (c_X10_refuses (σ := σ) (A := A) (s := s) (b := b) hm hR) cal_X10_refuses calV_X10_refuses m1316 ⟨rfl, rfl, Nat.le_of_ble_eq_true rfl, Nat.le_of_ble_eq_true rfl⟩ rfl hm.1.1 hm.1.2 ⟨_, _, rfl⟩ rfl (Nat.le_of_ble_eq_true rfl) dX10_part_3 (q := 6) rfl (kI ?_)
  refine v_istore_n h (i := 3) (ls1 := [(3, .int (rfV A s b)), (0, .ref (b_ad w 0)), (1, .int s), (2, .int b)]) dX10_part_6 (q := 7) rfl rfl (Nat.le_of_ble_eq_true rfl) rfl ?_
  refine v_iload_n h (i := 3) dX10_part_7 (q := 8) rfl rfl 0 rfl ?_
  refine v_if_eq h (t := 17) dX10_part_8 (by decide) (q := 11) rfl (fun c8 => ?_) (fun c8 => ?_)
  · have hcz := rf_0 c8
    obtain ⟨u, hu, rfl⟩ := inN_nI hcz.1.1
    obtain ⟨d, hd, rfl⟩ := inN_nI hcz.1.2
    refine v_iconst h (v := 0) dX10_part_17 (q := 18) rfl (by decide) ?_
    refine v_istore h (i := 4) (ls1 := [(4, .int 0), (3, .int (rfV A (nI u) (nI d))), (0, .ref (b_ad w 0)), (1, .int (nI u)), (2, .int (nI d))]) dX10_part_18 (q := 20) rfl (Nat.le_of_ble_eq_true rfl) rfl ?_
    refine v_iconst h (v := 0) dX10_part_20 (q := 21) rfl (by decide) ?_
    refine v_istore h (i := 5) (ls1 := [(5, .int 0), (4, .int 0), (3, .int (rfV A (nI u) (nI d))), (0, .ref (b_ad w 0)), (1, .int (nI u)), (2, .int (nI d))]) dX10_part_21 (q := 23) rfl (Nat.le_of_ble_eq_true rfl) rfl ?_
    refine v_ls [0, 1, 3, 4, 5] (ls2 := [(5, .int 0), (4, .int 0), (0, .ref (b_ad w 0)), (1, .int (nI u)), (2, .int (nI d))]) rfl ?_
    exact lX10_part_23 hm hR h u d hu hd hcz rfl rfl 40 0 0 rfl (Nat.zero_le _) rfl rfl
  · obtain ⟨e, he, hv, hop, hoj⟩ := rf_n c8
    refine v_aload_n h (i := 0) dX10_part_11 (q := 12) rfl rfl 1 rfl ?_
    refine v_iload_n h (i := 3) dX10_part_12 (q := 13) rfl rfl 0 rfl ?_
    refine v_callV h (As := [.int (rfV A s b)]) (rest := []) (c_X10_finding (σ := σ) (e := e) (v := rfV A s b) hm he hv) cal_X10_finding calV_X10_finding m932 ⟨rfl, rfl, Nat.le_of_ble_eq_true rfl, Nat.le_of_ble_eq_true rfl⟩ rfl hm.1.1 hm.1.2 ⟨_, _, rfl⟩ rfl (Nat.le_of_ble_eq_true rfl) dX10_part_13 (q := 16) rfl (kI ?_)
    exact v_iret h dX10_part_16 (pM_of (by rw [hop]; unfold refA; rw [← hv]) (hR.err he))

set_option maxHeartbeats 4000000 in
set_option maxRecDepth 100000 in
theorem lX10_judge_31 {w : bw} {σ : bSt} {A : bA} {s b : Int32} (hm : sModel w) (hR : RQ σ A) {x : bX} (h : Cx x w cX10_judge RX10 5 (some .int) (rmm 4 93)) : ∀ u d : Nat, ∀ hu : u < 4, d < afN A.1.1 → (inN s 4 ∧ inN b (afN A.1.1)) ∧ ¬ (shA A s).1 = 0 → s = nI u → b = nI d → ∀ m k : Nat, k + m = (A.2.2.2.2.2 u).2.1 → ∀ τ : bSt, fM (b_set σ 3 (σ 1)) τ → MW τ (almN A.1.1 k) A.1.2.1 → jdN (fun k => wrS (A.2.2.2.2.2 u).1 ((A.2.2.2.2.2 u).2.2 k)) A.1.1 d m k = jdN (fun k => wrS (A.2.2.2.2.2 u).1 ((A.2.2.2.2.2 u).2.2 k)) A.1.1 d (A.2.2.2.2.2 u).2.1 0 → V x w 5 (pM (oJudge s b A)) 31 [(4, .int (nI k)), (0, .ref (b_ad w 0)), (1, .int (nI u)), (2, .int (nI d))] [] τ := by
  intro u d hu hd hcz esu ebd
  have hb9 : d < 9 := by have := hR.af.2; omega
  have g4 := (hR.sh hu).2.2.2.1
  refine b_ind (fun m ih => ?_)
  intro k hkm τ hf hWt hjd
  refine v_iload h (i := 4) dX10_judge_31 (q := 33) rfl 0 rfl ?_
  refine v_aload_n h (i := 0) dX10_judge_33 (q := 34) rfl rfl 1 rfl ?_
  refine v_get h (k := 20) (v := .ref (b_ad w 13)) cls10 hm.1.1 hm.1.2 (Nat.le_of_ble_eq_true rfl) m869 rfl dX10_judge_34 (q := 37) rfl ?_
  refine v_iload_n h (i := 1) dX10_judge_37 (q := 38) rfl rfl 2 rfl ?_
  refine v_iald h (k := u) hm.2.2.2.2.2.2.2.2.2.2.2.2.2.1.1 hm.2.2.2.2.2.2.2.2.2.2.2.2.2.1.2 (vp_in_nI (by omega) (by decide)) (nI_clamp (by omega)) dX10_judge_38 (q := 39) rfl ?_
  rw [show (τ 13 u : Int32) = nI (A.2.2.2.2.2 u).2.1 from (by rw [hf.1 13 (by decide) (by decide) (by decide) (by decide), b_set_n (by decide)]; exact (hR.sh hu).2.2.1)]
  refine v_icmp_ge h (t := 73) dX10_judge_39 (by decide) (q := 42) rfl (fun c39 => ?_) (fun c39 => ?_)
  · refine v_aload_n h (i := 0) dX10_judge_73 (q := 74) rfl rfl 1 rfl ?_
    refine v_iload h (i := 4) dX10_judge_74 (q := 76) rfl 0 rfl ?_
    refine v_callV h (As := [.int (nI k)]) (rest := []) (c_X10_putBack (σ := τ) (v := nI k) hm) cal_X10_putBack calV_X10_putBack m1205 ⟨rfl, rfl, Nat.le_of_ble_eq_true rfl, Nat.le_of_ble_eq_true rfl⟩ rfl hm.1.1 hm.1.2 ⟨_, _, rfl⟩ rfl (Nat.le_of_ble_eq_true rfl) dX10_judge_76 (q := 79) rfl (kI ?_)
    exact v_iret h dX10_judge_79 (pM_of (by subst esu ebd; unfold oJudge; rw [if_pos hcz.1, if_neg hcz.2]; unfold shA; rw [cl_nI (n := u) (by omega), cl_nI (n := d) (by omega), ← hjd, show m = 0 by have := nge (k := (A.2.2.2.2.2 u).2.1) (nI_toInt (by omega)) (by omega) c39; omega]; rfl) (hR.back hf hWt))
  · have hkl : k < (A.2.2.2.2.2 u).2.1 := nlt (nI_toInt (by omega)) (by omega) c39
    obtain ⟨cc, hcc, ecc⟩ := hWt.2.1.cell hb9
    have hbt := bt128 hR.1.2.1
    have jc : wrS (A.2.2.2.2.2 u).1 ((A.2.2.2.2.2 u).2.2 k) = almN A.1.1 k (14 + 4 * d) ↔ (A.2.2.2.2.2 u).2.2 k = almN A.1.1 k (14 + 4 * d) := by rw [ecc]; exact wr_cell ((hR.sh hu).2.2.2.2.2 k (by omega)).2 hcc
    refine v_aload_n h (i := 0) dX10_judge_42 (q := 43) rfl rfl 1 rfl ?_
    refine v_get h (k := 21) (v := .ref (b_ad w 14)) cls10 hm.1.1 hm.1.2 (Nat.le_of_ble_eq_true rfl) m870 rfl dX10_judge_43 (q := 46) rfl ?_
    refine v_bipush h (v := 40) dX10_judge_46 (q := 48) rfl (by decide) ?_
    refine v_iload_n h (i := 1) dX10_judge_48 (q := 49) rfl rfl 2 rfl ?_
    refine v_imul h dX10_judge_49 (q := 50) rfl ?_
    rw [show (40 * (nI u) : Int32) = nI (40 * u) from (nI_mulN 40 u)]
    refine v_iload h (i := 4) dX10_judge_50 (q := 52) rfl 0 rfl ?_
    refine v_iadd h dX10_judge_52 (q := 53) rfl ?_
    rw [show ((nI (40 * u)) + (nI k) : Int32) = nI (40 * u + k) from (nI_add _ k)]
    refine v_iald h (k := (40 * u + k)) hm.2.2.2.2.2.2.2.2.2.2.2.2.2.2.1.1 hm.2.2.2.2.2.2.2.2.2.2.2.2.2.2.1.2 (vp_in_nI (by omega) (by decide)) (nI_clamp (by omega)) dX10_judge_53 (q := 54) rfl ?_
    rw [show (τ 14 ((40 * u + k)) : Int32) = (A.2.2.2.2.2 u).2.2 k from (by rw [hf.1 14 (by decide) (by decide) (by decide) (by decide), b_set_n (by decide)]; exact ((hR.sh hu).2.2.2.2.2 k (by omega)).1)]
    refine v_aload_n h (i := 0) dX10_judge_54 (q := 55) rfl rfl 1 rfl ?_
    refine v_iload_n h (i := 2) dX10_judge_55 (q := 56) rfl rfl 3 rfl ?_
    refine v_iconst h (v := 2) dX10_judge_56 (q := 57) rfl (by decide) ?_
    refine v_callV h (As := [.int (nI d), .int 2]) (rest := [.int ((A.2.2.2.2.2 u).2.2 k)]) (c_X10_boatIs (σ := τ) (b := d) (f := 2) hm hb9 (by decide)) cal_X10_boatIs calV_X10_boatIs m961 ⟨rfl, rfl, Nat.le_of_ble_eq_true rfl, Nat.le_of_ble_eq_true rfl⟩ rfl hm.1.1 hm.1.2 ⟨_, _, rfl⟩ rfl (Nat.le_of_ble_eq_true rfl) dX10_judge_57 (q := 60) rfl (kI ?_)
    rw [show (τ 1 (14 + 4 * d) : Int32) = almN A.1.1 k (14 + 4 * d) from (hWt.n (by omega))]
    refine v_icmp_ne h (t := 73) dX10_judge_60 (by decide) (q := 63) rfl (fun c60 => ?_) (fun c60 => ?_)
    · refine v_aload_n h (i := 0) dX10_judge_73 (q := 74) rfl rfl 1 rfl ?_
      refine v_iload h (i := 4) dX10_judge_74 (q := 76) rfl 0 rfl ?_
      refine v_callV h (As := [.int (nI k)]) (rest := []) (c_X10_putBack (σ := τ) (v := nI k) hm) cal_X10_putBack calV_X10_putBack m1205 ⟨rfl, rfl, Nat.le_of_ble_eq_true rfl, Nat.le_of_ble_eq_true rfl⟩ rfl hm.1.1 hm.1.2 ⟨_, _, rfl⟩ rfl (Nat.le_of_ble_eq_true rfl) dX10_judge_76 (q := 79) rfl (kI ?_)
      exact v_iret h dX10_judge_79 (pM_of (by subst esu ebd; unfold oJudge; rw [if_pos hcz.1, if_neg hcz.2]; unfold shA; rw [cl_nI (n := u) (by omega), cl_nI (n := d) (by omega), ← hjd, show m = (m - 1) + 1 by omega, jd_stop (fun z => c60 (jc.mp z))]) (hR.back hf hWt))
    · refine v_aload_n h (i := 0) dX10_judge_63 (q := 64) rfl rfl 1 rfl ?_
      refine v_callV h (As := []) (rest := []) (c_X10_moveAll (σ := τ) (N := almN A.1.1 k) (T := A.1.2.1) hm hWt (by rw [alm_0, (hR.n (k := 0) (by omega)).symm.trans hR.mw.bt.1, nI_add, nI_clamp (by omega)]; omega)) cal_X10_moveAll calV_X10_moveAll m1180 ⟨rfl, rfl, Nat.le_of_ble_eq_true rfl, Nat.le_of_ble_eq_true rfl⟩ rfl hm.1.1 hm.1.2 ⟨_, _, rfl⟩ rfl (Nat.le_of_ble_eq_true rfl) dX10_judge_64 (q := 67) rfl (kV (fun σ64 h64 => ?_))
      refine v_iinc h (p := 0) (u := nI (k + 1)) (ls1 := [(4, .int (nI (k + 1))), (0, .ref (b_ad w 0)), (1, .int (nI u)), (2, .int (nI d))]) dX10_judge_67 (q := 70) rfl rfl (nI_1 k) (Nat.le_of_ble_eq_true rfl) rfl ?_
      refine v_goto h (t := 31) dX10_judge_70 (by decide) ?_
      exact ih (m - 1) (by omega) (k + 1) (by omega) σ64 (hf.trans h64.1) h64.2 (by rw [← hjd, show m = (m - 1) + 1 by omega, jd_go (jc.mpr c60)]; rfl)
set_option maxHeartbeats 4000000 in
set_option maxRecDepth 100000 in
theorem c_X10_judge {w : bw} {σ : bSt} {A : bA} {s b : Int32} (hm : sModel w) (hR : RQ σ A) : MV yX10_judge cX10_judge 5 (some .int) (rmm 4 93) w [.ref (b_ad w 0), .int s, .int b] σ (pM (oJudge s b A)) := by
  refine b_met (ls := [(0, .ref (b_ad w 0)), (1, .int s), (2, .int b)]) (by decide) (Nat.le_of_ble_eq_true rfl) rfl (fun x h => ?_)
  refine v_aload_n h (i := 0) dX10_judge_0 (q := 1) rfl rfl 0 rfl ?_
  refine v_iload_n h (i := 1) dX10_judge_1 (q := 2) rfl rfl 1 rfl ?_
  refine v_iload_n h (i := 2) dX10_judge_2 (q := 3) rfl rfl 2 rfl ?_
  refine v_callV h (As := [.int s, .int b]) (rest := []) (c_X10_refuses (σ := σ) (A := A) (s := s) (b := b) hm hR) cal_X10_refuses calV_X10_refuses m1316 ⟨rfl, rfl, Nat.le_of_ble_eq_true rfl, Nat.le_of_ble_eq_true rfl⟩ rfl hm.1.1 hm.1.2 ⟨_, _, rfl⟩ rfl (Nat.le_of_ble_eq_true rfl) dX10_judge_3 (q := 6) rfl (kI ?_)
  refine v_istore_n h (i := 3) (ls1 := [(3, .int (rfV A s b)), (0, .ref (b_ad w 0)), (1, .int s), (2, .int b)]) dX10_judge_6 (q := 7) rfl rfl (Nat.le_of_ble_eq_true rfl) rfl ?_
  refine v_iload_n h (i := 3) dX10_judge_7 (q := 8) rfl rfl 0 rfl ?_
  refine v_if_eq h (t := 17) dX10_judge_8 (by decide) (q := 11) rfl (fun c8 => ?_) (fun c8 => ?_)
  · have hcz := rf_0 c8
    obtain ⟨u, hu, rfl⟩ := inN_nI hcz.1.1
    obtain ⟨d, hd, rfl⟩ := inN_nI hcz.1.2
    refine v_aload_n h (i := 0) dX10_judge_17 (q := 18) rfl rfl 1 rfl ?_
    refine v_get h (k := 0) (v := .ref (b_ad w 1)) cls10 hm.1.1 hm.1.2 (Nat.le_of_ble_eq_true rfl) m849 rfl dX10_judge_18 (q := 21) rfl ?_
    refine v_aload_n h (i := 0) dX10_judge_21 (q := 22) rfl rfl 1 rfl ?_
    refine v_get h (k := 2) (v := .ref (b_ad w 3)) cls10 hm.1.1 hm.1.2 (Nat.le_of_ble_eq_true rfl) m851 rfl dX10_judge_22 (q := 25) rfl ?_
    refine v_callS h (As := [.ref (b_ad w 1), .ref (b_ad w 3)]) (rest := []) (c_X10_copy (σ := σ) (a := 1) (b := 3) hm.2.1 hm.2.2.2.1 (by decide)) cal_X10_copy m1203 m1202 ⟨rfl, rfl, Nat.le_of_ble_eq_true rfl, Nat.le_of_ble_eq_true rfl⟩ rfl rfl (Nat.le_of_ble_eq_true rfl) dX10_judge_25 (q := 28) rfl (kU ?_)
    refine v_iconst h (v := 0) dX10_judge_28 (q := 29) rfl (by decide) ?_
    refine v_istore h (i := 4) (ls1 := [(4, .int 0), (3, .int (rfV A (nI u) (nI d))), (0, .ref (b_ad w 0)), (1, .int (nI u)), (2, .int (nI d))]) dX10_judge_29 (q := 31) rfl (Nat.le_of_ble_eq_true rfl) rfl ?_
    refine v_ls [0, 2, 3, 4] (ls2 := [(4, .int 0), (0, .ref (b_ad w 0)), (1, .int (nI u)), (2, .int (nI d))]) rfl ?_
    exact lX10_judge_31 hm hR h u d hu hd hcz rfl rfl _ 0 (by omega) _ fM_rfl hR.mw.as3 rfl
  · obtain ⟨e, he, hv, hop, hoj⟩ := rf_n c8
    refine v_aload_n h (i := 0) dX10_judge_11 (q := 12) rfl rfl 1 rfl ?_
    refine v_iload_n h (i := 3) dX10_judge_12 (q := 13) rfl rfl 0 rfl ?_
    refine v_callV h (As := [.int (rfV A s b)]) (rest := []) (c_X10_finding (σ := σ) (e := e) (v := rfV A s b) hm he hv) cal_X10_finding calV_X10_finding m932 ⟨rfl, rfl, Nat.le_of_ble_eq_true rfl, Nat.le_of_ble_eq_true rfl⟩ rfl hm.1.1 hm.1.2 ⟨_, _, rfl⟩ rfl (Nat.le_of_ble_eq_true rfl) dX10_judge_13 (q := 16) rfl (kI ?_)
    exact v_iret h dX10_judge_16 (pM_of (by rw [hoj]; unfold refA; rw [← hv]) (hR.err he))
