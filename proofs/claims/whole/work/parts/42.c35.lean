theorem nxM_any {x : Int32} {k : Nat} (h : ∃ d, d < 64 ∧ x = nI d) (hk : k < 5) : nxM x (nI k) = nxC x (nI k) := by
  obtain ⟨d, hd, e⟩ := h
  rw [e, nx_M d hd k hk]
theorem t_and : ∀ t : Nat, t < 32 → nI t &&& 1 = nI (t % 2) ∧ nI t &&& 7 = nI (t % 8) := by decide +kernel
theorem rk_M {x0 tv t : Nat} (ht : t < 32) (v : Int32) (h : (nI (t % 2) = 1 ∧ v = nxC (nI x0) (nI tv)) ∨ (¬ nI (t % 2) = 1 ∧ v = nI x0)) : v = rkC (nI x0) (nI t) (nI tv) := by
  unfold rkC
  rw [(t_and t ht).1]
  rcases h with ⟨a, b⟩ | ⟨a, b⟩
  · rw [if_pos a, b]
  · rw [if_neg a, b]
theorem m4_tab : ∀ m : Nat, m < 10 → nI m - nI m / 4 * 4 + 1 = nI (m % 4 + 1) := by decide +kernel
theorem pl_M {x0 tv t mv : Nat} (ht : t < 32) (hm : mv < 10) (v : Int32) (h : (nI (t % 8) = 7 ∧ v = nxC (rkC (nI x0) (nI t) (nI tv)) (nI (mv % 4 + 1))) ∨ (¬ nI (t % 8) = 7 ∧ v = rkC (nI x0) (nI t) (nI tv))) : v = plC (nI mv) (nI x0) (nI t) (nI tv) := by
  unfold plC
  rw [(t_and t ht).2, m4_tab mv hm]
  rcases h with ⟨a, b⟩ | ⟨a, b⟩
  · rw [if_pos a, b]
  · rw [if_neg a, b]
theorem mvk0 {m c t tide : Int32} {sg : Prop} [Decidable sg] : mvC 0 m sg c t tide = rkC c t tide := by unfold mvC; rw [if_pos rfl]
theorem mvk1 {m c t tide : Int32} {sg : Prop} [Decidable sg] : mvC 1 m sg c t tide = c := by unfold mvC; rw [if_neg (by decide), if_neg (by decide), if_neg (by decide), if_neg (by decide), if_neg (by decide)]
theorem mvk2 {m c t tide : Int32} {sg : Prop} [Decidable sg] : mvC 2 m sg c t tide = nxC c tide := by unfold mvC; rw [if_neg (by decide), if_pos rfl]
theorem mvk3 {m c t tide : Int32} {sg : Prop} [Decidable sg] : mvC 3 m sg c t tide = plC m c t tide := by unfold mvC; rw [if_neg (by decide), if_neg (by decide), if_pos rfl]
theorem mvk4 {m c t tide : Int32} {sg : Prop} [Decidable sg] : mvC 4 m sg c t tide = c := by unfold mvC; rw [if_neg (by decide), if_neg (by decide), if_neg (by decide), if_neg (by decide), if_neg (by decide)]
theorem mvk5 {m c t tide : Int32} {sg : Prop} [Decidable sg] : mvC 5 m sg c t tide = if t < m then c else nxC c tide := by unfold mvC; rw [if_neg (by decide), if_neg (by decide), if_neg (by decide), if_pos rfl]
theorem mvk6 {m c t tide : Int32} {sg : Prop} [Decidable sg] : mvC 6 m sg c t tide = if sg then plC m c t tide else c := by unfold mvC; rw [if_neg (by decide), if_neg (by decide), if_neg (by decide), if_neg (by decide), if_pos rfl]
def fM (σ τ : bSt) : Prop := (∀ j, j ≠ 1 → j ≠ 5 → j ≠ 8 → j ≠ 9 → τ j = σ j) ∧ ∀ k, (k = 9 ∨ k = 10 ∨ 66 ≤ k) → τ 1 k = σ 1 k
theorem fM_rfl {σ : bSt} : fM σ σ := ⟨fun _ _ _ _ _ => rfl, fun _ _ => rfl⟩
theorem fM.trans {a b c : bSt} (h : fM a b) (k : fM b c) : fM a c := ⟨fun j h1 h2 h3 h4 => (k.1 j h1 h2 h3 h4).trans (h.1 j h1 h2 h3 h4), fun i hi => (k.2 i hi).trans (h.2 i hi)⟩
theorem fM_s {σ τ : bSt} (h : sM σ τ) : fM σ τ := ⟨fun j _ h2 h3 h4 => h j h2 h3 h4, fun k _ => by rw [h 1 (by decide) (by decide) (by decide)]⟩
theorem fM_up {σ : bSt} {k : Nat} {v : Int32} (hk : k < 66 ∧ k ≠ 9 ∧ k ≠ 10) : fM σ (b_up σ 1 k v) := ⟨fun j h1 _ _ _ => b_up_n h1, fun i hi => by rw [b_up_s, upd_n (by omega)]⟩
theorem MW.up {σ : bSt} {N : bN} {T : bT} {k : Nat} {v : Int32} (h : MW σ N T) (hk : k < 66 ∧ k ≠ 9 ∧ k ≠ 10) (hI : IvN (upd N k v)) : MW (b_up σ 1 k v) (upd N k v) T := by
  obtain ⟨h1, h2, h3, h4⟩ := h
  refine ⟨fun j j1 j2 j3 => ?_, hI, fun u hu => ?_, h4.sc (b_up_n (by decide))⟩
  · rw [b_up_s]
    unfold upd
    by_cases e : j = k
    · rw [if_pos e, if_pos e]
    · rw [if_neg e, if_neg e]
      exact h1 j j1 j2 j3
  · obtain ⟨a, b, c⟩ := h3 u hu
    exact ⟨by rw [b_up_s, upd_n (by omega)]; exact a, b, fun i hi => by rw [b_up_s, upd_n (by omega)]; exact c i hi⟩
theorem MW.eqN {σ : bSt} {N N' : bN} {T : bT} (h : MW σ N T) (e : N = N') : MW σ N' T := e ▸ h
theorem imin_comm (a b : Int32) : imin a b = imin b a := by
  unfold imin
  by_cases c : b < a
  · rw [if_pos c, if_neg (fun z => by rw [i_lt] at c z; omega)]
  · rw [if_neg c]
    by_cases d : a < b
    · rw [if_pos d]
    · rw [if_neg d]
      rw [i_lt] at c d
      exact Int32.toInt_inj.mp (by omega)
theorem IvN_mv1 {N : bN} (h : IvN N) {i : Nat} (hi : i < 9) (ht : tN N < 32) : IvN (upd (mvN N i) (14 + 4 * i) (mv1N N i)) := by
  obtain ⟨c, hc, e⟩ := h.cell hi
  obtain ⟨d, hd, e2⟩ := mv_rng hc (N (12 + 4 * i)) (N (13 + 4 * i)) (sgN N i = true) (nI (tN N)) (N (2 + tN N / 8))
  unfold mv1N
  rw [e, e2]
  exact (h.mv i (by omega)).upc hi hd
theorem hdN_cg {N M : bN} {heard : Int32} (h : hdN N heard) (e : afN M = afN N) : hdN M heard := by
  unfold hdN at *
  rw [e]
  exact h
theorem bx_and0 {x y : Int32} {d : Nat} (hd : d < 32) (h : ushr x (nI d) &&& 1 = 0) : ushr (x &&& y) (nI d) &&& 1 = 0 := by
  apply bx_of hd
  rw [Int32.toBitVec_and, BitVec.getLsbD_and]
  have e : x.toBitVec.getLsbD d = false := by
    cases c : x.toBitVec.getLsbD d with
    | false => rfl
    | true =>
      exfalso
      have h2 := congrArg (fun z : Int32 => z.toBitVec.getLsbD 0) h
      have h3 : (ushr x (nI d) &&& 1).toBitVec.getLsbD 0 = true := by
        rw [Int32.toBitVec_and, BitVec.getLsbD_and, bv_ushr x hd, BitVec.getLsbD_ushiftRight, Nat.add_zero, c]
        rfl
      have h4 : (0 : Int32).toBitVec.getLsbD 0 = false := rfl
      have h5 : (ushr x (nI d) &&& 1).toBitVec.getLsbD 0 = (0 : Int32).toBitVec.getLsbD 0 := h2
      rw [h3, h4] at h5
      exact absurd h5 (by decide)
  rw [e, Bool.false_and]
theorem fg_hd {N : bN} {heard z : Int32} (h : hdN N heard) : ∀ n, hdN N (fgN heard z n).2
  | 0 => h
  | n + 1 => by
    have ih := fg_hd (z := z) h n
    rw [fgN]
    by_cases c : ushr heard (nI n) &&& 1 = 0
    · rw [if_pos c]
      exact ih
    · rw [if_neg c]
      dsimp only
      split
      · exact fun d h1 h2 => bx_and0 (by omega) (ih d h1 h2)
      · exact ih
theorem fg_stop {N : bN} {heard z : Int32} (h : hdN N heard) {b : Nat} (hb : ¬ b < afN N) : ∀ k, b + k ≤ 9 → fgN heard z (b + k) = fgN heard z b
  | 0, _ => rfl
  | k + 1, hk => by
    show fgN heard z ((b + k) + 1) = _
    rw [fgN, if_pos (h (b + k) (by omega) (by omega)), fg_stop h hb k (by omega)]
theorem bx_set {x : Int32} {d : Nat} (hd : d < 32) (c : x.toBitVec.getLsbD d = true) : ¬ ushr x (nI d) &&& 1 = 0 := by
  intro h
  have h2 := congrArg (fun z : Int32 => z.toBitVec.getLsbD 0) h
  have h3 : (ushr x (nI d) &&& 1).toBitVec.getLsbD 0 = true := by
    rw [Int32.toBitVec_and, BitVec.getLsbD_and, bv_ushr x hd, BitVec.getLsbD_ushiftRight, Nat.add_zero, c]
    rfl
  have h4 : (0 : Int32).toBitVec.getLsbD 0 = false := rfl
  have h5 : (ushr x (nI d) &&& 1).toBitVec.getLsbD 0 = (0 : Int32).toBitVec.getLsbD 0 := h2
  rw [h3, h4] at h5
  exact absurd h5 (by decide)
theorem sng_bit {N : bN} {b : Nat} (hb9 : b < 9) (hb : b < afN N) : ushr (sngN N 9) (nI b) &&& 1 = 0 ↔ ¬ sgN N b = true := by
  have e := sk_bit (N := N) (t := tN N) 9 (Nat.le_refl 9) b (by omega)
  rw [← sng_sk (N := N) (t := tN N) rfl (fun _ _ => rfl) rfl 9 (Nat.le_refl 9)] at e
  generalize sngN N 9 = S at e ⊢
  constructor
  · intro h z
    unfold sgN at z
    rw [decide_eq_true_eq] at z
    rw [decide_eq_true (And.intro hb9 (And.intro hb z))] at e
    exact bx_set (by omega) e h
  · intro h
    refine bx_of (by omega) ?_
    rw [e]
    refine decide_eq_false (fun q => h ?_)
    unfold sgN
    exact decide_eq_true q.2.2

set_option maxHeartbeats 4000000 in
set_option maxRecDepth 100000 in
theorem c_X10_drawn {w : bw} {σ : bSt}  (hm : sModel w) : MV yX10_drawn cX10_drawn 2 (some .int) (rmm 0 0) w [.ref (b_ad w 0), .int 6] σ (pI (irm (ushr (σ 1 11 * 1103515245 + 12345) 8) 6) (b_up σ 1 11 (σ 1 11 * 1103515245 + 12345))) := by
  refine b_met (ls := [(0, .ref (b_ad w 0)), (1, .int 6)]) (by decide) (Nat.le_of_ble_eq_true rfl) rfl (fun x h => ?_)
  refine v_aload_n h (i := 0) dX10_drawn_0 (q := 1) rfl rfl 0 rfl ?_
  refine v_get h (k := 0) (v := .ref (b_ad w 1)) cls10 hm.1.1 hm.1.2 (Nat.le_of_ble_eq_true rfl) m849 rfl dX10_drawn_1 (q := 4) rfl ?_
  refine v_bipush h (v := 11) dX10_drawn_4 (q := 6) rfl (by decide) ?_
  refine v_aload_n h (i := 0) dX10_drawn_6 (q := 7) rfl rfl 0 rfl ?_
  refine v_get h (k := 0) (v := .ref (b_ad w 1)) cls10 hm.1.1 hm.1.2 (Nat.le_of_ble_eq_true rfl) m849 rfl dX10_drawn_7 (q := 10) rfl ?_
  refine v_bipush h (v := 11) dX10_drawn_10 (q := 12) rfl (by decide) ?_
  refine v_iald h (k := 11) hm.2.1.1 hm.2.1.2 (vp_in_nI (n := 11) (by decide) (by decide)) (by decide) dX10_drawn_12 (q := 13) rfl ?_
  refine v_ldc h (v := 1103515245) m1174 dX10_drawn_13 (q := 15) rfl ?_
  refine v_imul h dX10_drawn_15 (q := 16) rfl ?_
  refine v_sipush h (v := 12345) dX10_drawn_16 (q := 19) rfl (by decide) ?_
  refine v_iadd h dX10_drawn_19 (q := 20) rfl ?_
  refine v_iast h (k := 11) hm.2.1.1 hm.2.1.2 (vp_in_nI (n := 11) (by decide) (by decide)) (by decide) dX10_drawn_20 (q := 21) rfl ?_
  refine v_aload_n h (i := 0) dX10_drawn_21 (q := 22) rfl rfl 0 rfl ?_
  refine v_get h (k := 0) (v := .ref (b_ad w 1)) cls10 hm.1.1 hm.1.2 (Nat.le_of_ble_eq_true rfl) m849 rfl dX10_drawn_22 (q := 25) rfl ?_
  refine v_bipush h (v := 11) dX10_drawn_25 (q := 27) rfl (by decide) ?_
  refine v_iald h (k := 11) hm.2.1.1 hm.2.1.2 (vp_in_nI (n := 11) (by decide) (by decide)) (by decide) dX10_drawn_27 (q := 28) rfl ?_
  rw [show ((b_up σ 1 11 (((σ 1 11) * 1103515245) + 12345)) 1 11 : Int32) = σ 1 11 * 1103515245 + 12345 from (by rw [b_up_s, upd_s])]
  refine v_bipush h (v := 8) dX10_drawn_28 (q := 30) rfl (by decide) ?_
  refine v_iushr h (v := ushr (σ 1 11 * 1103515245 + 12345) 8) dX10_drawn_30 (q := 31) rfl rfl ?_
  refine v_iload_n h (i := 1) dX10_drawn_31 (q := 32) rfl rfl 1 rfl ?_
  refine v_irem h dX10_drawn_32 (q := 33) rfl (by decide) ?_
  exact v_iret h dX10_drawn_33 ⟨rfl, rfl⟩

set_option maxHeartbeats 4000000 in
set_option maxRecDepth 100000 in
theorem c_X10_movesTo {w : bw} {σ : bSt} {b : Nat} {N : bN} {T : bT} (hm : sModel w) (hW : MW σ N T) (hb : b < afN N) : MV yX10_movesTo cX10_movesTo 8 (some .int) (rmm 2 45) w [.ref (b_ad w 0), .int (nI b)] σ (pI (mv1N N b) σ) := by
  refine b_met (ls := [(0, .ref (b_ad w 0)), (1, .int (nI b))]) (by decide) (Nat.le_of_ble_eq_true rfl) rfl (fun x h => ?_)
  have ht : (N 0).toNatClampNeg % 32 < 32 := Nat.mod_lt _ (by decide)
  have h0 := hW.bt.1
  have hbt := hW.bt.2
  have hb9 : b < 9 := Nat.lt_of_lt_of_le hb hW.af.2
  obtain ⟨x0, hx, ex⟩ := hW.cell hb9
  obtain ⟨mv, hmv, em⟩ := (hW.2.1.2.2.2.2.2.2.1 b hb9).2.1
  obtain ⟨kv, hkv, ek⟩ := (hW.2.1.2.2.2.2.2.2.1 b hb9).1
  obtain ⟨tv, htv, et⟩ := hW.2.1.2.2.1 ((N 0).toNatClampNeg % 32 / 8) (by omega)
  have hval : mv1N N b = mvC (nI kv) (nI mv) (sgN N b = true) (nI x0) (nI ((N 0).toNatClampNeg % 32)) (nI tv) := by
    unfold mv1N
    rw [ex, em, ek]
    show mvC _ _ _ _ _ (N (2 + (N 0).toNatClampNeg % 32 / 8)) = _
    rw [et]
    rfl
  have hsg : ushr (σ 1 (15 + 4 * b)) (nI ((N 0).toNatClampNeg % 32)) &&& 1 = 1 ↔ sgN N b = true := by
    unfold sgN
    rw [decide_eq_true_eq, hW.b (f := 3) hb9 (by decide)]
    exact Iff.rfl
  refine v_aload_n h (i := 0) dX10_movesTo_0 (q := 1) rfl rfl 0 rfl ?_
  refine v_callV h (As := []) (rest := []) (c_X10_beat (σ := σ) hm h0 hbt) cal_X10_beat calV_X10_beat m965 ⟨rfl, rfl, Nat.le_of_ble_eq_true rfl, Nat.le_of_ble_eq_true rfl⟩ rfl hm.1.1 hm.1.2 ⟨_, _, rfl⟩ rfl (Nat.le_of_ble_eq_true rfl) dX10_movesTo_1 (q := 4) rfl (kI ?_)
  refine v_istore_n h (i := 2) (ls1 := [(2, .int (nI ((N 0).toNatClampNeg % 32))), (0, .ref (b_ad w 0)), (1, .int (nI b))]) dX10_movesTo_4 (q := 5) rfl rfl (Nat.le_of_ble_eq_true rfl) rfl ?_
  refine v_aload_n h (i := 0) dX10_movesTo_5 (q := 6) rfl rfl 1 rfl ?_
  refine v_iload_n h (i := 1) dX10_movesTo_6 (q := 7) rfl rfl 2 rfl ?_
  refine v_iconst h (v := 2) dX10_movesTo_7 (q := 8) rfl (by decide) ?_
  refine v_callV h (As := [.int (nI b), .int 2]) (rest := []) (c_X10_boatIs (σ := σ) (b := b) (f := 2) hm hb9 (by decide)) cal_X10_boatIs calV_X10_boatIs m961 ⟨rfl, rfl, Nat.le_of_ble_eq_true rfl, Nat.le_of_ble_eq_true rfl⟩ rfl hm.1.1 hm.1.2 ⟨_, _, rfl⟩ rfl (Nat.le_of_ble_eq_true rfl) dX10_movesTo_8 (q := 11) rfl (kI ?_)
  rw [show (σ 1 (14 + 4 * b) : Int32) = nI x0 from ((hW.b (f := 2) hb9 (by decide)).trans ex)]
  refine v_istore_n h (i := 3) (ls1 := [(3, .int (nI x0)), (2, .int (nI ((N 0).toNatClampNeg % 32))), (0, .ref (b_ad w 0)), (1, .int (nI b))]) dX10_movesTo_11 (q := 12) rfl rfl (Nat.le_of_ble_eq_true rfl) rfl ?_
  refine v_aload_n h (i := 0) dX10_movesTo_12 (q := 13) rfl rfl 2 rfl ?_
  refine v_iload_n h (i := 1) dX10_movesTo_13 (q := 14) rfl rfl 3 rfl ?_
  refine v_iconst h (v := 1) dX10_movesTo_14 (q := 15) rfl (by decide) ?_
  refine v_callV h (As := [.int (nI b), .int 1]) (rest := []) (c_X10_boatIs (σ := σ) (b := b) (f := 1) hm hb9 (by decide)) cal_X10_boatIs calV_X10_boatIs m961 ⟨rfl, rfl, Nat.le_of_ble_eq_true rfl, Nat.le_of_ble_eq_true rfl⟩ rfl hm.1.1 hm.1.2 ⟨_, _, rfl⟩ rfl (Nat.le_of_ble_eq_true rfl) dX10_movesTo_15 (q := 18) rfl (kI ?_)
  rw [show (σ 1 (13 + 4 * b) : Int32) = nI mv from ((hW.b (f := 1) hb9 (by decide)).trans em)]
  refine v_istore h (i := 4) (ls1 := [(4, .int (nI mv)), (3, .int (nI x0)), (2, .int (nI ((N 0).toNatClampNeg % 32))), (0, .ref (b_ad w 0)), (1, .int (nI b))]) dX10_movesTo_18 (q := 20) rfl (Nat.le_of_ble_eq_true rfl) rfl ?_
  refine v_iload_n h (i := 3) dX10_movesTo_20 (q := 21) rfl rfl 1 rfl ?_
  refine v_aload_n h (i := 0) dX10_movesTo_21 (q := 22) rfl rfl 3 rfl ?_
  refine v_get h (k := 0) (v := .ref (b_ad w 1)) cls10 hm.1.1 hm.1.2 (Nat.le_of_ble_eq_true rfl) m849 rfl dX10_movesTo_22 (q := 25) rfl ?_
  refine v_iconst h (v := 2) dX10_movesTo_25 (q := 26) rfl (by decide) ?_
  refine v_iload_n h (i := 2) dX10_movesTo_26 (q := 27) rfl rfl 2 rfl ?_
  refine v_bipush h (v := 8) dX10_movesTo_27 (q := 29) rfl (by decide) ?_
  refine v_idiv h dX10_movesTo_29 (q := 30) rfl (by decide) ?_
  rw [show ((nI ((N 0).toNatClampNeg % 32)) / 8 : Int32) = nI ((N 0).toNatClampNeg % 32 / 8) from (pk_div (d := 8) (by omega) (by decide) (by decide))]
  refine v_iadd h dX10_movesTo_30 (q := 31) rfl ?_
  rw [show (2 + (nI ((N 0).toNatClampNeg % 32 / 8)) : Int32) = nI (2 + (N 0).toNatClampNeg % 32 / 8) from (nI_add 2 _)]
  refine v_iald h (k := (2 + (N 0).toNatClampNeg % 32 / 8)) hm.2.1.1 hm.2.1.2 (vp_in_nI (by omega) (by decide)) (nI_clamp (by omega)) dX10_movesTo_31 (q := 32) rfl ?_
  rw [show (σ 1 ((2 + (N 0).toNatClampNeg % 32 / 8)) : Int32) = nI tv from ((hW.n (by omega)).trans et)]
  refine v_callS h (As := [.int (nI x0), .int (nI tv)]) (rest := []) (c_X10_next (c := nI x0) (k := nI tv)) cal_X10_next m1189 m1188 ⟨rfl, rfl, Nat.le_of_ble_eq_true rfl, Nat.le_of_ble_eq_true rfl⟩ rfl rfl (Nat.le_of_ble_eq_true rfl) dX10_movesTo_32 (q := 35) rfl (kI ?_)
  rw [show (nxM (nI x0) (nI tv) : Int32) = nxC (nI x0) (nI tv) from (nx_M x0 hx tv (by omega))]
  refine v_istore h (i := 5) (ls1 := [(5, .int (nxC (nI x0) (nI tv))), (4, .int (nI mv)), (3, .int (nI x0)), (2, .int (nI ((N 0).toNatClampNeg % 32))), (0, .ref (b_ad w 0)), (1, .int (nI b))]) dX10_movesTo_35 (q := 37) rfl (Nat.le_of_ble_eq_true rfl) rfl ?_
  refine v_iload_n h (i := 2) dX10_movesTo_37 (q := 38) rfl rfl 3 rfl ?_
  refine v_iconst h (v := 2) dX10_movesTo_38 (q := 39) rfl (by decide) ?_
  refine v_irem h dX10_movesTo_39 (q := 40) rfl (by decide) ?_
  rw [show ((nI ((N 0).toNatClampNeg % 32)) - (nI ((N 0).toNatClampNeg % 32)) / 2 * 2 : Int32) = nI ((N 0).toNatClampNeg % 32 % 2) from (pk_rem (d := 2) (by omega) (by decide) (by decide))]
  refine v_iconst h (v := 1) dX10_movesTo_40 (q := 41) rfl (by decide) ?_
  refine v_icmp_ne h (t := 49) dX10_movesTo_41 (by decide) (q := 44) rfl (fun c41 => ?_) (fun c41 => ?_)
  · refine v_iload_n h (i := 3) dX10_movesTo_49 (q := 50) rfl rfl 2 rfl ?_
    refine v_istore h (i := 6) (ls1 := [(6, .int (nI x0)), (5, .int (nxC (nI x0) (nI tv))), (4, .int (nI mv)), (3, .int (nI x0)), (2, .int (nI ((N 0).toNatClampNeg % 32))), (0, .ref (b_ad w 0)), (1, .int (nI b))]) dX10_movesTo_50 (q := 52) rfl (Nat.le_of_ble_eq_true rfl) rfl ?_
    have hrk : ∃ d, d < 64 ∧ nI x0 = nI d := by
      first
      | exact ⟨x0, hx, rfl⟩
      | exact nx_rng hx _
    refine v_iload_n h (i := 2) dX10_movesTo_52 (q := 53) rfl rfl 4 rfl ?_
    refine v_bipush h (v := 8) dX10_movesTo_53 (q := 55) rfl (by decide) ?_
    refine v_irem h dX10_movesTo_55 (q := 56) rfl (by decide) ?_
    rw [show ((nI ((N 0).toNatClampNeg % 32)) - (nI ((N 0).toNatClampNeg % 32)) / 8 * 8 : Int32) = nI ((N 0).toNatClampNeg % 32 % 8) from (pk_rem (d := 8) (by omega) (by decide) (by decide))]
    refine v_bipush h (v := 7) dX10_movesTo_56 (q := 58) rfl (by decide) ?_
    refine v_icmp_ne h (t := 75) dX10_movesTo_58 (by decide) (q := 61) rfl (fun c58 => ?_) (fun c58 => ?_)
    · refine v_iload h (i := 6) dX10_movesTo_75 (q := 77) rfl 0 rfl ?_
      refine v_istore h (i := 7) (ls1 := [(7, .int (nI x0)), (6, .int (nI x0)), (5, .int (nxC (nI x0) (nI tv))), (4, .int (nI mv)), (3, .int (nI x0)), (2, .int (nI ((N 0).toNatClampNeg % 32))), (0, .ref (b_ad w 0)), (1, .int (nI b))]) dX10_movesTo_77 (q := 79) rfl (Nat.le_of_ble_eq_true rfl) rfl ?_
      refine v_aload_n h (i := 0) dX10_movesTo_79 (q := 80) rfl rfl 6 rfl ?_
      refine v_iload_n h (i := 1) dX10_movesTo_80 (q := 81) rfl rfl 7 rfl ?_
      refine v_iconst h (v := 0) dX10_movesTo_81 (q := 82) rfl (by decide) ?_
      refine v_callV h (As := [.int (nI b), .int 0]) (rest := []) (c_X10_boatIs (σ := σ) (b := b) (f := 0) hm hb9 (by decide)) cal_X10_boatIs calV_X10_boatIs m961 ⟨rfl, rfl, Nat.le_of_ble_eq_true rfl, Nat.le_of_ble_eq_true rfl⟩ rfl hm.1.1 hm.1.2 ⟨_, _, rfl⟩ rfl (Nat.le_of_ble_eq_true rfl) dX10_movesTo_82 (q := 85) rfl (kI ?_)
      rw [show (σ 1 (12 + 4 * b) : Int32) = nI kv from ((hW.b (f := 0) hb9 (by decide)).trans ek)]
      by_cases e85_1 : nI kv = (1 : Int32)
      · refine v_tableIn h (off := 39) (t := 124) dX10_movesTo_85 (by rw [e85_1]; decide) (by rw [e85_1]; decide) (by rw [e85_1]; rfl) (by decide) ?_
        refine v_iload_n h (i := 3) dX10_movesTo_124 (q := 125) rfl rfl 4 rfl ?_
        exact v_iret h dX10_movesTo_125 ⟨by rw [hval, show nI kv = 1 from e85_1, mvk1], rfl⟩
      by_cases e85_2 : nI kv = (2 : Int32)
      · refine v_tableIn h (off := 41) (t := 126) dX10_movesTo_85 (by rw [e85_2]; decide) (by rw [e85_2]; decide) (by rw [e85_2]; rfl) (by decide) ?_
        refine v_iload h (i := 5) dX10_movesTo_126 (q := 128) rfl 2 rfl ?_
        exact v_iret h dX10_movesTo_128 ⟨by rw [hval, show nI kv = 2 from e85_2, mvk2], rfl⟩
      by_cases e85_3 : nI kv = (3 : Int32)
      · refine v_tableIn h (off := 44) (t := 129) dX10_movesTo_85 (by rw [e85_3]; decide) (by rw [e85_3]; decide) (by rw [e85_3]; rfl) (by decide) ?_
        refine v_iload h (i := 7) dX10_movesTo_129 (q := 131) rfl 0 rfl ?_
        exact v_iret h dX10_movesTo_131 ⟨by rw [hval, show nI kv = 3 from e85_3, mvk3]; unfold plC rkC; rw [(t_and ((N 0).toNatClampNeg % 32) ht).2, if_neg c58, (t_and ((N 0).toNatClampNeg % 32) ht).1, if_neg c41], rfl⟩
      by_cases e85_4 : nI kv = (4 : Int32)
      · refine v_tableIn h (off := 39) (t := 124) dX10_movesTo_85 (by rw [e85_4]; decide) (by rw [e85_4]; decide) (by rw [e85_4]; rfl) (by decide) ?_
        refine v_iload_n h (i := 3) dX10_movesTo_124 (q := 125) rfl rfl 4 rfl ?_
        exact v_iret h dX10_movesTo_125 ⟨by rw [hval, show nI kv = 4 from e85_4, mvk4], rfl⟩
      by_cases e85_5 : nI kv = (5 : Int32)
      · refine v_tableIn h (off := 47) (t := 132) dX10_movesTo_85 (by rw [e85_5]; decide) (by rw [e85_5]; decide) (by rw [e85_5]; rfl) (by decide) ?_
        refine v_iload_n h (i := 2) dX10_movesTo_132 (q := 133) rfl rfl 5 rfl ?_
        refine v_iload h (i := 4) dX10_movesTo_133 (q := 135) rfl 3 rfl ?_
        refine v_icmp_ge h (t := 142) dX10_movesTo_135 (by decide) (q := 138) rfl (fun c135 => ?_) (fun c135 => ?_)
        · refine v_iload h (i := 5) dX10_movesTo_142 (q := 144) rfl 2 rfl ?_
          exact v_iret h dX10_movesTo_144 ⟨by rw [hval, show nI kv = 5 from e85_5, mvk5]; rw [if_neg (Int32.not_lt.mpr c135)], rfl⟩
        · refine v_iload_n h (i := 3) dX10_movesTo_138 (q := 139) rfl rfl 4 rfl ?_
          refine v_goto h (t := 144) dX10_movesTo_139 (by decide) ?_
          exact v_iret h dX10_movesTo_144 ⟨by rw [hval, show nI kv = 5 from e85_5, mvk5]; rw [if_pos (Int32.not_le.mp c135)], rfl⟩
      by_cases e85_6 : nI kv = (6 : Int32)
      · refine v_tableIn h (off := 60) (t := 145) dX10_movesTo_85 (by rw [e85_6]; decide) (by rw [e85_6]; decide) (by rw [e85_6]; rfl) (by decide) ?_
        refine v_aload_n h (i := 0) dX10_movesTo_145 (q := 146) rfl rfl 6 rfl ?_
        refine v_iload_n h (i := 1) dX10_movesTo_146 (q := 147) rfl rfl 7 rfl ?_
        refine v_callV h (As := [.int (nI b)]) (rest := []) (c_X10_sings (σ := σ) (b := b) (bt := (N 0).toNatClampNeg) hm hb9 h0 hbt) cal_X10_sings calV_X10_sings m957 ⟨rfl, rfl, Nat.le_of_ble_eq_true rfl, Nat.le_of_ble_eq_true rfl⟩ rfl hm.1.1 hm.1.2 ⟨_, _, rfl⟩ rfl (Nat.le_of_ble_eq_true rfl) dX10_movesTo_147 (q := 150) rfl (kB (fun c147 => ?_) (fun c147 => ?_))
        · refine v_if_eq h (t := 158) dX10_movesTo_150 (by decide) (q := 153) rfl (fun c => absurd c (by decide)) (fun _ => ?_)
          refine v_iload h (i := 7) dX10_movesTo_153 (q := 155) rfl 0 rfl ?_
          refine v_goto h (t := 159) dX10_movesTo_155 (by decide) ?_
          exact v_iret h dX10_movesTo_159 ⟨by rw [hval, show nI kv = 6 from e85_6, mvk6]; rw [if_pos (hsg.mp c147)]; unfold plC rkC; rw [(t_and ((N 0).toNatClampNeg % 32) ht).2, if_neg c58, (t_and ((N 0).toNatClampNeg % 32) ht).1, if_neg c41], rfl⟩
        · refine v_if_eq h (t := 158) dX10_movesTo_150 (by decide) (q := 153) rfl (fun _ => ?_) (fun c => absurd (by decide) c)
          refine v_iload_n h (i := 3) dX10_movesTo_158 (q := 159) rfl rfl 4 rfl ?_
          exact v_iret h dX10_movesTo_159 ⟨by rw [hval, show nI kv = 6 from e85_6, mvk6]; rw [if_neg (fun z => c147 (hsg.mpr z))], rfl⟩
      have e85_1i := sw_ne e85_1 (z := 1) (by decide)
      have e85_2i := sw_ne e85_2 (z := 2) (by decide)
      have e85_3i := sw_ne e85_3 (z := 3) (by decide)
      have e85_4i := sw_ne e85_4 (z := 4) (by decide)
      have e85_5i := sw_ne e85_5 (z := 5) (by decide)
      have e85_6i := sw_ne e85_6 (z := 6) (by decide)
      refine v_tableOut h (t := 160) dX10_movesTo_85 (by omega) (by decide) ?_
      have hk0 : nI kv = 0 := by
        rcases (show kv = 0 ∨ kv = 1 ∨ kv = 2 ∨ kv = 3 ∨ kv = 4 ∨ kv = 5 ∨ kv = 6 by omega) with z | z | z | z | z | z | z <;> subst z <;> first | rfl | contradiction
      refine v_iload h (i := 6) dX10_movesTo_160 (q := 162) rfl 1 rfl ?_
      exact v_iret h dX10_movesTo_162 ⟨by rw [hval, show nI kv = 0 from hk0, mvk0]; unfold rkC; rw [(t_and ((N 0).toNatClampNeg % 32) ht).1, if_neg c41], rfl⟩
    · refine v_iload h (i := 6) dX10_movesTo_61 (q := 63) rfl 0 rfl ?_
      refine v_iload h (i := 4) dX10_movesTo_63 (q := 65) rfl 2 rfl ?_
      refine v_iconst h (v := 4) dX10_movesTo_65 (q := 66) rfl (by decide) ?_
      refine v_irem h dX10_movesTo_66 (q := 67) rfl (by decide) ?_
      rw [show ((nI mv) - (nI mv) / 4 * 4 : Int32) = nI (mv % 4) from (pk_rem (d := 4) (by omega) (by decide) (by decide))]
      refine v_iconst h (v := 1) dX10_movesTo_67 (q := 68) rfl (by decide) ?_
      refine v_iadd h dX10_movesTo_68 (q := 69) rfl ?_
      rw [show ((nI (mv % 4)) + 1 : Int32) = nI (mv % 4 + 1) from (nI_1 _)]
      refine v_callS h (As := [.int (nI x0), .int (nI (mv % 4 + 1))]) (rest := []) (c_X10_next (c := nI x0) (k := nI (mv % 4 + 1))) cal_X10_next m1189 m1188 ⟨rfl, rfl, Nat.le_of_ble_eq_true rfl, Nat.le_of_ble_eq_true rfl⟩ rfl rfl (Nat.le_of_ble_eq_true rfl) dX10_movesTo_69 (q := 72) rfl (kI ?_)
      rw [show (nxM (nI x0) (nI (mv % 4 + 1)) : Int32) = nxC (nI x0) (nI (mv % 4 + 1)) from (nxM_any hrk (by omega))]
      refine v_goto h (t := 77) dX10_movesTo_72 (by decide) ?_
      refine v_istore h (i := 7) (ls1 := [(7, .int (nxC (nI x0) (nI (mv % 4 + 1)))), (6, .int (nI x0)), (5, .int (nxC (nI x0) (nI tv))), (4, .int (nI mv)), (3, .int (nI x0)), (2, .int (nI ((N 0).toNatClampNeg % 32))), (0, .ref (b_ad w 0)), (1, .int (nI b))]) dX10_movesTo_77 (q := 79) rfl (Nat.le_of_ble_eq_true rfl) rfl ?_
      refine v_aload_n h (i := 0) dX10_movesTo_79 (q := 80) rfl rfl 6 rfl ?_
      refine v_iload_n h (i := 1) dX10_movesTo_80 (q := 81) rfl rfl 7 rfl ?_
      refine v_iconst h (v := 0) dX10_movesTo_81 (q := 82) rfl (by decide) ?_
      refine v_callV h (As := [.int (nI b), .int 0]) (rest := []) (c_X10_boatIs (σ := σ) (b := b) (f := 0) hm hb9 (by decide)) cal_X10_boatIs calV_X10_boatIs m961 ⟨rfl, rfl, Nat.le_of_ble_eq_true rfl, Nat.le_of_ble_eq_true rfl⟩ rfl hm.1.1 hm.1.2 ⟨_, _, rfl⟩ rfl (Nat.le_of_ble_eq_true rfl) dX10_movesTo_82 (q := 85) rfl (kI ?_)
      rw [show (σ 1 (12 + 4 * b) : Int32) = nI kv from ((hW.b (f := 0) hb9 (by decide)).trans ek)]
      by_cases e85_1_1 : nI kv = (1 : Int32)
      · refine v_tableIn h (off := 39) (t := 124) dX10_movesTo_85 (by rw [e85_1_1]; decide) (by rw [e85_1_1]; decide) (by rw [e85_1_1]; rfl) (by decide) ?_
        refine v_iload_n h (i := 3) dX10_movesTo_124 (q := 125) rfl rfl 4 rfl ?_
        exact v_iret h dX10_movesTo_125 ⟨by rw [hval, show nI kv = 1 from e85_1_1, mvk1], rfl⟩
      by_cases e85_2_1 : nI kv = (2 : Int32)
      · refine v_tableIn h (off := 41) (t := 126) dX10_movesTo_85 (by rw [e85_2_1]; decide) (by rw [e85_2_1]; decide) (by rw [e85_2_1]; rfl) (by decide) ?_
        refine v_iload h (i := 5) dX10_movesTo_126 (q := 128) rfl 2 rfl ?_
        exact v_iret h dX10_movesTo_128 ⟨by rw [hval, show nI kv = 2 from e85_2_1, mvk2], rfl⟩
      by_cases e85_3_1 : nI kv = (3 : Int32)
      · refine v_tableIn h (off := 44) (t := 129) dX10_movesTo_85 (by rw [e85_3_1]; decide) (by rw [e85_3_1]; decide) (by rw [e85_3_1]; rfl) (by decide) ?_
        refine v_iload h (i := 7) dX10_movesTo_129 (q := 131) rfl 0 rfl ?_
        exact v_iret h dX10_movesTo_131 ⟨by rw [hval, show nI kv = 3 from e85_3_1, mvk3]; unfold plC rkC; rw [(t_and ((N 0).toNatClampNeg % 32) ht).2, if_pos c58, (t_and ((N 0).toNatClampNeg % 32) ht).1, if_neg c41, m4_tab mv (by omega)], rfl⟩
      by_cases e85_4_1 : nI kv = (4 : Int32)
      · refine v_tableIn h (off := 39) (t := 124) dX10_movesTo_85 (by rw [e85_4_1]; decide) (by rw [e85_4_1]; decide) (by rw [e85_4_1]; rfl) (by decide) ?_
        refine v_iload_n h (i := 3) dX10_movesTo_124 (q := 125) rfl rfl 4 rfl ?_
        exact v_iret h dX10_movesTo_125 ⟨by rw [hval, show nI kv = 4 from e85_4_1, mvk4], rfl⟩
      by_cases e85_5_1 : nI kv = (5 : Int32)
      · refine v_tableIn h (off := 47) (t := 132) dX10_movesTo_85 (by rw [e85_5_1]; decide) (by rw [e85_5_1]; decide) (by rw [e85_5_1]; rfl) (by decide) ?_
        refine v_iload_n h (i := 2) dX10_movesTo_132 (q := 133) rfl rfl 5 rfl ?_
        refine v_iload h (i := 4) dX10_movesTo_133 (q := 135) rfl 3 rfl ?_
        refine v_icmp_ge h (t := 142) dX10_movesTo_135 (by decide) (q := 138) rfl (fun c135_1 => ?_) (fun c135_1 => ?_)
        · refine v_iload h (i := 5) dX10_movesTo_142 (q := 144) rfl 2 rfl ?_
          exact v_iret h dX10_movesTo_144 ⟨by rw [hval, show nI kv = 5 from e85_5_1, mvk5]; rw [if_neg (Int32.not_lt.mpr c135_1)], rfl⟩
        · refine v_iload_n h (i := 3) dX10_movesTo_138 (q := 139) rfl rfl 4 rfl ?_
          refine v_goto h (t := 144) dX10_movesTo_139 (by decide) ?_
          exact v_iret h dX10_movesTo_144 ⟨by rw [hval, show nI kv = 5 from e85_5_1, mvk5]; rw [if_pos (Int32.not_le.mp c135_1)], rfl⟩
      by_cases e85_6_1 : nI kv = (6 : Int32)
      · refine v_tableIn h (off := 60) (t := 145) dX10_movesTo_85 (by rw [e85_6_1]; decide) (by rw [e85_6_1]; decide) (by rw [e85_6_1]; rfl) (by decide) ?_
        refine v_aload_n h (i := 0) dX10_movesTo_145 (q := 146) rfl rfl 6 rfl ?_
        refine v_iload_n h (i := 1) dX10_movesTo_146 (q := 147) rfl rfl 7 rfl ?_
        refine v_callV h (As := [.int (nI b)]) (rest := []) (c_X10_sings (σ := σ) (b := b) (bt := (N 0).toNatClampNeg) hm hb9 h0 hbt) cal_X10_sings calV_X10_sings m957 ⟨rfl, rfl, Nat.le_of_ble_eq_true rfl, Nat.le_of_ble_eq_true rfl⟩ rfl hm.1.1 hm.1.2 ⟨_, _, rfl⟩ rfl (Nat.le_of_ble_eq_true rfl) dX10_movesTo_147 (q := 150) rfl (kB (fun c147_1 => ?_) (fun c147_1 => ?_))
        · refine v_if_eq h (t := 158) dX10_movesTo_150 (by decide) (q := 153) rfl (fun c => absurd c (by decide)) (fun _ => ?_)
          refine v_iload h (i := 7) dX10_movesTo_153 (q := 155) rfl 0 rfl ?_
          refine v_goto h (t := 159) dX10_movesTo_155 (by decide) ?_
          exact v_iret h dX10_movesTo_159 ⟨by rw [hval, show nI kv = 6 from e85_6_1, mvk6]; rw [if_pos (hsg.mp c147_1)]; unfold plC rkC; rw [(t_and ((N 0).toNatClampNeg % 32) ht).2, if_pos c58, (t_and ((N 0).toNatClampNeg % 32) ht).1, if_neg c41, m4_tab mv (by omega)], rfl⟩
        · refine v_if_eq h (t := 158) dX10_movesTo_150 (by decide) (q := 153) rfl (fun _ => ?_) (fun c => absurd (by decide) c)
          refine v_iload_n h (i := 3) dX10_movesTo_158 (q := 159) rfl rfl 4 rfl ?_
          exact v_iret h dX10_movesTo_159 ⟨by rw [hval, show nI kv = 6 from e85_6_1, mvk6]; rw [if_neg (fun z => c147_1 (hsg.mpr z))], rfl⟩
      have e85_1_1i := sw_ne e85_1_1 (z := 1) (by decide)
      have e85_2_1i := sw_ne e85_2_1 (z := 2) (by decide)
      have e85_3_1i := sw_ne e85_3_1 (z := 3) (by decide)
      have e85_4_1i := sw_ne e85_4_1 (z := 4) (by decide)
      have e85_5_1i := sw_ne e85_5_1 (z := 5) (by decide)
      have e85_6_1i := sw_ne e85_6_1 (z := 6) (by decide)
      refine v_tableOut h (t := 160) dX10_movesTo_85 (by omega) (by decide) ?_
      have hk0 : nI kv = 0 := by
        rcases (show kv = 0 ∨ kv = 1 ∨ kv = 2 ∨ kv = 3 ∨ kv = 4 ∨ kv = 5 ∨ kv = 6 by omega) with z | z | z | z | z | z | z <;> subst z <;> first | rfl | contradiction
      refine v_iload h (i := 6) dX10_movesTo_160 (q := 162) rfl 1 rfl ?_
      exact v_iret h dX10_movesTo_162 ⟨by rw [hval, show nI kv = 0 from hk0, mvk0]; unfold rkC; rw [(t_and ((N 0).toNatClampNeg % 32) ht).1, if_neg c41], rfl⟩
  · refine v_iload h (i := 5) dX10_movesTo_44 (q := 46) rfl 0 rfl ?_
    refine v_goto h (t := 50) dX10_movesTo_46 (by decide) ?_
    refine v_istore h (i := 6) (ls1 := [(6, .int (nxC (nI x0) (nI tv))), (5, .int (nxC (nI x0) (nI tv))), (4, .int (nI mv)), (3, .int (nI x0)), (2, .int (nI ((N 0).toNatClampNeg % 32))), (0, .ref (b_ad w 0)), (1, .int (nI b))]) dX10_movesTo_50 (q := 52) rfl (Nat.le_of_ble_eq_true rfl) rfl ?_
    have hrk : ∃ d, d < 64 ∧ nxC (nI x0) (nI tv) = nI d := by
      first
      | exact ⟨x0, hx, rfl⟩
      | exact nx_rng hx _
    refine v_iload_n h (i := 2) dX10_movesTo_52 (q := 53) rfl rfl 4 rfl ?_
    refine v_bipush h (v := 8) dX10_movesTo_53 (q := 55) rfl (by decide) ?_
    refine v_irem h dX10_movesTo_55 (q := 56) rfl (by decide) ?_
    rw [show ((nI ((N 0).toNatClampNeg % 32)) - (nI ((N 0).toNatClampNeg % 32)) / 8 * 8 : Int32) = nI ((N 0).toNatClampNeg % 32 % 8) from (pk_rem (d := 8) (by omega) (by decide) (by decide))]
    refine v_bipush h (v := 7) dX10_movesTo_56 (q := 58) rfl (by decide) ?_
    refine v_icmp_ne h (t := 75) dX10_movesTo_58 (by decide) (q := 61) rfl (fun c58_1 => ?_) (fun c58_1 => ?_)
    · refine v_iload h (i := 6) dX10_movesTo_75 (q := 77) rfl 0 rfl ?_
      refine v_istore h (i := 7) (ls1 := [(7, .int (nxC (nI x0) (nI tv))), (6, .int (nxC (nI x0) (nI tv))), (5, .int (nxC (nI x0) (nI tv))), (4, .int (nI mv)), (3, .int (nI x0)), (2, .int (nI ((N 0).toNatClampNeg % 32))), (0, .ref (b_ad w 0)), (1, .int (nI b))]) dX10_movesTo_77 (q := 79) rfl (Nat.le_of_ble_eq_true rfl) rfl ?_
      refine v_aload_n h (i := 0) dX10_movesTo_79 (q := 80) rfl rfl 6 rfl ?_
      refine v_iload_n h (i := 1) dX10_movesTo_80 (q := 81) rfl rfl 7 rfl ?_
      refine v_iconst h (v := 0) dX10_movesTo_81 (q := 82) rfl (by decide) ?_
      refine v_callV h (As := [.int (nI b), .int 0]) (rest := []) (c_X10_boatIs (σ := σ) (b := b) (f := 0) hm hb9 (by decide)) cal_X10_boatIs calV_X10_boatIs m961 ⟨rfl, rfl, Nat.le_of_ble_eq_true rfl, Nat.le_of_ble_eq_true rfl⟩ rfl hm.1.1 hm.1.2 ⟨_, _, rfl⟩ rfl (Nat.le_of_ble_eq_true rfl) dX10_movesTo_82 (q := 85) rfl (kI ?_)
      rw [show (σ 1 (12 + 4 * b) : Int32) = nI kv from ((hW.b (f := 0) hb9 (by decide)).trans ek)]
      by_cases e85_1_2 : nI kv = (1 : Int32)
      · refine v_tableIn h (off := 39) (t := 124) dX10_movesTo_85 (by rw [e85_1_2]; decide) (by rw [e85_1_2]; decide) (by rw [e85_1_2]; rfl) (by decide) ?_
        refine v_iload_n h (i := 3) dX10_movesTo_124 (q := 125) rfl rfl 4 rfl ?_
        exact v_iret h dX10_movesTo_125 ⟨by rw [hval, show nI kv = 1 from e85_1_2, mvk1], rfl⟩
      by_cases e85_2_2 : nI kv = (2 : Int32)
      · refine v_tableIn h (off := 41) (t := 126) dX10_movesTo_85 (by rw [e85_2_2]; decide) (by rw [e85_2_2]; decide) (by rw [e85_2_2]; rfl) (by decide) ?_
        refine v_iload h (i := 5) dX10_movesTo_126 (q := 128) rfl 2 rfl ?_
        exact v_iret h dX10_movesTo_128 ⟨by rw [hval, show nI kv = 2 from e85_2_2, mvk2], rfl⟩
      by_cases e85_3_2 : nI kv = (3 : Int32)
      · refine v_tableIn h (off := 44) (t := 129) dX10_movesTo_85 (by rw [e85_3_2]; decide) (by rw [e85_3_2]; decide) (by rw [e85_3_2]; rfl) (by decide) ?_
        refine v_iload h (i := 7) dX10_movesTo_129 (q := 131) rfl 0 rfl ?_
        exact v_iret h dX10_movesTo_131 ⟨by rw [hval, show nI kv = 3 from e85_3_2, mvk3]; unfold plC rkC; rw [(t_and ((N 0).toNatClampNeg % 32) ht).2, if_neg c58_1, (t_and ((N 0).toNatClampNeg % 32) ht).1, if_pos c41], rfl⟩
      by_cases e85_4_2 : nI kv = (4 : Int32)
      · refine v_tableIn h (off := 39) (t := 124) dX10_movesTo_85 (by rw [e85_4_2]; decide) (by rw [e85_4_2]; decide) (by rw [e85_4_2]; rfl) (by decide) ?_
        refine v_iload_n h (i := 3) dX10_movesTo_124 (q := 125) rfl rfl 4 rfl ?_
        exact v_iret h dX10_movesTo_125 ⟨by rw [hval, show nI kv = 4 from e85_4_2, mvk4], rfl⟩
      by_cases e85_5_2 : nI kv = (5 : Int32)
      · refine v_tableIn h (off := 47) (t := 132) dX10_movesTo_85 (by rw [e85_5_2]; decide) (by rw [e85_5_2]; decide) (by rw [e85_5_2]; rfl) (by decide) ?_
        refine v_iload_n h (i := 2) dX10_movesTo_132 (q := 133) rfl rfl 5 rfl ?_
        refine v_iload h (i := 4) dX10_movesTo_133 (q := 135) rfl 3 rfl ?_
        refine v_icmp_ge h (t := 142) dX10_movesTo_135 (by decide) (q := 138) rfl (fun c135_2 => ?_) (fun c135_2 => ?_)
        · refine v_iload h (i := 5) dX10_movesTo_142 (q := 144) rfl 2 rfl ?_
          exact v_iret h dX10_movesTo_144 ⟨by rw [hval, show nI kv = 5 from e85_5_2, mvk5]; rw [if_neg (Int32.not_lt.mpr c135_2)], rfl⟩
        · refine v_iload_n h (i := 3) dX10_movesTo_138 (q := 139) rfl rfl 4 rfl ?_
          refine v_goto h (t := 144) dX10_movesTo_139 (by decide) ?_
          exact v_iret h dX10_movesTo_144 ⟨by rw [hval, show nI kv = 5 from e85_5_2, mvk5]; rw [if_pos (Int32.not_le.mp c135_2)], rfl⟩
      by_cases e85_6_2 : nI kv = (6 : Int32)
      · refine v_tableIn h (off := 60) (t := 145) dX10_movesTo_85 (by rw [e85_6_2]; decide) (by rw [e85_6_2]; decide) (by rw [e85_6_2]; rfl) (by decide) ?_
        refine v_aload_n h (i := 0) dX10_movesTo_145 (q := 146) rfl rfl 6 rfl ?_
        refine v_iload_n h (i := 1) dX10_movesTo_146 (q := 147) rfl rfl 7 rfl ?_
        refine v_callV h (As := [.int (nI b)]) (rest := []) (c_X10_sings (σ := σ) (b := b) (bt := (N 0).toNatClampNeg) hm hb9 h0 hbt) cal_X10_sings calV_X10_sings m957 ⟨rfl, rfl, Nat.le_of_ble_eq_true rfl, Nat.le_of_ble_eq_true rfl⟩ rfl hm.1.1 hm.1.2 ⟨_, _, rfl⟩ rfl (Nat.le_of_ble_eq_true rfl) dX10_movesTo_147 (q := 150) rfl (kB (fun c147_2 => ?_) (fun c147_2 => ?_))
        · refine v_if_eq h (t := 158) dX10_movesTo_150 (by decide) (q := 153) rfl (fun c => absurd c (by decide)) (fun _ => ?_)
          refine v_iload h (i := 7) dX10_movesTo_153 (q := 155) rfl 0 rfl ?_
          refine v_goto h (t := 159) dX10_movesTo_155 (by decide) ?_
          exact v_iret h dX10_movesTo_159 ⟨by rw [hval, show nI kv = 6 from e85_6_2, mvk6]; rw [if_pos (hsg.mp c147_2)]; unfold plC rkC; rw [(t_and ((N 0).toNatClampNeg % 32) ht).2, if_neg c58_1, (t_and ((N 0).toNatClampNeg % 32) ht).1, if_pos c41], rfl⟩
        · refine v_if_eq h (t := 158) dX10_movesTo_150 (by decide) (q := 153) rfl (fun _ => ?_) (fun c => absurd (by decide) c)
          refine v_iload_n h (i := 3) dX10_movesTo_158 (q := 159) rfl rfl 4 rfl ?_
          exact v_iret h dX10_movesTo_159 ⟨by rw [hval, show nI kv = 6 from e85_6_2, mvk6]; rw [if_neg (fun z => c147_2 (hsg.mpr z))], rfl⟩
      have e85_1_2i := sw_ne e85_1_2 (z := 1) (by decide)
      have e85_2_2i := sw_ne e85_2_2 (z := 2) (by decide)
      have e85_3_2i := sw_ne e85_3_2 (z := 3) (by decide)
      have e85_4_2i := sw_ne e85_4_2 (z := 4) (by decide)
      have e85_5_2i := sw_ne e85_5_2 (z := 5) (by decide)
      have e85_6_2i := sw_ne e85_6_2 (z := 6) (by decide)
      refine v_tableOut h (t := 160) dX10_movesTo_85 (by omega) (by decide) ?_
      have hk0 : nI kv = 0 := by
        rcases (show kv = 0 ∨ kv = 1 ∨ kv = 2 ∨ kv = 3 ∨ kv = 4 ∨ kv = 5 ∨ kv = 6 by omega) with z | z | z | z | z | z | z <;> subst z <;> first | rfl | contradiction
      refine v_iload h (i := 6) dX10_movesTo_160 (q := 162) rfl 1 rfl ?_
      exact v_iret h dX10_movesTo_162 ⟨by rw [hval, show nI kv = 0 from hk0, mvk0]; unfold rkC; rw [(t_and ((N 0).toNatClampNeg % 32) ht).1, if_pos c41], rfl⟩
    · refine v_iload h (i := 6) dX10_movesTo_61 (q := 63) rfl 0 rfl ?_
      refine v_iload h (i := 4) dX10_movesTo_63 (q := 65) rfl 2 rfl ?_
      refine v_iconst h (v := 4) dX10_movesTo_65 (q := 66) rfl (by decide) ?_
      refine v_irem h dX10_movesTo_66 (q := 67) rfl (by decide) ?_
      rw [show ((nI mv) - (nI mv) / 4 * 4 : Int32) = nI (mv % 4) from (pk_rem (d := 4) (by omega) (by decide) (by decide))]
      refine v_iconst h (v := 1) dX10_movesTo_67 (q := 68) rfl (by decide) ?_
      refine v_iadd h dX10_movesTo_68 (q := 69) rfl ?_
      rw [show ((nI (mv % 4)) + 1 : Int32) = nI (mv % 4 + 1) from (nI_1 _)]
      refine v_callS h (As := [.int (nxC (nI x0) (nI tv)), .int (nI (mv % 4 + 1))]) (rest := []) (c_X10_next (c := nxC (nI x0) (nI tv)) (k := nI (mv % 4 + 1))) cal_X10_next m1189 m1188 ⟨rfl, rfl, Nat.le_of_ble_eq_true rfl, Nat.le_of_ble_eq_true rfl⟩ rfl rfl (Nat.le_of_ble_eq_true rfl) dX10_movesTo_69 (q := 72) rfl (kI ?_)
      rw [show (nxM (nxC (nI x0) (nI tv)) (nI (mv % 4 + 1)) : Int32) = nxC (nxC (nI x0) (nI tv)) (nI (mv % 4 + 1)) from (nxM_any hrk (by omega))]
      refine v_goto h (t := 77) dX10_movesTo_72 (by decide) ?_
      refine v_istore h (i := 7) (ls1 := [(7, .int (nxC (nxC (nI x0) (nI tv)) (nI (mv % 4 + 1)))), (6, .int (nxC (nI x0) (nI tv))), (5, .int (nxC (nI x0) (nI tv))), (4, .int (nI mv)), (3, .int (nI x0)), (2, .int (nI ((N 0).toNatClampNeg % 32))), (0, .ref (b_ad w 0)), (1, .int (nI b))]) dX10_movesTo_77 (q := 79) rfl (Nat.le_of_ble_eq_true rfl) rfl ?_
      refine v_aload_n h (i := 0) dX10_movesTo_79 (q := 80) rfl rfl 6 rfl ?_
      refine v_iload_n h (i := 1) dX10_movesTo_80 (q := 81) rfl rfl 7 rfl ?_
      refine v_iconst h (v := 0) dX10_movesTo_81 (q := 82) rfl (by decide) ?_
      refine v_callV h (As := [.int (nI b), .int 0]) (rest := []) (c_X10_boatIs (σ := σ) (b := b) (f := 0) hm hb9 (by decide)) cal_X10_boatIs calV_X10_boatIs m961 ⟨rfl, rfl, Nat.le_of_ble_eq_true rfl, Nat.le_of_ble_eq_true rfl⟩ rfl hm.1.1 hm.1.2 ⟨_, _, rfl⟩ rfl (Nat.le_of_ble_eq_true rfl) dX10_movesTo_82 (q := 85) rfl (kI ?_)
      rw [show (σ 1 (12 + 4 * b) : Int32) = nI kv from ((hW.b (f := 0) hb9 (by decide)).trans ek)]
      by_cases e85_1_3 : nI kv = (1 : Int32)
      · refine v_tableIn h (off := 39) (t := 124) dX10_movesTo_85 (by rw [e85_1_3]; decide) (by rw [e85_1_3]; decide) (by rw [e85_1_3]; rfl) (by decide) ?_
        refine v_iload_n h (i := 3) dX10_movesTo_124 (q := 125) rfl rfl 4 rfl ?_
        exact v_iret h dX10_movesTo_125 ⟨by rw [hval, show nI kv = 1 from e85_1_3, mvk1], rfl⟩
      by_cases e85_2_3 : nI kv = (2 : Int32)
      · refine v_tableIn h (off := 41) (t := 126) dX10_movesTo_85 (by rw [e85_2_3]; decide) (by rw [e85_2_3]; decide) (by rw [e85_2_3]; rfl) (by decide) ?_
        refine v_iload h (i := 5) dX10_movesTo_126 (q := 128) rfl 2 rfl ?_
        exact v_iret h dX10_movesTo_128 ⟨by rw [hval, show nI kv = 2 from e85_2_3, mvk2], rfl⟩
      by_cases e85_3_3 : nI kv = (3 : Int32)
      · refine v_tableIn h (off := 44) (t := 129) dX10_movesTo_85 (by rw [e85_3_3]; decide) (by rw [e85_3_3]; decide) (by rw [e85_3_3]; rfl) (by decide) ?_
        refine v_iload h (i := 7) dX10_movesTo_129 (q := 131) rfl 0 rfl ?_
        exact v_iret h dX10_movesTo_131 ⟨by rw [hval, show nI kv = 3 from e85_3_3, mvk3]; unfold plC rkC; rw [(t_and ((N 0).toNatClampNeg % 32) ht).2, if_pos c58_1, (t_and ((N 0).toNatClampNeg % 32) ht).1, if_pos c41, m4_tab mv (by omega)], rfl⟩
      by_cases e85_4_3 : nI kv = (4 : Int32)
      · refine v_tableIn h (off := 39) (t := 124) dX10_movesTo_85 (by rw [e85_4_3]; decide) (by rw [e85_4_3]; decide) (by rw [e85_4_3]; rfl) (by decide) ?_
        refine v_iload_n h (i := 3) dX10_movesTo_124 (q := 125) rfl rfl 4 rfl ?_
        exact v_iret h dX10_movesTo_125 ⟨by rw [hval, show nI kv = 4 from e85_4_3, mvk4], rfl⟩
      by_cases e85_5_3 : nI kv = (5 : Int32)
      · refine v_tableIn h (off := 47) (t := 132) dX10_movesTo_85 (by rw [e85_5_3]; decide) (by rw [e85_5_3]; decide) (by rw [e85_5_3]; rfl) (by decide) ?_
        refine v_iload_n h (i := 2) dX10_movesTo_132 (q := 133) rfl rfl 5 rfl ?_
        refine v_iload h (i := 4) dX10_movesTo_133 (q := 135) rfl 3 rfl ?_
        refine v_icmp_ge h (t := 142) dX10_movesTo_135 (by decide) (q := 138) rfl (fun c135_3 => ?_) (fun c135_3 => ?_)
        · refine v_iload h (i := 5) dX10_movesTo_142 (q := 144) rfl 2 rfl ?_
          exact v_iret h dX10_movesTo_144 ⟨by rw [hval, show nI kv = 5 from e85_5_3, mvk5]; rw [if_neg (Int32.not_lt.mpr c135_3)], rfl⟩
        · refine v_iload_n h (i := 3) dX10_movesTo_138 (q := 139) rfl rfl 4 rfl ?_
          refine v_goto h (t := 144) dX10_movesTo_139 (by decide) ?_
          exact v_iret h dX10_movesTo_144 ⟨by rw [hval, show nI kv = 5 from e85_5_3, mvk5]; rw [if_pos (Int32.not_le.mp c135_3)], rfl⟩
      by_cases e85_6_3 : nI kv = (6 : Int32)
      · refine v_tableIn h (off := 60) (t := 145) dX10_movesTo_85 (by rw [e85_6_3]; decide) (by rw [e85_6_3]; decide) (by rw [e85_6_3]; rfl) (by decide) ?_
        refine v_aload_n h (i := 0) dX10_movesTo_145 (q := 146) rfl rfl 6 rfl ?_
        refine v_iload_n h (i := 1) dX10_movesTo_146 (q := 147) rfl rfl 7 rfl ?_
        refine v_callV h (As := [.int (nI b)]) (rest := []) (c_X10_sings (σ := σ) (b := b) (bt := (N 0).toNatClampNeg) hm hb9 h0 hbt) cal_X10_sings calV_X10_sings m957 ⟨rfl, rfl, Nat.le_of_ble_eq_true rfl, Nat.le_of_ble_eq_true rfl⟩ rfl hm.1.1 hm.1.2 ⟨_, _, rfl⟩ rfl (Nat.le_of_ble_eq_true rfl) dX10_movesTo_147 (q := 150) rfl (kB (fun c147_3 => ?_) (fun c147_3 => ?_))
        · refine v_if_eq h (t := 158) dX10_movesTo_150 (by decide) (q := 153) rfl (fun c => absurd c (by decide)) (fun _ => ?_)
          refine v_iload h (i := 7) dX10_movesTo_153 (q := 155) rfl 0 rfl ?_
          refine v_goto h (t := 159) dX10_movesTo_155 (by decide) ?_
          exact v_iret h dX10_movesTo_159 ⟨by rw [hval, show nI kv = 6 from e85_6_3, mvk6]; rw [if_pos (hsg.mp c147_3)]; unfold plC rkC; rw [(t_and ((N 0).toNatClampNeg % 32) ht).2, if_pos c58_1, (t_and ((N 0).toNatClampNeg % 32) ht).1, if_pos c41, m4_tab mv (by omega)], rfl⟩
        · refine v_if_eq h (t := 158) dX10_movesTo_150 (by decide) (q := 153) rfl (fun _ => ?_) (fun c => absurd (by decide) c)
          refine v_iload_n h (i := 3) dX10_movesTo_158 (q := 159) rfl rfl 4 rfl ?_
          exact v_iret h dX10_movesTo_159 ⟨by rw [hval, show nI kv = 6 from e85_6_3, mvk6]; rw [if_neg (fun z => c147_3 (hsg.mpr z))], rfl⟩
      have e85_1_3i := sw_ne e85_1_3 (z := 1) (by decide)
      have e85_2_3i := sw_ne e85_2_3 (z := 2) (by decide)
      have e85_3_3i := sw_ne e85_3_3 (z := 3) (by decide)
      have e85_4_3i := sw_ne e85_4_3 (z := 4) (by decide)
      have e85_5_3i := sw_ne e85_5_3 (z := 5) (by decide)
      have e85_6_3i := sw_ne e85_6_3 (z := 6) (by decide)
      refine v_tableOut h (t := 160) dX10_movesTo_85 (by omega) (by decide) ?_
      have hk0 : nI kv = 0 := by
        rcases (show kv = 0 ∨ kv = 1 ∨ kv = 2 ∨ kv = 3 ∨ kv = 4 ∨ kv = 5 ∨ kv = 6 by omega) with z | z | z | z | z | z | z <;> subst z <;> first | rfl | contradiction
      refine v_iload h (i := 6) dX10_movesTo_160 (q := 162) rfl 1 rfl ?_
      exact v_iret h dX10_movesTo_162 ⟨by rw [hval, show nI kv = 0 from hk0, mvk0]; unfold rkC; rw [(t_and ((N 0).toNatClampNeg % 32) ht).1, if_pos c41], rfl⟩
