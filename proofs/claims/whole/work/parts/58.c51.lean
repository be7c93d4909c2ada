theorem PM_all {w : bw} {σ : bSt} {n use : Nat} (hm : sModel w) (hN : σ 1 9 = nI n) (hn5 : n ≤ 50) (hu : σ 0 9 = nI use) (hu2 : use < 2) : ∀ f, PM w σ n use yX10_one cX10_one 4 0 f ∧ PM w σ n use yX10_product cX10_product 2 1 f ∧ PM w σ n use yX10_sum cX10_sum 2 2 f ∧ PM w σ n use yX10_compared cX10_compared 2 3 f ∧ PM w σ n use yX10_both cX10_both 1 4 f ∧ PM w σ n use yX10_either cX10_either 1 5 f
  | 0 => ⟨fun _ _ _ h => absurd h (by omega), fun _ _ _ h => absurd h (by omega), fun _ _ _ h => absurd h (by omega), fun _ _ _ h => absurd h (by omega), fun _ _ _ h => absurd h (by omega), fun _ _ _ h => absurd h (by omega)⟩
  | f + 1 => by
    obtain ⟨hQ, hP, hS, hB, hA, hT⟩ := PM_all hm hN hn5 hu hu2 f
    exact ⟨fun o S ho h hp hl => c_X10_one hm hN hn5 hu hu2 hQ hT ho h hp hl, fun o S ho h hp hl => c_X10_product hm hN hn5 hu hu2 hQ ho h hp hl, fun o S ho h hp hl => c_X10_sum hm hN hn5 hu hu2 hP ho h hp hl, fun o S ho h hp hl => c_X10_compared hm hN hn5 hu hu2 hS ho h hp hl, fun o S ho h hp hl => c_X10_both hm hN hn5 hu hu2 hB ho h hp hl, fun o S ho h hp hl => c_X10_either hm hN hn5 hu hu2 hA ho h hp hl⟩
/-- the model before it reads a text for a use -/
def tsM (σ : bSt) (u : Nat) (b : Bool) (S : bR) : bSt := PS (b_up σ 0 9 (nI u)) b S 0
theorem text_st {σ : bSt} {u : Nat} : b_up (b_up (b_up (b_up (b_up σ 0 9 (nI u)) 0 7 0) 0 8 0) 0 10 0) 0 12 0 = tsM σ u false (0, 0, fun _ => 0) := by
  unfold tsM
  refine PS_ext ?_ ?_ ?_ ?_ (fun k e7 e8 e10 e12 => ?_) (fun k => ?_) (fun j h h7 => ?_)
  · rw [b_up_s, upd_n (by decide), b_up_s, upd_n (by decide), b_up_s, upd_n (by decide), b_up_s, upd_s]; rfl
  · rw [b_up_s, upd_n (by decide), b_up_s, upd_n (by decide), b_up_s, upd_s]; rfl
  · rw [b_up_s, upd_n (by decide), b_up_s, upd_s]; rfl
  · rw [b_up_s, upd_s]; rfl
  · rw [b_up_s, upd_n e12, b_up_s, upd_n e10, b_up_s, upd_n e8, b_up_s, upd_n e7]
  · rw [if_neg (Nat.not_lt_zero k), b_up_n (by decide), b_up_n (by decide), b_up_n (by decide), b_up_n (by decide)]
  · rw [b_up_n h, b_up_n h, b_up_n h, b_up_n h]
theorem c_reads {w : bw} {σ : bSt} {A : bA} {u : Nat} (hm : sModel w) (hR : RQ σ A) (hu : u < 2) : MV yX10_either cX10_either 1 none (rmm 112 3700) w [.ref (b_ad w 0)] (tsM σ u false (0, 0, fun _ => 0)) (pU (tsM σ u (!(txR A u).1) (txR A u).2)) := by
  have e : txR A u = prR (BFm (b_up σ 0 9 (nI u)) A.1.2.2.1.1) u 36 5 0 (0, 0, fun _ => 0) := by
    unfold txR BFm
    rw [byR_cg (f := A.1.2.2.1.2) (g := fun k => b_up σ 0 9 (nI u) 1 (66 + k)) (fun k hk => by
      rw [b_up_n (by decide)]
      exact (hR.fed.2.2 k (by have := hR.fed.2.1; omega)).symm)]
  rw [e]
  exact (PM_all (n := A.1.2.2.1.1) hm (by rw [b_up_n (by decide)]; exact hR.fed.1) hR.fed.2.1 (by rw [b_up_s, upd_s]) hu 36).2.2.2.2.2 0 (0, 0, fun _ => 0) (by decide) (by decide) (Nat.zero_le _) (Nat.le_refl _)
section TS
variable {σ : bSt} {u : Nat} {b : Bool} {S : bR}
theorem ts_7 : tsM σ u b S 0 7 = nI S.1 := PS_7
theorem ts_10 : tsM σ u b S 0 10 = bI b := PS_10
theorem ts_12 : tsM σ u b S 0 12 = nI S.2.1 := PS_12
theorem ts_9 : tsM σ u b S 0 9 = nI u := by unfold tsM; rw [PS_f (by decide), b_up_s, upd_s]
theorem ts_f {k : Nat} (h : k ≠ 7 ∧ k ≠ 8 ∧ k ≠ 10 ∧ k ≠ 12 ∧ k ≠ 9) : tsM σ u b S 0 k = σ 0 k := by unfold tsM; rw [PS_f ⟨h.1, h.2.1, h.2.2.1, h.2.2.2.1⟩, b_up_s, upd_n h.2.2.2.2]
theorem ts_o {j : Nat} (h : j ≠ 0) (h7 : j ≠ 7) : tsM σ u b S j = σ j := by unfold tsM; rw [PS_o h h7, b_up_n h]
theorem ts_c {k : Nat} (h : k < S.2.1) : tsM σ u b S 7 k = cdM (S.2.2 k) := by unfold tsM; rw [PS_c]; exact if_pos h
theorem ts_wr {c : Bool} : b_up (tsM σ u b S) 0 10 (bI c) = tsM σ u c S := PS_wr
end TS
theorem tx_le {A : bA} {u : Nat} (hu : u < 2) : (txR A u).2.1 ≤ A.1.2.2.1.1 := (prR_pg (tp := A.1.2.2.1.2) (n := A.1.2.2.1.1) hu 36 5 0 (0, 0, fun _ => 0) (Nat.zero_le _)).2.1
theorem RQ.tape0 {σ τ : bSt} {A : bA} (h : RQ σ A) (h0 : τ 0 3 = σ 0 3 ∧ τ 0 17 = σ 0 17) (h1 : τ 1 = upd (σ 1) 9 0) (ho : ∀ j, j ≠ 0 → j ≠ 1 → j ≠ 7 → τ j = σ j) : RQ τ (setTp A (0, A.1.2.2.1.2)) := by
  have g := h.1
  obtain ⟨g1, g2, g3, g4, g5, g6, g7, g8, g9⟩ := g
  refine h.set1 (D := (A.1.1, A.1.2.1, (0, A.1.2.2.1.2), A.1.2.2.2)) h0 (fun j hj => ho j (by omega) (by omega) (by omega)) ?_ (h.2.1.sc (ho 5 (by decide) (by decide) (by decide)))
  rw [h1]
  exact ⟨fun j a b c => by rw [upd_n b]; exact g1 j a b c, g2, MT_up g3 (by decide), upd_s, Nat.zero_le _, fun k hk => by rw [upd_n (by omega)]; exact g6 k hk, by rw [upd_n (by decide)]; exact g7, g8, fun k hk => by rw [upd_n (by omega)]; exact g9 k hk⟩
theorem RQ.textM {σ τ : bSt} {A : bA} {u : Nat} {p : Nat × (Nat → Int32)} (h : RQ σ A) (hu : u < 2) (hp : okT p) (h0 : τ 0 3 = σ 0 3 ∧ τ 0 17 = σ 0 17) (ho : ∀ j, j ≠ 0 → j ≠ 1 → j ≠ 5 → j ≠ 7 → τ j = σ j) (h9 : τ 1 9 = 0) (hl : τ 1 (136 + 52 * u) = nI p.1) (hk : ∀ k, k < p.1 → τ 1 (137 + 52 * u + k) = cdM (p.2 k)) (hs : ∀ i, i ≠ 9 → (i < 136 + 52 * u ∨ 137 + 52 * u + p.1 ≤ i) → τ 1 i = σ 1 i) (hc : ∀ k, k < 2560 → τ 5 k = 0) : RQ τ (setT (setTp A (0, A.1.2.2.1.2)) u p) := by
  have g := h.1
  obtain ⟨g1, g2, g3, g4, g5, g6, g7, g8, g9⟩ := g
  have hp50 : p.1 ≤ 50 := hp.1.1
  refine h.set1 (D := (setT (setTp A (0, A.1.2.2.1.2)) u p).1) h0 (fun j hj => ho j (by omega) (by omega) (by omega) (by omega)) ?_ (CM_0 hc)
  refine ⟨fun j a b c => (hs j b (Or.inl (by omega))).trans (g1 j a b c), g2, fun v hv => ?_, h9, Nat.zero_le _, fun k hk2 => (hs _ (by omega) (Or.inl (by omega))).trans (g6 k hk2), (hs 10 (by decide) (Or.inl (by omega))).trans g7, g8, fun k hk2 => (hs _ (by omega) (Or.inl (by omega))).trans (g9 k hk2)⟩
  show τ 1 (136 + 52 * v) = nI (if v = u then p else A.1.2.1 v).1 ∧ okT (if v = u then p else A.1.2.1 v) ∧ ∀ k, k < (if v = u then p else A.1.2.1 v).1 → τ 1 (137 + 52 * v + k) = cdM ((if v = u then p else A.1.2.1 v).2 k)
  by_cases e : v = u
  · subst e
    rw [if_pos rfl]
    exact ⟨hl, hp, hk⟩
  · rw [if_neg e]
    obtain ⟨a, b, c⟩ := g3 v hv
    have hv50 : (A.1.2.1 v).1 ≤ 50 := b.1.1
    exact ⟨(hs _ (by omega) (by omega)).trans a, b, fun k hk2 => (hs _ (by omega) (by omega)).trans (c k hk2)⟩

set_option maxHeartbeats 4000000 in
set_option maxRecDepth 100000 in
theorem lX10_text_120 {w : bw} {σ : bSt} {A : bA} {use : Int32} (hm : sModel w) (hR : RQ σ A) {x : bX} (h : Cx x w cX10_text RX10 3 (some .int) (rmm 113 3720)) : ∀ u : Nat, u < 2 → wi use 0 1 → use = nI u → (txR A u).1 = true → (txR A u).2.1 = A.1.2.2.1.1 → ∀ p : Nat × (Nat → Int32), (txR A u).2.2 = p → okT p → p.1 ≤ 50 → ∀ m i : Nat, i + m = p.1 → ∀ τ : bSt, (∀ j, j ≠ 1 → τ j = tsM σ u false (txR A u).2 j) → τ 1 9 = 0 → τ 1 (136 + 52 * u) = nI p.1 → (∀ k, k < i → τ 1 (137 + 52 * u + k) = cdM (p.2 k)) → (∀ k, k ≠ 9 → (k < 136 + 52 * u ∨ 137 + 52 * u + p.1 ≤ k) → τ 1 k = σ 1 k) → V x w 3 (pM (oText use A)) 120 [(2, .int (nI i)), (0, .ref (b_ad w 0)), (1, .int (nI u))] [] τ := by
  intro u hu2 c3 eu hr1 hpe p hpp hok hok5
  refine b_ind (fun m ih => ?_)
  intro i him τ ho h9 hln hk hs
  refine v_iload_n h (i := 2) dX10_text_120 (q := 121) rfl rfl 0 rfl ?_
  refine v_aload_n h (i := 0) dX10_text_121 (q := 122) rfl rfl 1 rfl ?_
  refine v_get h (k := 12) (v := .int (τ 0 12)) cls10 hm.1.1 hm.1.2 (Nat.le_of_ble_eq_true rfl) m861 rfl dX10_text_122 (q := 125) rfl ?_
  rw [show (τ 0 12 : Int32) = nI p.1 from (by rw [ho 0 (by decide)]; exact ts_12.trans (congrArg nI (congrArg Prod.fst hpp)))]
  refine v_icmp_ge h (t := 160) dX10_text_125 (by decide) (q := 128) rfl (fun c125 => ?_) (fun c125 => ?_)
  · have hil : p.1 ≤ i := nge (nI_toInt (by omega)) (by omega) c125
    refine v_aload_n h (i := 0) dX10_text_160 (q := 161) rfl rfl 1 rfl ?_
    refine v_callV h (As := []) (rest := []) ((c_X10_forgetLags (σ := τ) hm)) cal_X10_forgetLags calV_X10_forgetLags m1149 ⟨rfl, rfl, Nat.le_of_ble_eq_true rfl, Nat.le_of_ble_eq_true rfl⟩ rfl hm.1.1 hm.1.2 ⟨_, _, rfl⟩ rfl (Nat.le_of_ble_eq_true rfl) dX10_text_161 (q := 164) rfl (kV (fun σ161 h161 => ?_))
    refine v_iconst h (v := 1) dX10_text_164 (q := 165) rfl (by decide) ?_
    exact v_iret h dX10_text_165 (pM_of (by subst eu; unfold oText; rw [if_pos (show wj (nI u) 0 1 from c3), cl_nI (n := u) (by omega), if_pos ⟨hr1, hpe⟩, hpp]) (hR.textM hu2 hok (by rw [h161.1 0 (by decide), ho 0 (by decide), ts_f (by decide), ts_f (by decide)]; exact ⟨rfl, rfl⟩) (fun j j0 j1 j5 j7 => by rw [h161.1 j j5, ho j j1, ts_o j0 j7]) (by rw [h161.1 1 (by decide)]; exact h9) (by rw [h161.1 1 (by decide)]; exact hln) (fun k hk2 => by rw [h161.1 1 (by decide)]; exact hk k (by omega)) (fun k k9 kr => by rw [h161.1 1 (by decide)]; exact hs k k9 kr) h161.2))
  · have hil : i < p.1 := nlt (nI_toInt (by omega)) (by omega) c125
    refine v_aload_n h (i := 0) dX10_text_128 (q := 129) rfl rfl 1 rfl ?_
    refine v_get h (k := 0) (v := .ref (b_ad w 1)) cls10 hm.1.1 hm.1.2 (Nat.le_of_ble_eq_true rfl) m849 rfl dX10_text_129 (q := 132) rfl ?_
    refine v_sipush h (v := 136) dX10_text_132 (q := 135) rfl (by decide) ?_
    refine v_bipush h (v := 52) dX10_text_135 (q := 137) rfl (by decide) ?_
    refine v_aload_n h (i := 0) dX10_text_137 (q := 138) rfl rfl 1 rfl ?_
    refine v_get h (k := 9) (v := .int (τ 0 9)) cls10 hm.1.1 hm.1.2 (Nat.le_of_ble_eq_true rfl) m858 rfl dX10_text_138 (q := 141) rfl ?_
    rw [show (τ 0 9 : Int32) = nI u from (by rw [ho 0 (by decide)]; exact ts_9)]
    refine v_imul h dX10_text_141 (q := 142) rfl ?_
    rw [show (52 * (nI u) : Int32) = nI (52 * u) from (nI_mulN 52 u)]
    refine v_iadd h dX10_text_142 (q := 143) rfl ?_
    rw [show (136 + (nI (52 * u)) : Int32) = nI (136 + 52 * u) from (nI_add 136 _)]
    refine v_iconst h (v := 1) dX10_text_143 (q := 144) rfl (by decide) ?_
    refine v_iadd h dX10_text_144 (q := 145) rfl ?_
    rw [show ((nI (136 + 52 * u)) + 1 : Int32) = nI (137 + 52 * u) from (by rw [nI_1]; congr 1; omega)]
    refine v_iload_n h (i := 2) dX10_text_145 (q := 146) rfl rfl 0 rfl ?_
    refine v_iadd h dX10_text_146 (q := 147) rfl ?_
    rw [show ((nI (137 + 52 * u)) + (nI i) : Int32) = nI (137 + 52 * u + i) from (nI_add _ i)]
    refine v_aload_n h (i := 0) dX10_text_147 (q := 148) rfl rfl 1 rfl ?_
    refine v_get h (k := 11) (v := .ref (b_ad w 7)) cls10 hm.1.1 hm.1.2 (Nat.le_of_ble_eq_true rfl) m860 rfl dX10_text_148 (q := 151) rfl ?_
    refine v_iload_n h (i := 2) dX10_text_151 (q := 152) rfl rfl 0 rfl ?_
    refine v_iald h (k := i) hm.2.2.2.2.2.2.2.1.1 hm.2.2.2.2.2.2.2.1.2 (vp_in_nI (by omega) (by decide)) (nI_clamp (by omega)) dX10_text_152 (q := 153) rfl ?_
    rw [show (τ 7 i : Int32) = cdM (p.2 i) from (by rw [ho 7 (by decide), ts_c (by rw [hpp]; exact hil), hpp])]
    refine v_iast h (k := (137 + 52 * u + i)) hm.2.1.1 hm.2.1.2 (vp_in_nI (by omega) (by decide)) (nI_clamp (by omega)) dX10_text_153 (q := 154) rfl ?_
    refine v_iinc h (p := 0) (u := nI (i + 1)) (ls1 := [(2, .int (nI (i + 1))), (0, .ref (b_ad w 0)), (1, .int (nI u))]) dX10_text_154 (q := 157) rfl rfl (nI_1 i) (Nat.le_of_ble_eq_true rfl) rfl ?_
    refine v_goto h (t := 120) dX10_text_157 (by decide) ?_
    exact ih (m - 1) (by omega) (i + 1) (by omega) _ (fun j hj => by rw [b_up_n hj]; exact ho j hj) (by rw [b_up_s, upd_n (by omega)]; exact h9) (by rw [b_up_s, upd_n (by omega)]; exact hln) (fun k hk2 => by
      rw [b_up_s]
      by_cases e : k = i
      · rw [e, upd_s]
      · rw [upd_n (by omega)]; exact hk k (by omega)) (fun k k9 kr => by rw [b_up_s, upd_n (by omega)]; exact hs k k9 kr)
set_option maxHeartbeats 4000000 in
set_option maxRecDepth 100000 in
theorem c_X10_text {w : bw} {σ : bSt} {A : bA} {use : Int32} (hm : sModel w) (hR : RQ σ A) : MV yX10_text cX10_text 3 (some .int) (rmm 113 3720) w [.ref (b_ad w 0), .int use] σ (pM (oText use A)) := by
  refine b_met (ls := [(0, .ref (b_ad w 0)), (1, .int use)]) (by decide) (Nat.le_of_ble_eq_true rfl) rfl (fun x h => ?_)
  refine v_iload_n h (i := 1) dX10_text_0 (q := 1) rfl rfl 1 rfl ?_
  refine v_iconst h (v := 0) dX10_text_1 (q := 2) rfl (by decide) ?_
  refine v_iconst h (v := 1) dX10_text_2 (q := 3) rfl (by decide) ?_
  refine v_callS h (As := [.int use, .int 0, .int 1]) (rest := []) (c_X10_within (v := use) (l := 0) (m := 1)) cal_X10_within m925 m924 ⟨rfl, rfl, Nat.le_of_ble_eq_true rfl, Nat.le_of_ble_eq_true rfl⟩ rfl rfl (Nat.le_of_ble_eq_true rfl) dX10_text_3 (q := 6) rfl (kB (fun c3 => ?_) (fun c3 => ?_))
  · refine v_if_ne h (t := 16) dX10_text_6 (by decide) (q := 9) rfl (fun _ => ?_) (fun c => absurd c (by decide))
    obtain ⟨u, hu, rfl⟩ := wi_0 (n := 1) c3 rfl
    refine v_aload_n h (i := 0) dX10_text_16 (q := 17) rfl rfl 0 rfl ?_
    refine v_iload_n h (i := 1) dX10_text_17 (q := 18) rfl rfl 1 rfl ?_
    refine v_put h (k := 9) cls10 hm.1.1 hm.1.2 (Nat.le_of_ble_eq_true rfl) rfl m858 rfl ⟨rfl, rfl⟩ dX10_text_18 (q := 21) rfl ?_
    refine v_aload_n h (i := 0) dX10_text_21 (q := 22) rfl rfl 0 rfl ?_
    refine v_iconst h (v := 0) dX10_text_22 (q := 23) rfl (by decide) ?_
    refine v_put h (k := 7) cls10 hm.1.1 hm.1.2 (Nat.le_of_ble_eq_true rfl) rfl m856 rfl ⟨rfl, rfl⟩ dX10_text_23 (q := 26) rfl ?_
    refine v_aload_n h (i := 0) dX10_text_26 (q := 27) rfl rfl 0 rfl ?_
    refine v_iconst h (v := 0) dX10_text_27 (q := 28) rfl (by decide) ?_
    refine v_put h (k := 8) cls10 hm.1.1 hm.1.2 (Nat.le_of_ble_eq_true rfl) rfl m857 rfl ⟨rfl, rfl⟩ dX10_text_28 (q := 31) rfl ?_
    refine v_aload_n h (i := 0) dX10_text_31 (q := 32) rfl rfl 0 rfl ?_
    refine v_iconst h (v := 0) dX10_text_32 (q := 33) rfl (by decide) ?_
    refine v_put h (k := 10) cls10 hm.1.1 hm.1.2 (Nat.le_of_ble_eq_true rfl) rfl m859 rfl ⟨rfl, rfl⟩ dX10_text_33 (q := 36) rfl ?_
    refine v_aload_n h (i := 0) dX10_text_36 (q := 37) rfl rfl 0 rfl ?_
    refine v_iconst h (v := 0) dX10_text_37 (q := 38) rfl (by decide) ?_
    refine v_put h (k := 12) cls10 hm.1.1 hm.1.2 (Nat.le_of_ble_eq_true rfl) rfl m861 rfl ⟨rfl, rfl⟩ dX10_text_38 (q := 41) rfl ?_
    refine v_conv (σ2 := tsM σ u false (0, 0, fun _ => 0)) (by rw [text_st]; exact fun j hj => bEq_rfl j hj) ?_
    refine v_aload_n h (i := 0) dX10_text_41 (q := 42) rfl rfl 0 rfl ?_
    refine v_callV h (As := []) (rest := []) ((c_reads (u := u) hm hR (by omega))) cal_X10_either calV_X10_either m1061 ⟨rfl, rfl, Nat.le_of_ble_eq_true rfl, Nat.le_of_ble_eq_true rfl⟩ rfl hm.1.1 hm.1.2 ⟨_, _, rfl⟩ rfl (Nat.le_of_ble_eq_true rfl) dX10_text_42 (q := 45) rfl (kU ?_)
    refine v_aload_n h (i := 0) dX10_text_45 (q := 46) rfl rfl 0 rfl ?_
    refine v_aload_n h (i := 0) dX10_text_46 (q := 47) rfl rfl 0 rfl ?_
    refine v_get h (k := 10) (v := .int ((tsM σ u (!(txR A u).1) (txR A u).2) 0 10)) cls10 hm.1.1 hm.1.2 (Nat.le_of_ble_eq_true rfl) m859 rfl dX10_text_47 (q := 50) rfl ?_
    rw [show ((tsM σ u (!(txR A u).1) (txR A u).2) 0 10 : Int32) = bI (!(txR A u).1) from ts_10]
    refine v_if_ne h (t := 67) dX10_text_50 (by decide) (q := 53) rfl (fun c50 => ?_) (fun c50 => ?_)
    · refine v_iconst h (v := 1) dX10_text_67 (q := 68) rfl (by decide) ?_
      refine v_goto h (t := 72) dX10_text_68 (by decide) ?_
      refine v_put h (k := 10) cls10 hm.1.1 hm.1.2 (Nat.le_of_ble_eq_true rfl) rfl m859 rfl ⟨rfl, rfl⟩ dX10_text_72 (q := 75) rfl ?_
      rw [show (b_up (tsM σ u (!(txR A u).1) (txR A u).2) 0 10 1 : bSt) = tsM σ u true (txR A u).2 from ts_wr (c := true)]
      refine v_aload_n h (i := 0) dX10_text_75 (q := 76) rfl rfl 0 rfl ?_
      refine v_get h (k := 0) (v := .ref (b_ad w 1)) cls10 hm.1.1 hm.1.2 (Nat.le_of_ble_eq_true rfl) m849 rfl dX10_text_76 (q := 79) rfl ?_
      refine v_bipush h (v := 9) dX10_text_79 (q := 81) rfl (by decide) ?_
      refine v_iconst h (v := 0) dX10_text_81 (q := 82) rfl (by decide) ?_
      refine v_iast h (k := 9) hm.2.1.1 hm.2.1.2 (vp_in_nI (n := 9) (by decide) (by decide)) (by decide) dX10_text_82 (q := 83) rfl ?_
      refine v_aload_n h (i := 0) dX10_text_83 (q := 84) rfl rfl 0 rfl ?_
      refine v_get h (k := 10) (v := .int ((b_up (tsM σ u true (txR A u).2) 1 9 0) 0 10)) cls10 hm.1.1 hm.1.2 (Nat.le_of_ble_eq_true rfl) m859 rfl dX10_text_84 (q := 87) rfl ?_
      rw [show ((b_up (tsM σ u true (txR A u).2) 1 9 0) 0 10 : Int32) = 1 from (by rw [b_up_n (by decide)]; exact ts_10)]
      refine v_if_eq h (t := 98) dX10_text_87 (by decide) (q := 90) rfl (fun c => absurd c (by decide)) (fun _ => ?_)
      refine v_bipush h (v := -10) dX10_text_90 (q := 92) rfl (by decide) ?_
      refine v_aload_n h (i := 0) dX10_text_92 (q := 93) rfl rfl 0 rfl ?_
      refine v_get h (k := 7) (v := .int ((b_up (tsM σ u true (txR A u).2) 1 9 0) 0 7)) cls10 hm.1.1 hm.1.2 (Nat.le_of_ble_eq_true rfl) m856 rfl dX10_text_93 (q := 96) rfl ?_
      rw [show ((b_up (tsM σ u true (txR A u).2) 1 9 0) 0 7 : Int32) = nI (txR A u).2.1 from (by rw [b_up_n (by decide)]; exact ts_7)]
      refine v_isub h dX10_text_96 (q := 97) rfl ?_
      exact v_iret h dX10_text_97 (pM_of (by unfold oText; rw [if_pos (show wj (nI u) 0 1 from c3), cl_nI (n := u) (by omega), if_neg (fun z => c50 (by rw [z.1]; rfl))]) (hR.tape0 (by rw [b_up_n (by decide), ts_f (by decide), ts_f (by decide)]; exact ⟨rfl, rfl⟩) (by rw [b_up_s, ts_o (by decide) (by decide)]) (fun j j0 j1 j7 => by rw [b_up_n j1, ts_o j0 j7])))
    · refine v_aload_n h (i := 0) dX10_text_53 (q := 54) rfl rfl 0 rfl ?_
      refine v_get h (k := 7) (v := .int ((tsM σ u (!(txR A u).1) (txR A u).2) 0 7)) cls10 hm.1.1 hm.1.2 (Nat.le_of_ble_eq_true rfl) m856 rfl dX10_text_54 (q := 57) rfl ?_
      rw [show ((tsM σ u (!(txR A u).1) (txR A u).2) 0 7 : Int32) = nI (txR A u).2.1 from ts_7]
      refine v_aload_n h (i := 0) dX10_text_57 (q := 58) rfl rfl 0 rfl ?_
      refine v_get h (k := 0) (v := .ref (b_ad w 1)) cls10 hm.1.1 hm.1.2 (Nat.le_of_ble_eq_true rfl) m849 rfl dX10_text_58 (q := 61) rfl ?_
      refine v_bipush h (v := 9) dX10_text_61 (q := 63) rfl (by decide) ?_
      refine v_iald h (k := 9) hm.2.1.1 hm.2.1.2 (vp_in_nI (n := 9) (by decide) (by decide)) (by decide) dX10_text_63 (q := 64) rfl ?_
      rw [show ((tsM σ u (!(txR A u).1) (txR A u).2) 1 9 : Int32) = nI A.1.2.2.1.1 from (by rw [ts_o (by decide) (by decide)]; exact hR.fed.1)]
      refine v_icmp_ge h (t := 71) dX10_text_64 (by decide) (q := 67) rfl (fun c64 => ?_) (fun c64 => ?_)
      · refine v_iconst h (v := 0) dX10_text_71 (q := 72) rfl (by decide) ?_
        refine v_put h (k := 10) cls10 hm.1.1 hm.1.2 (Nat.le_of_ble_eq_true rfl) rfl m859 rfl ⟨rfl, rfl⟩ dX10_text_72 (q := 75) rfl ?_
        rw [show (b_up (tsM σ u (!(txR A u).1) (txR A u).2) 0 10 0 : bSt) = tsM σ u false (txR A u).2 from ts_wr (c := false)]
        refine v_aload_n h (i := 0) dX10_text_75 (q := 76) rfl rfl 0 rfl ?_
        refine v_get h (k := 0) (v := .ref (b_ad w 1)) cls10 hm.1.1 hm.1.2 (Nat.le_of_ble_eq_true rfl) m849 rfl dX10_text_76 (q := 79) rfl ?_
        refine v_bipush h (v := 9) dX10_text_79 (q := 81) rfl (by decide) ?_
        refine v_iconst h (v := 0) dX10_text_81 (q := 82) rfl (by decide) ?_
        refine v_iast h (k := 9) hm.2.1.1 hm.2.1.2 (vp_in_nI (n := 9) (by decide) (by decide)) (by decide) dX10_text_82 (q := 83) rfl ?_
        refine v_aload_n h (i := 0) dX10_text_83 (q := 84) rfl rfl 0 rfl ?_
        refine v_get h (k := 10) (v := .int ((b_up (tsM σ u false (txR A u).2) 1 9 0) 0 10)) cls10 hm.1.1 hm.1.2 (Nat.le_of_ble_eq_true rfl) m859 rfl dX10_text_84 (q := 87) rfl ?_
        rw [show ((b_up (tsM σ u false (txR A u).2) 1 9 0) 0 10 : Int32) = 0 from (by rw [b_up_n (by decide)]; exact ts_10)]
        refine v_if_eq h (t := 98) dX10_text_87 (by decide) (q := 90) rfl (fun _ => ?_) (fun c => absurd (by decide) c)
        have hu2 : u < 2 := by omega
        have hr1 : (txR A u).1 = true := by
          have z := bI_f c50
          rw [Bool.not_eq_false'] at z
          exact z
        have hpe : (txR A u).2.1 = A.1.2.2.1.1 := by
          have z1 := tx_le (A := A) hu2
          have z2 := (nI_leI (a := A.1.2.2.1.1) (b := (txR A u).2.1) (by have := hR.fed.2.1; omega) (by have := hR.fed.2.1; omega)).mp c64
          omega
        have hok : okT (txR A u).2.2 := tx_ok hu2 hR.fed.2.1 hr1
        have hok5 : (txR A u).2.2.1 ≤ 50 := hok.1.1
        refine v_aload_n h (i := 0) dX10_text_98 (q := 99) rfl rfl 0 rfl ?_
        refine v_get h (k := 0) (v := .ref (b_ad w 1)) cls10 hm.1.1 hm.1.2 (Nat.le_of_ble_eq_true rfl) m849 rfl dX10_text_99 (q := 102) rfl ?_
        refine v_sipush h (v := 136) dX10_text_102 (q := 105) rfl (by decide) ?_
        refine v_bipush h (v := 52) dX10_text_105 (q := 107) rfl (by decide) ?_
        refine v_aload_n h (i := 0) dX10_text_107 (q := 108) rfl rfl 0 rfl ?_
        refine v_get h (k := 9) (v := .int ((b_up (tsM σ u false (txR A u).2) 1 9 0) 0 9)) cls10 hm.1.1 hm.1.2 (Nat.le_of_ble_eq_true rfl) m858 rfl dX10_text_108 (q := 111) rfl ?_
        rw [show ((b_up (tsM σ u false (txR A u).2) 1 9 0) 0 9 : Int32) = nI u from (by rw [b_up_n (by decide)]; exact ts_9)]
        refine v_imul h dX10_text_111 (q := 112) rfl ?_
        rw [show (52 * (nI u) : Int32) = nI (52 * u) from (nI_mulN 52 u)]
        refine v_iadd h dX10_text_112 (q := 113) rfl ?_
        rw [show (136 + (nI (52 * u)) : Int32) = nI (136 + 52 * u) from (nI_add 136 _)]
        refine v_aload_n h (i := 0) dX10_text_113 (q := 114) rfl rfl 0 rfl ?_
        refine v_get h (k := 12) (v := .int ((b_up (tsM σ u false (txR A u).2) 1 9 0) 0 12)) cls10 hm.1.1 hm.1.2 (Nat.le_of_ble_eq_true rfl) m861 rfl dX10_text_114 (q := 117) rfl ?_
        rw [show ((b_up (tsM σ u false (txR A u).2) 1 9 0) 0 12 : Int32) = nI (txR A u).2.2.1 from (by rw [b_up_n (by decide)]; exact ts_12)]
        refine v_iast h (k := (136 + 52 * u)) hm.2.1.1 hm.2.1.2 (vp_in_nI (by omega) (by decide)) (nI_clamp (by omega)) dX10_text_117 (q := 118) rfl ?_
        refine v_iconst h (v := 0) dX10_text_118 (q := 119) rfl (by decide) ?_
        refine v_istore_n h (i := 2) (ls1 := [(2, .int 0), (0, .ref (b_ad w 0)), (1, .int (nI u))]) dX10_text_119 (q := 120) rfl rfl (Nat.le_of_ble_eq_true rfl) rfl ?_
        exact lX10_text_120 hm hR h u hu2 c3 rfl hr1 hpe _ rfl hok hok5 _ 0 (Nat.zero_add _) _ (fun j hj => by rw [b_up_n hj, b_up_n hj]) (by rw [b_up_s, upd_n (by omega), b_up_s, upd_s]) (by rw [b_up_s, upd_s]) (fun k hk => absurd hk (Nat.not_lt_zero k)) (fun k k9 kr => by rw [b_up_s, upd_n (by omega), b_up_s, upd_n k9, ts_o (by decide) (by decide)])
      · refine v_iconst h (v := 1) dX10_text_67 (q := 68) rfl (by decide) ?_
        refine v_goto h (t := 72) dX10_text_68 (by decide) ?_
        refine v_put h (k := 10) cls10 hm.1.1 hm.1.2 (Nat.le_of_ble_eq_true rfl) rfl m859 rfl ⟨rfl, rfl⟩ dX10_text_72 (q := 75) rfl ?_
        rw [show (b_up (tsM σ u (!(txR A u).1) (txR A u).2) 0 10 1 : bSt) = tsM σ u true (txR A u).2 from ts_wr (c := true)]
        refine v_aload_n h (i := 0) dX10_text_75 (q := 76) rfl rfl 0 rfl ?_
        refine v_get h (k := 0) (v := .ref (b_ad w 1)) cls10 hm.1.1 hm.1.2 (Nat.le_of_ble_eq_true rfl) m849 rfl dX10_text_76 (q := 79) rfl ?_
        refine v_bipush h (v := 9) dX10_text_79 (q := 81) rfl (by decide) ?_
        refine v_iconst h (v := 0) dX10_text_81 (q := 82) rfl (by decide) ?_
        refine v_iast h (k := 9) hm.2.1.1 hm.2.1.2 (vp_in_nI (n := 9) (by decide) (by decide)) (by decide) dX10_text_82 (q := 83) rfl ?_
        refine v_aload_n h (i := 0) dX10_text_83 (q := 84) rfl rfl 0 rfl ?_
        refine v_get h (k := 10) (v := .int ((b_up (tsM σ u true (txR A u).2) 1 9 0) 0 10)) cls10 hm.1.1 hm.1.2 (Nat.le_of_ble_eq_true rfl) m859 rfl dX10_text_84 (q := 87) rfl ?_
        rw [show ((b_up (tsM σ u true (txR A u).2) 1 9 0) 0 10 : Int32) = 1 from (by rw [b_up_n (by decide)]; exact ts_10)]
        refine v_if_eq h (t := 98) dX10_text_87 (by decide) (q := 90) rfl (fun c => absurd c (by decide)) (fun _ => ?_)
        refine v_bipush h (v := -10) dX10_text_90 (q := 92) rfl (by decide) ?_
        refine v_aload_n h (i := 0) dX10_text_92 (q := 93) rfl rfl 0 rfl ?_
        refine v_get h (k := 7) (v := .int ((b_up (tsM σ u true (txR A u).2) 1 9 0) 0 7)) cls10 hm.1.1 hm.1.2 (Nat.le_of_ble_eq_true rfl) m856 rfl dX10_text_93 (q := 96) rfl ?_
        rw [show ((b_up (tsM σ u true (txR A u).2) 1 9 0) 0 7 : Int32) = nI (txR A u).2.1 from (by rw [b_up_n (by decide)]; exact ts_7)]
        refine v_isub h dX10_text_96 (q := 97) rfl ?_
        exact v_iret h dX10_text_97 (pM_of (by unfold oText; rw [if_pos (show wj (nI u) 0 1 from c3), cl_nI (n := u) (by omega), if_neg (fun z => c64 (by rw [z.2]; exact Int32.le_refl _))]) (hR.tape0 (by rw [b_up_n (by decide), ts_f (by decide), ts_f (by decide)]; exact ⟨rfl, rfl⟩) (by rw [b_up_s, ts_o (by decide) (by decide)]) (fun j j0 j1 j7 => by rw [b_up_n j1, ts_o j0 j7])))
  · refine v_if_ne h (t := 16) dX10_text_6 (by decide) (q := 9) rfl (fun c => absurd (by decide) c) (fun _ => ?_)
    refine v_aload_n h (i := 0) dX10_text_9 (q := 10) rfl rfl 0 rfl ?_
    refine v_ldc h (v := -1000000001) m931 dX10_text_10 (q := 12) rfl ?_
    refine v_callV h (As := [.int (-1000000001)]) (rest := []) (c_X10_finding (σ := σ) (e := 1) (v := -1000000001) hm (by decide) (by decide +kernel)) cal_X10_finding calV_X10_finding m932 ⟨rfl, rfl, Nat.le_of_ble_eq_true rfl, Nat.le_of_ble_eq_true rfl⟩ rfl hm.1.1 hm.1.2 ⟨_, _, rfl⟩ rfl (Nat.le_of_ble_eq_true rfl) dX10_text_12 (q := 15) rfl (kI ?_)
    exact v_iret h dX10_text_15 (pM_of (by unfold oText; rw [if_neg (fun z => by first | exact c3 z), ref1]) (hR.err (by decide)))
