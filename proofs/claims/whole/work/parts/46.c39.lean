theorem upd_comm {N : bN} {a b : Nat} {x y : Int32} (h : a ≠ b) : upd (upd N a x) b y = upd (upd N b y) a x := by
  funext j
  unfold upd
  by_cases e : j = a
  · rw [if_pos e, if_pos e, if_neg (show ¬ j = b by omega)]
  · rw [if_neg e, if_neg e]
theorem RQ.eqA {σ : bSt} {A B : bA} (h : RQ σ A) (e : A = B) : RQ σ B := e ▸ h
theorem MD.tp {row row' : Nat → Int32} {D : bD} {p : Nat × (Nat → Int32)} (h : MD row D) (ho : ∀ k, (k < 66 ∧ k ≠ 9) ∨ 116 ≤ k → row' k = row k) (e1 : row' 9 = nI p.1) (e2 : p.1 ≤ 50) (e3 : ∀ k, k < 50 → row' (66 + k) = p.2 k) : MD row' (D.1, D.2.1, p, D.2.2.2) := by
  obtain ⟨h1, h2, h3, h4, h5, h6, h7, h8, h9⟩ := h
  refine ⟨fun j j1 j2 j3 => by rw [ho j (by omega)]; exact h1 j j1 j2 j3, h2, fun u hu => ?_, e1, e2, e3, by rw [ho 10 (by omega)]; exact h7, h8, fun k hk => by rw [ho _ (by omega)]; exact h9 k hk⟩
  obtain ⟨a, b, c⟩ := h3 u hu
  exact ⟨by rw [ho _ (by omega)]; exact a, b, fun i hi => by rw [ho _ (by omega)]; exact c i hi⟩
theorem MD.wt2 {row row' : Nat → Int32} {D : bD} {p : Nat × (Nat → Int32)} (h : MD row D) (ho : ∀ k, (k < 116 ∧ k ≠ 10) ∨ 136 ≤ k → row' k = row k) (e1 : row' 10 = nI p.1) (e2 : p.1 ≤ 20) (e3 : ∀ k, k < 20 → row' (116 + k) = p.2 k) : MD row' (D.1, D.2.1, D.2.2.1, p) := by
  obtain ⟨h1, h2, h3, h4, h5, h6, h7, h8, h9⟩ := h
  refine ⟨fun j j1 j2 j3 => by rw [ho j (by omega)]; exact h1 j j1 j2 j3, h2, fun u hu => ?_, by rw [ho 9 (by omega)]; exact h4, h5, fun k hk => by rw [ho _ (by omega)]; exact h6 k hk, e1, e2, e3⟩
  obtain ⟨a, b, c⟩ := h3 u hu
  exact ⟨by rw [ho _ (by omega)]; exact a, b, fun i hi => by rw [ho _ (by omega)]; exact c i hi⟩
theorem RQ.row {σ : bSt} {A : bA} {D : bD} {k : Nat} {v : Int32} (h : RQ σ A) (hD : MD (upd (σ 1) k v) D) (e : D.2.1 = A.1.2.1) : RQ (b_up σ 1 k v) (D, A.2) :=
  h.set1 (by rw [b_up_n (by omega)]; exact ⟨rfl, rfl⟩) (fun j hj => b_up_n (by omega)) (by rw [b_up_s]; exact hD) (by rw [e]; exact h.2.1.sc (b_up_n (by omega)))
theorem MD.go {row row' : Nat → Int32} {D : bD} {N : bN} (h : MD row D) (ho : ∀ k, (k = 9 ∨ k = 10 ∨ 66 ≤ k) → row' k = row k) (e : ∀ k, k < 66 → k ≠ 9 → k ≠ 10 → row' k = N k) (hI : IvB N) : MD row' (N, D.2) := by
  obtain ⟨h1, h2, h3, h4, h5, h6, h7, h8, h9⟩ := h
  refine ⟨e, hI, fun u hu => ?_, by rw [ho 9 (by omega)]; exact h4, h5, fun k hk => by rw [ho _ (by omega)]; exact h6 k hk, by rw [ho 10 (by omega)]; exact h7, h8, fun k hk => by rw [ho _ (by omega)]; exact h9 k hk⟩
  obtain ⟨a, b, c⟩ := h3 u hu
  exact ⟨by rw [ho _ (by omega)]; exact a, b, fun i hi => by rw [ho _ (by omega)]; exact c i hi⟩
theorem RQ.go {σ τ : bSt} {A : bA} {N : bN} (h : RQ σ A) (hf : fM σ τ) (hW : MW τ N A.1.2.1) (hI : IvB N) : RQ τ (setN A N) :=
  h.set1 (D := (N, A.1.2)) (by rw [hf.1 0 (by decide) (by decide) (by decide) (by decide)]; exact ⟨rfl, rfl⟩) (fun j hj => hf.1 j (by omega) (by omega) (by omega) (by omega)) (h.1.go hf.2 hW.1 hI) hW.2.2.2
/-- put back as it was -/
theorem RQ.back {σ τ : bSt} {A : bA} {N : bN} (h : RQ σ A) (hf : fM (b_set σ 3 (σ 1)) τ) (hW : MW τ N A.1.2.1) : RQ (b_set τ 1 (τ 3)) A := by
  have e3 : τ 3 = σ 1 := by rw [hf.1 3 (by decide) (by decide) (by decide) (by decide), b_set_s]
  have ho : ∀ j, j ≠ 1 → j ≠ 3 → j ≠ 5 → j ≠ 8 → j ≠ 9 → b_set τ 1 (τ 3) j = σ j := fun j a b c d e => by rw [b_set_n a, hf.1 j a c d e, b_set_n b]
  exact h.scr (by rw [ho 0 (by decide) (by decide) (by decide) (by decide) (by decide)]; exact ⟨rfl, rfl⟩) (fun j hj => by
    by_cases z : j = 1
    · subst z
      rw [b_set_s, e3]
    · exact ho j z (by omega) (by omega) (by omega) (by omega)) (hW.2.2.2.sc (b_set_n (by decide)))
theorem MW.as3 {σ : bSt} {N : bN} {T : bT} (h : MW σ N T) : MW (b_set σ 3 (σ 1)) N T := by
  obtain ⟨h1, h2, h3, h4⟩ := h
  exact ⟨by rw [b_set_n (by decide)]; exact h1, h2, by rw [b_set_n (by decide)]; exact h3, h4.sc (b_set_n (by decide))⟩
theorem btOf_cl {N : bN} : btOf N = (N 0).toNatClampNeg := rfl

set_option maxHeartbeats 4000000 in
set_option maxRecDepth 100000 in
theorem c_X10_become {w : bw} {σ : bSt} {A : bA} {b km : Int32} (hm : sModel w) (hR : RQ σ A) : MV yX10_become cX10_become 3 (some .int) (rmm 2 44) w [.ref (b_ad w 0), .int b, .int km] σ (pM (oBecome b km A)) := by
  refine b_met (ls := [(0, .ref (b_ad w 0)), (1, .int b), (2, .int km)]) (by decide) (Nat.le_of_ble_eq_true rfl) rfl (fun x h => ?_)
  refine v_aload_n h (i := 0) dX10_become_0 (q := 1) rfl rfl 0 rfl ?_
  refine v_iload_n h (i := 1) dX10_become_1 (q := 2) rfl rfl 1 rfl ?_
  refine v_bipush h (v := 7) dX10_become_2 (q := 4) rfl (by decide) ?_
  refine v_callV h (As := [.int b, .int 7]) (rest := []) (c_X10_is (σ := σ) (k := b) (c := 7) hm (by decide)) cal_X10_is calV_X10_is m953 ⟨rfl, rfl, Nat.le_of_ble_eq_true rfl, Nat.le_of_ble_eq_true rfl⟩ rfl hm.1.1 hm.1.2 ⟨_, _, rfl⟩ rfl (Nat.le_of_ble_eq_true rfl) dX10_become_4 (q := 7) rfl (kB (fun c4 => ?_) (fun c4 => ?_))
  · refine v_if_eq h (t := 20) dX10_become_7 (by decide) (q := 10) rfl (fun c => absurd c (by decide)) (fun _ => ?_)
    refine v_iload_n h (i := 2) dX10_become_10 (q := 11) rfl rfl 2 rfl ?_
    refine v_iconst h (v := 0) dX10_become_11 (q := 12) rfl (by decide) ?_
    refine v_bipush h (v := 69) dX10_become_12 (q := 14) rfl (by decide) ?_
    refine v_callS h (As := [.int km, .int 0, .int 69]) (rest := []) (c_X10_within (v := km) (l := 0) (m := 69)) cal_X10_within m925 m924 ⟨rfl, rfl, Nat.le_of_ble_eq_true rfl, Nat.le_of_ble_eq_true rfl⟩ rfl rfl (Nat.le_of_ble_eq_true rfl) dX10_become_14 (q := 17) rfl (kB (fun c14 => ?_) (fun c14 => ?_))
    · refine v_if_ne h (t := 27) dX10_become_17 (by decide) (q := 20) rfl (fun _ => ?_) (fun c => absurd c (by decide))
      obtain ⟨n, hn, rfl⟩ := inN_nI (hR.isb.mp c4)
      have hb9 : n < 9 := by have := hR.af.2; omega
      refine v_aload_n h (i := 0) dX10_become_27 (q := 28) rfl rfl 0 rfl ?_
      refine v_get h (k := 0) (v := .ref (b_ad w 1)) cls10 hm.1.1 hm.1.2 (Nat.le_of_ble_eq_true rfl) m849 rfl dX10_become_28 (q := 31) rfl ?_
      refine v_bipush h (v := 12) dX10_become_31 (q := 33) rfl (by decide) ?_
      refine v_iconst h (v := 4) dX10_become_33 (q := 34) rfl (by decide) ?_
      refine v_iload_n h (i := 1) dX10_become_34 (q := 35) rfl rfl 1 rfl ?_
      refine v_imul h dX10_become_35 (q := 36) rfl ?_
      rw [show (4 * (nI n) : Int32) = nI (4 * n) from (nI_mulN 4 _)]
      refine v_iadd h dX10_become_36 (q := 37) rfl ?_
      rw [show (12 + (nI (4 * n)) : Int32) = nI (12 + 4 * n) from (nI_add 12 _)]
      refine v_iconst h (v := 1) dX10_become_37 (q := 38) rfl (by decide) ?_
      refine v_iadd h dX10_become_38 (q := 39) rfl ?_
      rw [show ((nI (12 + 4 * n)) + 1 : Int32) = nI (13 + 4 * n) from (by rw [show (1 : Int32) = nI 1 from rfl, nI_add, show 12 + 4 * n + 1 = 13 + 4 * n by omega])]
      refine v_iload_n h (i := 2) dX10_become_39 (q := 40) rfl rfl 2 rfl ?_
      refine v_bipush h (v := 10) dX10_become_40 (q := 42) rfl (by decide) ?_
      refine v_irem h dX10_become_42 (q := 43) rfl (by decide) ?_
      refine v_iast h (k := (13 + 4 * n)) hm.2.1.1 hm.2.1.2 (vp_in_nI (by omega) (by decide)) (nI_clamp (by omega)) dX10_become_43 (q := 44) rfl ?_
      refine v_aload_n h (i := 0) dX10_become_44 (q := 45) rfl rfl 0 rfl ?_
      refine v_bipush h (v := 12) dX10_become_45 (q := 47) rfl (by decide) ?_
      refine v_iconst h (v := 4) dX10_become_47 (q := 48) rfl (by decide) ?_
      refine v_iload_n h (i := 1) dX10_become_48 (q := 49) rfl rfl 1 rfl ?_
      refine v_imul h dX10_become_49 (q := 50) rfl ?_
      rw [show (4 * (nI n) : Int32) = nI (4 * n) from (nI_mulN 4 _)]
      refine v_iadd h dX10_become_50 (q := 51) rfl ?_
      rw [show (12 + (nI (4 * n)) : Int32) = nI (12 + 4 * n) from (nI_add 12 _)]
      refine v_iconst h (v := 0) dX10_become_51 (q := 52) rfl (by decide) ?_
      refine v_iadd h dX10_become_52 (q := 53) rfl ?_
      rw [show ((nI (12 + 4 * n)) + 0 : Int32) = nI (12 + 4 * n) from (by rw [show (0 : Int32) = nI 0 from rfl, nI_add, show 12 + 4 * n + 0 = 12 + 4 * n by omega])]
      refine v_iload_n h (i := 2) dX10_become_53 (q := 54) rfl rfl 2 rfl ?_
      refine v_bipush h (v := 10) dX10_become_54 (q := 56) rfl (by decide) ?_
      refine v_idiv h dX10_become_56 (q := 57) rfl (by decide) ?_
      refine v_callV h (As := [.int (nI (12 + 4 * n)), .int (km / 10)]) (rest := []) (c_X10_putIn (σ := b_up σ 1 ((13 + 4 * n)) (km - km / 10 * 10)) (p := (12 + 4 * n)) (v := km / 10) hm (by omega)) cal_X10_putIn calV_X10_putIn m927 ⟨rfl, rfl, Nat.le_of_ble_eq_true rfl, Nat.le_of_ble_eq_true rfl⟩ rfl hm.1.1 hm.1.2 ⟨_, _, rfl⟩ rfl (Nat.le_of_ble_eq_true rfl) dX10_become_57 (q := 60) rfl (kI ?_)
      rw [show ((b_up σ 1 ((13 + 4 * n)) (km - km / 10 * 10)) 1 ((12 + 4 * n)) : Int32) = A.1.1 (12 + 4 * n) from (by rw [b_up_s, upd_n (by omega)]; exact hR.n (by omega))]
      exact v_iret h dX10_become_60 (pM_of (by unfold oBecome; rw [if_pos ⟨hR.isb.mp c4, c14⟩, cl_nI (n := n) (by omega)]) (((hR.up1 (k := 13 + 4 * n) (by omega) (hR.1.2.1.numb (km_k c14).2)).up1 (k := 12 + 4 * n) (by omega) ((hR.1.2.1.numb (km_k c14).2).kind (km_k c14).1)).eqA (congrArg (setN A) (upd_comm (by omega)))))
    · refine v_if_ne h (t := 27) dX10_become_17 (by decide) (q := 20) rfl (fun c => absurd (by decide) c) (fun _ => ?_)
      refine v_aload_n h (i := 0) dX10_become_20 (q := 21) rfl rfl 0 rfl ?_
      refine v_ldc h (v := -1000000001) m931 dX10_become_21 (q := 23) rfl ?_
      refine v_callV h (As := [.int (-1000000001)]) (rest := []) (c_X10_finding (σ := σ) (e := 1) (v := -1000000001) hm (by decide) (by decide +kernel)) cal_X10_finding calV_X10_finding m932 ⟨rfl, rfl, Nat.le_of_ble_eq_true rfl, Nat.le_of_ble_eq_true rfl⟩ rfl hm.1.1 hm.1.2 ⟨_, _, rfl⟩ rfl (Nat.le_of_ble_eq_true rfl) dX10_become_23 (q := 26) rfl (kI ?_)
      exact v_iret h dX10_become_26 (pM_of (by unfold oBecome; rw [if_neg (fun z => by first | exact c4 (hR.isb.mpr z.1) | exact c14 z.2), ref1]) (hR.err (by decide)))
  · refine v_if_eq h (t := 20) dX10_become_7 (by decide) (q := 10) rfl (fun _ => ?_) (fun c => absurd (by decide) c)
    refine v_aload_n h (i := 0) dX10_become_20 (q := 21) rfl rfl 0 rfl ?_
    refine v_ldc h (v := -1000000001) m931 dX10_become_21 (q := 23) rfl ?_
    refine v_callV h (As := [.int (-1000000001)]) (rest := []) (c_X10_finding (σ := σ) (e := 1) (v := -1000000001) hm (by decide) (by decide +kernel)) cal_X10_finding calV_X10_finding m932 ⟨rfl, rfl, Nat.le_of_ble_eq_true rfl, Nat.le_of_ble_eq_true rfl⟩ rfl hm.1.1 hm.1.2 ⟨_, _, rfl⟩ rfl (Nat.le_of_ble_eq_true rfl) dX10_become_23 (q := 26) rfl (kI ?_)
    exact v_iret h dX10_become_26 (pM_of (by unfold oBecome; rw [if_neg (fun z => by first | exact c4 (hR.isb.mpr z.1) | exact c14 z.2), ref1]) (hR.err (by decide)))

set_option maxHeartbeats 4000000 in
set_option maxRecDepth 100000 in
theorem lX10_as_34 {w : bw} {σ : bSt} {A : bA} {b kind : Int32} (hm : sModel w) (hR : RQ σ A) {x : bX} (h : Cx x w cX10_as RX10 4 (some .int) (rmm 2 44)) : ∀ n K : Nat, n < 9 → K < 7 → A.1.1 (12 + 4 * n) = nI K → inN b (afN A.1.1) ∧ wj kind 0 6 → b = nI n → ∀ (m : Nat) (one : Int32), ((one = -1 ∧ ¬ unN (nI K) kind) ∨ ∃ j, j < 7 ∧ one = nI j ∧ j < m ∧ (unN (nI j) kind ↔ unN (nI K) kind)) → V x w 4 (pM (oAs b kind A)) 34 [(3, .int one), (0, .ref (b_ad w 0)), (1, .int (nI n)), (2, .int kind)] [] σ := by
  intro n K hb9 hK eK hcond ebn
  refine b_ind (fun m ih => ?_)
  intro one hup
  refine v_iload_n h (i := 3) dX10_as_34 (q := 35) rfl rfl 0 rfl ?_
  refine v_if_lt h (t := 51) dX10_as_35 (by decide) (q := 38) rfl (fun c35 => ?_) (fun c35 => ?_)
  · refine v_iload_n h (i := 3) dX10_as_51 (q := 52) rfl rfl 0 rfl ?_
    refine v_if_ge h (t := 64) dX10_as_52 (by decide) (q := 55) rfl (fun c52 => ?_) (fun c52 => ?_)
    · have hun : unN (nI K) kind := absurd c35 (Int32.not_lt.mpr c52)
      refine v_aload_n h (i := 0) dX10_as_64 (q := 65) rfl rfl 1 rfl ?_
      refine v_iload_n h (i := 1) dX10_as_65 (q := 66) rfl rfl 2 rfl ?_
      refine v_iconst h (v := 1) dX10_as_66 (q := 67) rfl (by decide) ?_
      refine v_callV h (As := [.int (nI n), .int 1]) (rest := []) (c_X10_boatIs (σ := σ) (b := n) (f := 1) hm hb9 (by decide)) cal_X10_boatIs calV_X10_boatIs m961 ⟨rfl, rfl, Nat.le_of_ble_eq_true rfl, Nat.le_of_ble_eq_true rfl⟩ rfl hm.1.1 hm.1.2 ⟨_, _, rfl⟩ rfl (Nat.le_of_ble_eq_true rfl) dX10_as_67 (q := 70) rfl (kI ?_)
      rw [show (σ 1 (13 + 4 * n) : Int32) = A.1.1 (13 + 4 * n) from (hR.n (by omega))]
      exact v_iret h dX10_as_70 (pM_of (by subst ebn; unfold oAs; rw [if_pos hcond, cl_nI (n := n) (by omega), eK, if_pos hun]) hR)
    · have hun : ¬ unN (nI K) kind := by
        rcases hup with ⟨e, z⟩ | ⟨j, hj, e, hl, hu⟩
        · exact z
        · exact absurd (show ¬ one < 0 by rw [e]; exact nI_pos (by omega)) (fun q => q (Int32.not_le.mp c52))
      refine v_aload_n h (i := 0) dX10_as_55 (q := 56) rfl rfl 1 rfl ?_
      refine v_ldc h (v := -1000000005) m984 dX10_as_56 (q := 58) rfl ?_
      refine v_callV h (As := [.int (-1000000005)]) (rest := []) (c_X10_finding (σ := σ) (e := 5) (v := -1000000005) hm (by decide) (by decide +kernel)) cal_X10_finding calV_X10_finding m932 ⟨rfl, rfl, Nat.le_of_ble_eq_true rfl, Nat.le_of_ble_eq_true rfl⟩ rfl hm.1.1 hm.1.2 ⟨_, _, rfl⟩ rfl (Nat.le_of_ble_eq_true rfl) dX10_as_58 (q := 61) rfl (kI ?_)
      refine v_goto h (t := 70) dX10_as_61 (by decide) ?_
      exact v_iret h dX10_as_70 (pM_of (by subst ebn; unfold oAs; rw [if_pos hcond, cl_nI (n := n) (by omega), eK, if_neg hun, ref5]) (hR.err (by decide)))
  · refine v_iload_n h (i := 3) dX10_as_38 (q := 39) rfl rfl 0 rfl ?_
    refine v_iload_n h (i := 2) dX10_as_39 (q := 40) rfl rfl 3 rfl ?_
    refine v_icmp_eq h (t := 51) dX10_as_40 (by decide) (q := 43) rfl (fun c40 => ?_) (fun c40 => ?_)
    · refine v_iload_n h (i := 3) dX10_as_51 (q := 52) rfl rfl 0 rfl ?_
      refine v_if_ge h (t := 64) dX10_as_52 (by decide) (q := 55) rfl (fun c52_1 => ?_) (fun c52_1 => ?_)
      · have hun : unN (nI K) kind := by
          rcases hup with ⟨e, _⟩ | ⟨j, hj, e, hl, hu⟩
          · exact absurd (show one < 0 by rw [e]; decide) (Int32.not_lt.mpr c52_1)
          · exact hu.mp (Or.inl (by rw [← e]; exact c40.symm))
        refine v_aload_n h (i := 0) dX10_as_64 (q := 65) rfl rfl 1 rfl ?_
        refine v_iload_n h (i := 1) dX10_as_65 (q := 66) rfl rfl 2 rfl ?_
        refine v_iconst h (v := 1) dX10_as_66 (q := 67) rfl (by decide) ?_
        refine v_callV h (As := [.int (nI n), .int 1]) (rest := []) (c_X10_boatIs (σ := σ) (b := n) (f := 1) hm hb9 (by decide)) cal_X10_boatIs calV_X10_boatIs m961 ⟨rfl, rfl, Nat.le_of_ble_eq_true rfl, Nat.le_of_ble_eq_true rfl⟩ rfl hm.1.1 hm.1.2 ⟨_, _, rfl⟩ rfl (Nat.le_of_ble_eq_true rfl) dX10_as_67 (q := 70) rfl (kI ?_)
        rw [show (σ 1 (13 + 4 * n) : Int32) = A.1.1 (13 + 4 * n) from (hR.n (by omega))]
        exact v_iret h dX10_as_70 (pM_of (by subst ebn; unfold oAs; rw [if_pos hcond, cl_nI (n := n) (by omega), eK, if_pos hun]) hR)
      · have hun : ¬ unN (nI K) kind := by
          rcases hup with ⟨e, z⟩ | ⟨j, hj, e, hl, hu⟩
          · exact z
          · exact absurd (show ¬ one < 0 by rw [e]; exact nI_pos (by omega)) (fun q => q (Int32.not_le.mp c52_1))
        refine v_aload_n h (i := 0) dX10_as_55 (q := 56) rfl rfl 1 rfl ?_
        refine v_ldc h (v := -1000000005) m984 dX10_as_56 (q := 58) rfl ?_
        refine v_callV h (As := [.int (-1000000005)]) (rest := []) (c_X10_finding (σ := σ) (e := 5) (v := -1000000005) hm (by decide) (by decide +kernel)) cal_X10_finding calV_X10_finding m932 ⟨rfl, rfl, Nat.le_of_ble_eq_true rfl, Nat.le_of_ble_eq_true rfl⟩ rfl hm.1.1 hm.1.2 ⟨_, _, rfl⟩ rfl (Nat.le_of_ble_eq_true rfl) dX10_as_58 (q := 61) rfl (kI ?_)
        refine v_goto h (t := 70) dX10_as_61 (by decide) ?_
        exact v_iret h dX10_as_70 (pM_of (by subst ebn; unfold oAs; rw [if_pos hcond, cl_nI (n := n) (by omega), eK, if_neg hun, ref5]) (hR.err (by decide)))
    · refine v_iload_n h (i := 3) dX10_as_43 (q := 44) rfl rfl 0 rfl ?_
      refine v_callS h (As := [.int one]) (rest := []) (c_X10_above (k := one)) cal_X10_above m982 m981 ⟨rfl, rfl, Nat.le_of_ble_eq_true rfl, Nat.le_of_ble_eq_true rfl⟩ rfl rfl (Nat.le_of_ble_eq_true rfl) dX10_as_44 (q := 47) rfl (kI ?_)
      refine v_istore_n h (i := 3) (ls1 := [(3, .int (abM one)), (0, .ref (b_ad w 0)), (1, .int (nI n)), (2, .int kind)]) dX10_as_47 (q := 48) rfl rfl (Nat.le_of_ble_eq_true rfl) rfl ?_
      refine v_goto h (t := 34) dX10_as_48 (by decide) ?_
      rcases hup with ⟨e, _⟩ | ⟨j, hj, e, hl, hu⟩
      · exact absurd (show one < 0 by rw [e]; decide) c35
      · have hne : ¬ nI j = kind := by rw [← e]; exact c40
        have t := ab_up j hj
        refine ih (m - 1) (by omega) _ ?_
        by_cases z : j = 0
        · refine Or.inl ⟨by rw [e]; exact t.1 z, fun q => ?_⟩
          subst z
          exact un_0 hne (hu.mpr q)
        · exact Or.inr ⟨abK j, by have := (t.2 z).2; omega, by rw [e]; exact (t.2 z).1, by have := (t.2 z).2; omega, (un_up hj z hne).symm.trans hu⟩
set_option maxHeartbeats 4000000 in
set_option maxRecDepth 100000 in
theorem c_X10_as {w : bw} {σ : bSt} {A : bA} {b kind : Int32} (hm : sModel w) (hR : RQ σ A) : MV yX10_as cX10_as 4 (some .int) (rmm 2 44) w [.ref (b_ad w 0), .int b, .int kind] σ (pM (oAs b kind A)) := by
  refine b_met (ls := [(0, .ref (b_ad w 0)), (1, .int b), (2, .int kind)]) (by decide) (Nat.le_of_ble_eq_true rfl) rfl (fun x h => ?_)
  refine v_aload_n h (i := 0) dX10_as_0 (q := 1) rfl rfl 0 rfl ?_
  refine v_iload_n h (i := 1) dX10_as_1 (q := 2) rfl rfl 1 rfl ?_
  refine v_bipush h (v := 7) dX10_as_2 (q := 4) rfl (by decide) ?_
  refine v_callV h (As := [.int b, .int 7]) (rest := []) (c_X10_is (σ := σ) (k := b) (c := 7) hm (by decide)) cal_X10_is calV_X10_is m953 ⟨rfl, rfl, Nat.le_of_ble_eq_true rfl, Nat.le_of_ble_eq_true rfl⟩ rfl hm.1.1 hm.1.2 ⟨_, _, rfl⟩ rfl (Nat.le_of_ble_eq_true rfl) dX10_as_4 (q := 7) rfl (kB (fun c4 => ?_) (fun c4 => ?_))
  · refine v_if_eq h (t := 20) dX10_as_7 (by decide) (q := 10) rfl (fun c => absurd c (by decide)) (fun _ => ?_)
    refine v_iload_n h (i := 2) dX10_as_10 (q := 11) rfl rfl 2 rfl ?_
    refine v_iconst h (v := 0) dX10_as_11 (q := 12) rfl (by decide) ?_
    refine v_bipush h (v := 6) dX10_as_12 (q := 14) rfl (by decide) ?_
    refine v_callS h (As := [.int kind, .int 0, .int 6]) (rest := []) (c_X10_within (v := kind) (l := 0) (m := 6)) cal_X10_within m925 m924 ⟨rfl, rfl, Nat.le_of_ble_eq_true rfl, Nat.le_of_ble_eq_true rfl⟩ rfl rfl (Nat.le_of_ble_eq_true rfl) dX10_as_14 (q := 17) rfl (kB (fun c14 => ?_) (fun c14 => ?_))
    · refine v_if_ne h (t := 27) dX10_as_17 (by decide) (q := 20) rfl (fun _ => ?_) (fun c => absurd c (by decide))
      obtain ⟨n, hn, rfl⟩ := inN_nI (hR.isb.mp c4)
      have hb9 : n < 9 := by have := hR.af.2; omega
      obtain ⟨K, hK6, eK⟩ := (hR.1.2.1.1.2.2.2.2.2.2.1 n hb9).1
      refine v_aload_n h (i := 0) dX10_as_27 (q := 28) rfl rfl 0 rfl ?_
      refine v_iload_n h (i := 1) dX10_as_28 (q := 29) rfl rfl 1 rfl ?_
      refine v_iconst h (v := 0) dX10_as_29 (q := 30) rfl (by decide) ?_
      refine v_callV h (As := [.int (nI n), .int 0]) (rest := []) (c_X10_boatIs (σ := σ) (b := n) (f := 0) hm hb9 (by decide)) cal_X10_boatIs calV_X10_boatIs m961 ⟨rfl, rfl, Nat.le_of_ble_eq_true rfl, Nat.le_of_ble_eq_true rfl⟩ rfl hm.1.1 hm.1.2 ⟨_, _, rfl⟩ rfl (Nat.le_of_ble_eq_true rfl) dX10_as_30 (q := 33) rfl (kI ?_)
      rw [show (σ 1 (12 + 4 * n) : Int32) = nI K from ((hR.n (by omega)).trans eK)]
      refine v_istore_n h (i := 3) (ls1 := [(3, .int (nI K)), (0, .ref (b_ad w 0)), (1, .int (nI n)), (2, .int kind)]) dX10_as_33 (q := 34) rfl rfl (Nat.le_of_ble_eq_true rfl) rfl ?_
      exact lX10_as_34 hm hR h n K hb9 (by omega) eK ⟨hR.isb.mp c4, c14⟩ rfl 7 (nI K) (Or.inr ⟨K, by omega, rfl, by omega, Iff.rfl⟩)
    · refine v_if_ne h (t := 27) dX10_as_17 (by decide) (q := 20) rfl (fun c => absurd (by decide) c) (fun _ => ?_)
      refine v_aload_n h (i := 0) dX10_as_20 (q := 21) rfl rfl 0 rfl ?_
      refine v_ldc h (v := -1000000001) m931 dX10_as_21 (q := 23) rfl ?_
      refine v_callV h (As := [.int (-1000000001)]) (rest := []) (c_X10_finding (σ := σ) (e := 1) (v := -1000000001) hm (by decide) (by decide +kernel)) cal_X10_finding calV_X10_finding m932 ⟨rfl, rfl, Nat.le_of_ble_eq_true rfl, Nat.le_of_ble_eq_true rfl⟩ rfl hm.1.1 hm.1.2 ⟨_, _, rfl⟩ rfl (Nat.le_of_ble_eq_true rfl) dX10_as_23 (q := 26) rfl (kI ?_)
      exact v_iret h dX10_as_26 (pM_of (by unfold oAs; rw [if_neg (fun z => by first | exact c4 (hR.isb.mpr z.1) | exact c14 z.2), ref1]) (hR.err (by decide)))
  · refine v_if_eq h (t := 20) dX10_as_7 (by decide) (q := 10) rfl (fun _ => ?_) (fun c => absurd (by decide) c)
    refine v_aload_n h (i := 0) dX10_as_20 (q := 21) rfl rfl 0 rfl ?_
    refine v_ldc h (v := -1000000001) m931 dX10_as_21 (q := 23) rfl ?_
    refine v_callV h (As := [.int (-1000000001)]) (rest := []) (c_X10_finding (σ := σ) (e := 1) (v := -1000000001) hm (by decide) (by decide +kernel)) cal_X10_finding calV_X10_finding m932 ⟨rfl, rfl, Nat.le_of_ble_eq_true rfl, Nat.le_of_ble_eq_true rfl⟩ rfl hm.1.1 hm.1.2 ⟨_, _, rfl⟩ rfl (Nat.le_of_ble_eq_true rfl) dX10_as_23 (q := 26) rfl (kI ?_)
    exact v_iret h dX10_as_26 (pM_of (by unfold oAs; rw [if_neg (fun z => by first | exact c4 (hR.isb.mpr z.1) | exact c14 z.2), ref1]) (hR.err (by decide)))

set_option maxHeartbeats 4000000 in
set_option maxRecDepth 100000 in
theorem c_X10_listener {w : bw} {σ : bSt} {A : bA} {cell : Int32} (hm : sModel w) (hR : RQ σ A) : MV yX10_listener cX10_listener 3 (some .int) (rmm 2 42) w [.ref (b_ad w 0), .int cell] σ (pM (oListener cell A)) := by
  refine b_met (ls := [(0, .ref (b_ad w 0)), (1, .int cell)]) (by decide) (Nat.le_of_ble_eq_true rfl) rfl (fun x h => ?_)
  refine v_iload_n h (i := 1) dX10_listener_0 (q := 1) rfl rfl 1 rfl ?_
  refine v_callS h (As := [.int cell]) (rest := []) (c_X10_isCell (v := cell)) cal_X10_isCell m946 m945 ⟨rfl, rfl, Nat.le_of_ble_eq_true rfl, Nat.le_of_ble_eq_true rfl⟩ rfl rfl (Nat.le_of_ble_eq_true rfl) dX10_listener_1 (q := 4) rfl (kB (fun c1 => ?_) (fun c1 => ?_))
  · refine v_if_ne h (t := 14) dX10_listener_4 (by decide) (q := 7) rfl (fun _ => ?_) (fun c => absurd c (by decide))
    refine v_aload_n h (i := 0) dX10_listener_14 (q := 15) rfl rfl 0 rfl ?_
    refine v_get h (k := 0) (v := .ref (b_ad w 1)) cls10 hm.1.1 hm.1.2 (Nat.le_of_ble_eq_true rfl) m849 rfl dX10_listener_15 (q := 18) rfl ?_
    refine v_bipush h (v := 8) dX10_listener_18 (q := 20) rfl (by decide) ?_
    refine v_iald h (k := 8) hm.2.1.1 hm.2.1.2 (vp_in_nI (n := 8) (by decide) (by decide)) (by decide) dX10_listener_20 (q := 21) rfl ?_
    rw [show (σ 1 8 : Int32) = nI (liN A.1.1) from hR.li.1]
    refine v_istore_n h (i := 2) (ls1 := [(2, .int (nI (liN A.1.1))), (0, .ref (b_ad w 0)), (1, .int cell)]) dX10_listener_21 (q := 22) rfl rfl (Nat.le_of_ble_eq_true rfl) rfl ?_
    refine v_iload_n h (i := 2) dX10_listener_22 (q := 23) rfl rfl 0 rfl ?_
    refine v_bipush h (v := 6) dX10_listener_23 (q := 25) rfl (by decide) ?_
    refine v_icmp_ne h (t := 35) dX10_listener_25 (by decide) (q := 28) rfl (fun c25 => ?_) (fun c25 => ?_)
    · have hli := hR.li.2
      have hl6 : liN A.1.1 < 6 := by
        rcases (show liN A.1.1 < 6 ∨ liN A.1.1 = 6 by omega) with z | z
        · exact z
        · exact absurd (by rw [z]; rfl) c25
      have hI0 := hR.1.2.1
      have h1 := hR.up1 (k := 48 + 3 * liN A.1.1) (by omega) (hI0.lcell hl6 (cell_w c1))
      have h2 := h1.up1 (k := 49 + 3 * liN A.1.1) (v := 0) (by omega) (h1.1.2.1.ltime hl6 ⟨0, by omega, rfl⟩)
      have h3 := h2.up1 (k := 50 + 3 * liN A.1.1) (v := 50) (by omega) (h2.1.2.1.lcoin hl6 ⟨50, by omega, rfl⟩)
      have h4 := h3.up1 (k := 8) (by omega) (h3.1.2.1.n8 ⟨liN A.1.1 + 1, by omega, rfl⟩)
      refine v_aload_n h (i := 0) dX10_listener_35 (q := 36) rfl rfl 1 rfl ?_
      refine v_get h (k := 0) (v := .ref (b_ad w 1)) cls10 hm.1.1 hm.1.2 (Nat.le_of_ble_eq_true rfl) m849 rfl dX10_listener_36 (q := 39) rfl ?_
      refine v_bipush h (v := 48) dX10_listener_39 (q := 41) rfl (by decide) ?_
      refine v_iconst h (v := 3) dX10_listener_41 (q := 42) rfl (by decide) ?_
      refine v_iload_n h (i := 2) dX10_listener_42 (q := 43) rfl rfl 0 rfl ?_
      refine v_imul h dX10_listener_43 (q := 44) rfl ?_
      rw [show (3 * (nI (liN A.1.1)) : Int32) = nI (3 * liN A.1.1) from (nI_mulN 3 _)]
      refine v_iadd h dX10_listener_44 (q := 45) rfl ?_
      rw [show (48 + (nI (3 * liN A.1.1)) : Int32) = nI (48 + 3 * liN A.1.1) from (nI_add 48 _)]
      refine v_iconst h (v := 0) dX10_listener_45 (q := 46) rfl (by decide) ?_
      refine v_iadd h dX10_listener_46 (q := 47) rfl ?_
      rw [show ((nI (48 + 3 * liN A.1.1)) + 0 : Int32) = nI (48 + 3 * liN A.1.1) from (by rw [show (0 : Int32) = nI 0 from rfl, nI_add, show 48 + 3 * liN A.1.1 + 0 = 48 + 3 * liN A.1.1 by omega])]
      refine v_iload_n h (i := 1) dX10_listener_47 (q := 48) rfl rfl 2 rfl ?_
      refine v_iast h (k := (48 + 3 * liN A.1.1)) hm.2.1.1 hm.2.1.2 (vp_in_nI (by omega) (by decide)) (nI_clamp (by omega)) dX10_listener_48 (q := 49) rfl ?_
      refine v_aload_n h (i := 0) dX10_listener_49 (q := 50) rfl rfl 1 rfl ?_
      refine v_get h (k := 0) (v := .ref (b_ad w 1)) cls10 hm.1.1 hm.1.2 (Nat.le_of_ble_eq_true rfl) m849 rfl dX10_listener_50 (q := 53) rfl ?_
      refine v_bipush h (v := 48) dX10_listener_53 (q := 55) rfl (by decide) ?_
      refine v_iconst h (v := 3) dX10_listener_55 (q := 56) rfl (by decide) ?_
      refine v_iload_n h (i := 2) dX10_listener_56 (q := 57) rfl rfl 0 rfl ?_
      refine v_imul h dX10_listener_57 (q := 58) rfl ?_
      rw [show (3 * (nI (liN A.1.1)) : Int32) = nI (3 * liN A.1.1) from (nI_mulN 3 _)]
      refine v_iadd h dX10_listener_58 (q := 59) rfl ?_
      rw [show (48 + (nI (3 * liN A.1.1)) : Int32) = nI (48 + 3 * liN A.1.1) from (nI_add 48 _)]
      refine v_iconst h (v := 1) dX10_listener_59 (q := 60) rfl (by decide) ?_
      refine v_iadd h dX10_listener_60 (q := 61) rfl ?_
      rw [show ((nI (48 + 3 * liN A.1.1)) + 1 : Int32) = nI (49 + 3 * liN A.1.1) from (by rw [show (1 : Int32) = nI 1 from rfl, nI_add, show 48 + 3 * liN A.1.1 + 1 = 49 + 3 * liN A.1.1 by omega])]
      refine v_iconst h (v := 0) dX10_listener_61 (q := 62) rfl (by decide) ?_
      refine v_iast h (k := (49 + 3 * liN A.1.1)) hm.2.1.1 hm.2.1.2 (vp_in_nI (by omega) (by decide)) (nI_clamp (by omega)) dX10_listener_62 (q := 63) rfl ?_
      refine v_aload_n h (i := 0) dX10_listener_63 (q := 64) rfl rfl 1 rfl ?_
      refine v_get h (k := 0) (v := .ref (b_ad w 1)) cls10 hm.1.1 hm.1.2 (Nat.le_of_ble_eq_true rfl) m849 rfl dX10_listener_64 (q := 67) rfl ?_
      refine v_bipush h (v := 48) dX10_listener_67 (q := 69) rfl (by decide) ?_
      refine v_iconst h (v := 3) dX10_listener_69 (q := 70) rfl (by decide) ?_
      refine v_iload_n h (i := 2) dX10_listener_70 (q := 71) rfl rfl 0 rfl ?_
      refine v_imul h dX10_listener_71 (q := 72) rfl ?_
      rw [show (3 * (nI (liN A.1.1)) : Int32) = nI (3 * liN A.1.1) from (nI_mulN 3 _)]
      refine v_iadd h dX10_listener_72 (q := 73) rfl ?_
      rw [show (48 + (nI (3 * liN A.1.1)) : Int32) = nI (48 + 3 * liN A.1.1) from (nI_add 48 _)]
      refine v_iconst h (v := 2) dX10_listener_73 (q := 74) rfl (by decide) ?_
      refine v_iadd h dX10_listener_74 (q := 75) rfl ?_
      rw [show ((nI (48 + 3 * liN A.1.1)) + 2 : Int32) = nI (50 + 3 * liN A.1.1) from (by rw [show (2 : Int32) = nI 2 from rfl, nI_add, show 48 + 3 * liN A.1.1 + 2 = 50 + 3 * liN A.1.1 by omega])]
      refine v_bipush h (v := 50) dX10_listener_75 (q := 77) rfl (by decide) ?_
      refine v_iast h (k := (50 + 3 * liN A.1.1)) hm.2.1.1 hm.2.1.2 (vp_in_nI (by omega) (by decide)) (nI_clamp (by omega)) dX10_listener_77 (q := 78) rfl ?_
      refine v_aload_n h (i := 0) dX10_listener_78 (q := 79) rfl rfl 1 rfl ?_
      refine v_get h (k := 0) (v := .ref (b_ad w 1)) cls10 hm.1.1 hm.1.2 (Nat.le_of_ble_eq_true rfl) m849 rfl dX10_listener_79 (q := 82) rfl ?_
      refine v_bipush h (v := 8) dX10_listener_82 (q := 84) rfl (by decide) ?_
      refine v_dup2 h dX10_listener_84 (q := 85) rfl rfl rfl ?_
      refine v_iald h (k := 8) hm.2.1.1 hm.2.1.2 (vp_in_nI (n := 8) (by decide) (by decide)) (by decide) dX10_listener_85 (q := 86) rfl ?_
      rw [show ((b_up (b_up (b_up σ 1 ((48 + 3 * liN A.1.1)) cell) 1 ((49 + 3 * liN A.1.1)) 0) 1 ((50 + 3 * liN A.1.1)) 50) 1 8 : Int32) = nI (liN A.1.1) from (by rw [b_up_s, upd_n (by omega), b_up_s, upd_n (by omega), b_up_s, upd_n (by omega)]; exact hR.li.1)]
      refine v_iconst h (v := 1) dX10_listener_86 (q := 87) rfl (by decide) ?_
      refine v_iadd h dX10_listener_87 (q := 88) rfl ?_
      rw [show ((nI (liN A.1.1)) + 1 : Int32) = nI (liN A.1.1 + 1) from (nI_1 _)]
      refine v_iast h (k := 8) hm.2.1.1 hm.2.1.2 (vp_in_nI (n := 8) (by decide) (by decide)) (by decide) dX10_listener_88 (q := 89) rfl ?_
      refine v_iload_n h (i := 2) dX10_listener_89 (q := 90) rfl rfl 0 rfl ?_
      exact v_iret h dX10_listener_90 (pM_of (by unfold oListener; rw [if_pos (show wj cell 0 63 from c1), if_pos hl6]; rfl) h4)
    · refine v_aload_n h (i := 0) dX10_listener_28 (q := 29) rfl rfl 1 rfl ?_
      refine v_ldc h (v := -1000000004) m948 dX10_listener_29 (q := 31) rfl ?_
      refine v_callV h (As := [.int (-1000000004)]) (rest := []) (c_X10_finding (σ := σ) (e := 4) (v := -1000000004) hm (by decide) (by decide +kernel)) cal_X10_finding calV_X10_finding m932 ⟨rfl, rfl, Nat.le_of_ble_eq_true rfl, Nat.le_of_ble_eq_true rfl⟩ rfl hm.1.1 hm.1.2 ⟨_, _, rfl⟩ rfl (Nat.le_of_ble_eq_true rfl) dX10_listener_31 (q := 34) rfl (kI ?_)
      exact v_iret h dX10_listener_34 (pM_of (by unfold oListener; rw [if_pos (show wj cell 0 63 from c1), if_neg (fun z => by have e9 := nI_inj (a := liN A.1.1) (b := 6) (by have := hR.li.2; omega) (by decide) c25; omega), ref4]) (hR.err (by decide)))
  · refine v_if_ne h (t := 14) dX10_listener_4 (by decide) (q := 7) rfl (fun c => absurd (by decide) c) (fun _ => ?_)
    refine v_aload_n h (i := 0) dX10_listener_7 (q := 8) rfl rfl 0 rfl ?_
    refine v_ldc h (v := -1000000001) m931 dX10_listener_8 (q := 10) rfl ?_
    refine v_callV h (As := [.int (-1000000001)]) (rest := []) (c_X10_finding (σ := σ) (e := 1) (v := -1000000001) hm (by decide) (by decide +kernel)) cal_X10_finding calV_X10_finding m932 ⟨rfl, rfl, Nat.le_of_ble_eq_true rfl, Nat.le_of_ble_eq_true rfl⟩ rfl hm.1.1 hm.1.2 ⟨_, _, rfl⟩ rfl (Nat.le_of_ble_eq_true rfl) dX10_listener_10 (q := 13) rfl (kI ?_)
    exact v_iret h dX10_listener_13 (pM_of (by unfold oListener; rw [if_neg (fun z => by first | exact c1 z), ref1]) (hR.err (by decide)))

set_option maxHeartbeats 4000000 in
set_option maxRecDepth 100000 in
theorem c_X10_row {w : bw} {σ : bSt} {A : bA} {l cell : Int32} (hm : sModel w) (hR : RQ σ A) : MV yX10_row cX10_row 3 (some .int) (rmm 2 44) w [.ref (b_ad w 0), .int l, .int cell] σ (pM (oRow l cell A)) := by
  refine b_met (ls := [(0, .ref (b_ad w 0)), (1, .int l), (2, .int cell)]) (by decide) (Nat.le_of_ble_eq_true rfl) rfl (fun x h => ?_)
  refine v_aload_n h (i := 0) dX10_row_0 (q := 1) rfl rfl 0 rfl ?_
  refine v_iload_n h (i := 1) dX10_row_1 (q := 2) rfl rfl 1 rfl ?_
  refine v_bipush h (v := 8) dX10_row_2 (q := 4) rfl (by decide) ?_
  refine v_callV h (As := [.int l, .int 8]) (rest := []) (c_X10_is (σ := σ) (k := l) (c := 8) hm (by decide)) cal_X10_is calV_X10_is m953 ⟨rfl, rfl, Nat.le_of_ble_eq_true rfl, Nat.le_of_ble_eq_true rfl⟩ rfl hm.1.1 hm.1.2 ⟨_, _, rfl⟩ rfl (Nat.le_of_ble_eq_true rfl) dX10_row_4 (q := 7) rfl (kB (fun c4 => ?_) (fun c4 => ?_))
  · refine v_if_eq h (t := 33) dX10_row_7 (by decide) (q := 10) rfl (fun c => absurd c (by decide)) (fun _ => ?_)
    refine v_iload_n h (i := 2) dX10_row_10 (q := 11) rfl rfl 2 rfl ?_
    refine v_callS h (As := [.int cell]) (rest := []) (c_X10_isCell (v := cell)) cal_X10_isCell m946 m945 ⟨rfl, rfl, Nat.le_of_ble_eq_true rfl, Nat.le_of_ble_eq_true rfl⟩ rfl rfl (Nat.le_of_ble_eq_true rfl) dX10_row_11 (q := 14) rfl (kB (fun c11 => ?_) (fun c11 => ?_))
    · refine v_if_eq h (t := 33) dX10_row_14 (by decide) (q := 17) rfl (fun c => absurd c (by decide)) (fun _ => ?_)
      obtain ⟨n, hn, rfl⟩ := inN_nI (hR.isl.mp c4)
      have hl6 : n < 6 := by have := hR.li.2; omega
      refine v_aload_n h (i := 0) dX10_row_17 (q := 18) rfl rfl 0 rfl ?_
      refine v_bipush h (v := 48) dX10_row_18 (q := 20) rfl (by decide) ?_
      refine v_iconst h (v := 3) dX10_row_20 (q := 21) rfl (by decide) ?_
      refine v_iload_n h (i := 1) dX10_row_21 (q := 22) rfl rfl 1 rfl ?_
      refine v_imul h dX10_row_22 (q := 23) rfl ?_
      rw [show (3 * (nI n) : Int32) = nI (3 * n) from (nI_mulN 3 _)]
      refine v_iadd h dX10_row_23 (q := 24) rfl ?_
      rw [show (48 + (nI (3 * n)) : Int32) = nI (48 + 3 * n) from (nI_add 48 _)]
      refine v_iconst h (v := 0) dX10_row_24 (q := 25) rfl (by decide) ?_
      refine v_iadd h dX10_row_25 (q := 26) rfl ?_
      rw [show ((nI (48 + 3 * n)) + 0 : Int32) = nI (48 + 3 * n) from (by rw [show (0 : Int32) = nI 0 from rfl, nI_add, show 48 + 3 * n + 0 = 48 + 3 * n by omega])]
      refine v_iload_n h (i := 2) dX10_row_26 (q := 27) rfl rfl 2 rfl ?_
      refine v_callV h (As := [.int (nI (48 + 3 * n)), .int cell]) (rest := []) (c_X10_putIn (σ := σ) (p := (48 + 3 * n)) (v := cell) hm (by omega)) cal_X10_putIn calV_X10_putIn m927 ⟨rfl, rfl, Nat.le_of_ble_eq_true rfl, Nat.le_of_ble_eq_true rfl⟩ rfl hm.1.1 hm.1.2 ⟨_, _, rfl⟩ rfl (Nat.le_of_ble_eq_true rfl) dX10_row_27 (q := 30) rfl (kI ?_)
      rw [show (σ 1 ((48 + 3 * n)) : Int32) = A.1.1 (48 + 3 * n) from (hR.n (by omega))]
      refine v_goto h (t := 39) dX10_row_30 (by decide) ?_
      exact v_iret h dX10_row_39 (pM_of (by unfold oRow; rw [if_pos ⟨hR.isl.mp c4, c11⟩, cl_nI (n := n) (by omega)]) (hR.up1 (by omega) (hR.1.2.1.lcell hl6 (cell_w c11))))
    · refine v_if_eq h (t := 33) dX10_row_14 (by decide) (q := 17) rfl (fun _ => ?_) (fun c => absurd (by decide) c)
      refine v_aload_n h (i := 0) dX10_row_33 (q := 34) rfl rfl 0 rfl ?_
      refine v_ldc h (v := -1000000001) m931 dX10_row_34 (q := 36) rfl ?_
      refine v_callV h (As := [.int (-1000000001)]) (rest := []) (c_X10_finding (σ := σ) (e := 1) (v := -1000000001) hm (by decide) (by decide +kernel)) cal_X10_finding calV_X10_finding m932 ⟨rfl, rfl, Nat.le_of_ble_eq_true rfl, Nat.le_of_ble_eq_true rfl⟩ rfl hm.1.1 hm.1.2 ⟨_, _, rfl⟩ rfl (Nat.le_of_ble_eq_true rfl) dX10_row_36 (q := 39) rfl (kI ?_)
      exact v_iret h dX10_row_39 (pM_of (by unfold oRow; rw [if_neg (fun z => by first | exact c4 (hR.isl.mpr z.1) | exact c11 z.2), ref1]) (hR.err (by decide)))
  · refine v_if_eq h (t := 33) dX10_row_7 (by decide) (q := 10) rfl (fun _ => ?_) (fun c => absurd (by decide) c)
    refine v_aload_n h (i := 0) dX10_row_33 (q := 34) rfl rfl 0 rfl ?_
    refine v_ldc h (v := -1000000001) m931 dX10_row_34 (q := 36) rfl ?_
    refine v_callV h (As := [.int (-1000000001)]) (rest := []) (c_X10_finding (σ := σ) (e := 1) (v := -1000000001) hm (by decide) (by decide +kernel)) cal_X10_finding calV_X10_finding m932 ⟨rfl, rfl, Nat.le_of_ble_eq_true rfl, Nat.le_of_ble_eq_true rfl⟩ rfl hm.1.1 hm.1.2 ⟨_, _, rfl⟩ rfl (Nat.le_of_ble_eq_true rfl) dX10_row_36 (q := 39) rfl (kI ?_)
    exact v_iret h dX10_row_39 (pM_of (by unfold oRow; rw [if_neg (fun z => by first | exact c4 (hR.isl.mpr z.1) | exact c11 z.2), ref1]) (hR.err (by decide)))

set_option maxHeartbeats 4000000 in
set_option maxRecDepth 100000 in
theorem c_X10_ofListener {w : bw} {σ : bSt} {A : bA} {l what : Int32} (hm : sModel w) (hR : RQ σ A) : MV yX10_ofListener cX10_ofListener 3 (some .int) (rmm 7 166) w [.ref (b_ad w 0), .int l, .int what] σ (pM (oOfListener l what A)) := by
  refine b_met (ls := [(0, .ref (b_ad w 0)), (1, .int l), (2, .int what)]) (by decide) (Nat.le_of_ble_eq_true rfl) rfl (fun x h => ?_)
  refine v_aload_n h (i := 0) dX10_ofListener_0 (q := 1) rfl rfl 0 rfl ?_
  refine v_iload_n h (i := 1) dX10_ofListener_1 (q := 2) rfl rfl 1 rfl ?_
  refine v_bipush h (v := 8) dX10_ofListener_2 (q := 4) rfl (by decide) ?_
  refine v_callV h (As := [.int l, .int 8]) (rest := []) (c_X10_is (σ := σ) (k := l) (c := 8) hm (by decide)) cal_X10_is calV_X10_is m953 ⟨rfl, rfl, Nat.le_of_ble_eq_true rfl, Nat.le_of_ble_eq_true rfl⟩ rfl hm.1.1 hm.1.2 ⟨_, _, rfl⟩ rfl (Nat.le_of_ble_eq_true rfl) dX10_ofListener_4 (q := 7) rfl (kB (fun c4 => ?_) (fun c4 => ?_))
  · refine v_if_eq h (t := 28) dX10_ofListener_7 (by decide) (q := 10) rfl (fun c => absurd c (by decide)) (fun _ => ?_)
    refine v_iload_n h (i := 2) dX10_ofListener_10 (q := 11) rfl rfl 2 rfl ?_
    refine v_iconst h (v := 0) dX10_ofListener_11 (q := 12) rfl (by decide) ?_
    refine v_iconst h (v := 3) dX10_ofListener_12 (q := 13) rfl (by decide) ?_
    refine v_callS h (As := [.int what, .int 0, .int 3]) (rest := []) (c_X10_within (v := what) (l := 0) (m := 3)) cal_X10_within m925 m924 ⟨rfl, rfl, Nat.le_of_ble_eq_true rfl, Nat.le_of_ble_eq_true rfl⟩ rfl rfl (Nat.le_of_ble_eq_true rfl) dX10_ofListener_13 (q := 16) rfl (kB (fun c13 => ?_) (fun c13 => ?_))
    · refine v_if_eq h (t := 28) dX10_ofListener_16 (by decide) (q := 19) rfl (fun c => absurd c (by decide)) (fun _ => ?_)
      obtain ⟨n, hn, rfl⟩ := inN_nI (hR.isl.mp c4)
      have hl6 : n < 6 := by have := hR.li.2; omega
      refine v_aload_n h (i := 0) dX10_ofListener_19 (q := 20) rfl rfl 0 rfl ?_
      refine v_iload_n h (i := 1) dX10_ofListener_20 (q := 21) rfl rfl 1 rfl ?_
      refine v_iload_n h (i := 2) dX10_ofListener_21 (q := 22) rfl rfl 2 rfl ?_
      refine v_callV h (As := [.int (nI n), .int what]) (rest := []) (c_X10_ofOne (σ := σ) (l := n) (what := what) (N := A.1.1) (T := A.1.2.1) hm hR.mw hn c13) cal_X10_ofOne calV_X10_ofOne m1029 ⟨rfl, rfl, Nat.le_of_ble_eq_true rfl, Nat.le_of_ble_eq_true rfl⟩ rfl hm.1.1 hm.1.2 ⟨_, _, rfl⟩ rfl (Nat.le_of_ble_eq_true rfl) dX10_ofListener_22 (q := 25) rfl (kR (fun r22 σ22 h22 => ?_))
      refine v_goto h (t := 34) dX10_ofListener_25 (by decide) ?_
      exact v_iret h dX10_ofListener_34 (pM_of (by unfold oOfListener; rw [if_pos ⟨hR.isl.mp c4, c13⟩, cl_nI (n := n) (by omega), ← h22.1]) (hR.sM h22.2.1 h22.2.2))
    · refine v_if_eq h (t := 28) dX10_ofListener_16 (by decide) (q := 19) rfl (fun _ => ?_) (fun c => absurd (by decide) c)
      refine v_aload_n h (i := 0) dX10_ofListener_28 (q := 29) rfl rfl 0 rfl ?_
      refine v_ldc h (v := -1000000001) m931 dX10_ofListener_29 (q := 31) rfl ?_
      refine v_callV h (As := [.int (-1000000001)]) (rest := []) (c_X10_finding (σ := σ) (e := 1) (v := -1000000001) hm (by decide) (by decide +kernel)) cal_X10_finding calV_X10_finding m932 ⟨rfl, rfl, Nat.le_of_ble_eq_true rfl, Nat.le_of_ble_eq_true rfl⟩ rfl hm.1.1 hm.1.2 ⟨_, _, rfl⟩ rfl (Nat.le_of_ble_eq_true rfl) dX10_ofListener_31 (q := 34) rfl (kI ?_)
      exact v_iret h dX10_ofListener_34 (pM_of (by unfold oOfListener; rw [if_neg (fun z => by first | exact c4 (hR.isl.mpr z.1) | exact c13 z.2), ref1]) (hR.err (by decide)))
  · refine v_if_eq h (t := 28) dX10_ofListener_7 (by decide) (q := 10) rfl (fun _ => ?_) (fun c => absurd (by decide) c)
    refine v_aload_n h (i := 0) dX10_ofListener_28 (q := 29) rfl rfl 0 rfl ?_
    refine v_ldc h (v := -1000000001) m931 dX10_ofListener_29 (q := 31) rfl ?_
    refine v_callV h (As := [.int (-1000000001)]) (rest := []) (c_X10_finding (σ := σ) (e := 1) (v := -1000000001) hm (by decide) (by decide +kernel)) cal_X10_finding calV_X10_finding m932 ⟨rfl, rfl, Nat.le_of_ble_eq_true rfl, Nat.le_of_ble_eq_true rfl⟩ rfl hm.1.1 hm.1.2 ⟨_, _, rfl⟩ rfl (Nat.le_of_ble_eq_true rfl) dX10_ofListener_31 (q := 34) rfl (kI ?_)
    exact v_iret h dX10_ofListener_34 (pM_of (by unfold oOfListener; rw [if_neg (fun z => by first | exact c4 (hR.isl.mpr z.1) | exact c13 z.2), ref1]) (hR.err (by decide)))

set_option maxHeartbeats 4000000 in
set_option maxRecDepth 100000 in
theorem c_X10_lag {w : bw} {σ : bSt} {A : bA} {b cell : Int32} (hm : sModel w) (hR : RQ σ A) : MV yX10_lag cX10_lag 3 (some .int) (rmm 5 118) w [.ref (b_ad w 0), .int b, .int cell] σ (pM (oLag b cell A)) := by
  refine b_met (ls := [(0, .ref (b_ad w 0)), (1, .int b), (2, .int cell)]) (by decide) (Nat.le_of_ble_eq_true rfl) rfl (fun x h => ?_)
  refine v_aload_n h (i := 0) dX10_lag_0 (q := 1) rfl rfl 0 rfl ?_
  refine v_iload_n h (i := 1) dX10_lag_1 (q := 2) rfl rfl 1 rfl ?_
  refine v_bipush h (v := 7) dX10_lag_2 (q := 4) rfl (by decide) ?_
  refine v_callV h (As := [.int b, .int 7]) (rest := []) (c_X10_is (σ := σ) (k := b) (c := 7) hm (by decide)) cal_X10_is calV_X10_is m953 ⟨rfl, rfl, Nat.le_of_ble_eq_true rfl, Nat.le_of_ble_eq_true rfl⟩ rfl hm.1.1 hm.1.2 ⟨_, _, rfl⟩ rfl (Nat.le_of_ble_eq_true rfl) dX10_lag_4 (q := 7) rfl (kB (fun c4 => ?_) (fun c4 => ?_))
  · refine v_if_eq h (t := 26) dX10_lag_7 (by decide) (q := 10) rfl (fun c => absurd c (by decide)) (fun _ => ?_)
    refine v_iload_n h (i := 2) dX10_lag_10 (q := 11) rfl rfl 2 rfl ?_
    refine v_callS h (As := [.int cell]) (rest := []) (c_X10_isCell (v := cell)) cal_X10_isCell m946 m945 ⟨rfl, rfl, Nat.le_of_ble_eq_true rfl, Nat.le_of_ble_eq_true rfl⟩ rfl rfl (Nat.le_of_ble_eq_true rfl) dX10_lag_11 (q := 14) rfl (kB (fun c11 => ?_) (fun c11 => ?_))
    · refine v_if_eq h (t := 26) dX10_lag_14 (by decide) (q := 17) rfl (fun c => absurd c (by decide)) (fun _ => ?_)
      obtain ⟨n, hn, rfl⟩ := inN_nI (hR.isb.mp c4)
      have hb9 : n < 9 := by have := hR.af.2; omega
      obtain ⟨y, hy, rfl⟩ := cell_w c11
      refine v_aload_n h (i := 0) dX10_lag_17 (q := 18) rfl rfl 0 rfl ?_
      refine v_iload_n h (i := 1) dX10_lag_18 (q := 19) rfl rfl 1 rfl ?_
      refine v_iload_n h (i := 2) dX10_lag_19 (q := 20) rfl rfl 2 rfl ?_
      refine v_callV h (As := [.int (nI n), .int (nI y)]) (rest := []) (c_X10_comes (σ := σ) (b := n) (y := y) (N := A.1.1) (T := A.1.2.1) hm hR.mw hn hy) cal_X10_comes calV_X10_comes m989 ⟨rfl, rfl, Nat.le_of_ble_eq_true rfl, Nat.le_of_ble_eq_true rfl⟩ rfl hm.1.1 hm.1.2 ⟨_, _, rfl⟩ rfl (Nat.le_of_ble_eq_true rfl) dX10_lag_20 (q := 23) rfl (kR (fun r20 σ20 h20 => ?_))
      refine v_goto h (t := 32) dX10_lag_23 (by decide) ?_
      exact v_iret h dX10_lag_32 (pM_of (by unfold oLag; rw [if_pos ⟨hR.isb.mp c4, c11⟩, cl_nI (n := n) (by omega), ← h20.1]) (hR.sM h20.2.1 h20.2.2))
    · refine v_if_eq h (t := 26) dX10_lag_14 (by decide) (q := 17) rfl (fun _ => ?_) (fun c => absurd (by decide) c)
      refine v_aload_n h (i := 0) dX10_lag_26 (q := 27) rfl rfl 0 rfl ?_
      refine v_ldc h (v := -1000000001) m931 dX10_lag_27 (q := 29) rfl ?_
      refine v_callV h (As := [.int (-1000000001)]) (rest := []) (c_X10_finding (σ := σ) (e := 1) (v := -1000000001) hm (by decide) (by decide +kernel)) cal_X10_finding calV_X10_finding m932 ⟨rfl, rfl, Nat.le_of_ble_eq_true rfl, Nat.le_of_ble_eq_true rfl⟩ rfl hm.1.1 hm.1.2 ⟨_, _, rfl⟩ rfl (Nat.le_of_ble_eq_true rfl) dX10_lag_29 (q := 32) rfl (kI ?_)
      exact v_iret h dX10_lag_32 (pM_of (by unfold oLag; rw [if_neg (fun z => by first | exact c4 (hR.isb.mpr z.1) | exact c11 z.2), ref1]) (hR.err (by decide)))
  · refine v_if_eq h (t := 26) dX10_lag_7 (by decide) (q := 10) rfl (fun _ => ?_) (fun c => absurd (by decide) c)
    refine v_aload_n h (i := 0) dX10_lag_26 (q := 27) rfl rfl 0 rfl ?_
    refine v_ldc h (v := -1000000001) m931 dX10_lag_27 (q := 29) rfl ?_
    refine v_callV h (As := [.int (-1000000001)]) (rest := []) (c_X10_finding (σ := σ) (e := 1) (v := -1000000001) hm (by decide) (by decide +kernel)) cal_X10_finding calV_X10_finding m932 ⟨rfl, rfl, Nat.le_of_ble_eq_true rfl, Nat.le_of_ble_eq_true rfl⟩ rfl hm.1.1 hm.1.2 ⟨_, _, rfl⟩ rfl (Nat.le_of_ble_eq_true rfl) dX10_lag_29 (q := 32) rfl (kI ?_)
    exact v_iret h dX10_lag_32 (pM_of (by unfold oLag; rw [if_neg (fun z => by first | exact c4 (hR.isb.mpr z.1) | exact c11 z.2), ref1]) (hR.err (by decide)))

set_option maxHeartbeats 4000000 in
set_option maxRecDepth 100000 in
theorem c_X10_law {w : bw} {σ : bSt} {A : bA} {use a b c : Int32} (hm : sModel w) (hR : RQ σ A) : MV yX10_law cX10_law 5 (some .int) (rmm 3 71) w [.ref (b_ad w 0), .int use, .int a, .int b, .int c] σ (pM (oLaw use a b c A)) := by
  refine b_met (ls := [(0, .ref (b_ad w 0)), (1, .int use), (2, .int a), (3, .int b), (4, .int c)]) (by decide) (Nat.le_of_ble_eq_true rfl) rfl (fun x h => ?_)
  refine v_iload_n h (i := 1) dX10_law_0 (q := 1) rfl rfl 1 rfl ?_
  refine v_iconst h (v := 0) dX10_law_1 (q := 2) rfl (by decide) ?_
  refine v_iconst h (v := 1) dX10_law_2 (q := 3) rfl (by decide) ?_
  refine v_callS h (As := [.int use, .int 0, .int 1]) (rest := []) (c_X10_within (v := use) (l := 0) (m := 1)) cal_X10_within m925 m924 ⟨rfl, rfl, Nat.le_of_ble_eq_true rfl, Nat.le_of_ble_eq_true rfl⟩ rfl rfl (Nat.le_of_ble_eq_true rfl) dX10_law_3 (q := 6) rfl (kB (fun c3 => ?_) (fun c3 => ?_))
  · refine v_if_eq h (t := 21) dX10_law_6 (by decide) (q := 9) rfl (fun c => absurd c (by decide)) (fun _ => ?_)
    obtain ⟨u, hu, rfl⟩ := wi_0 (n := 1) c3 rfl
    refine v_aload_n h (i := 0) dX10_law_9 (q := 10) rfl rfl 0 rfl ?_
    refine v_iload_n h (i := 1) dX10_law_10 (q := 11) rfl rfl 1 rfl ?_
    refine v_iload_n h (i := 2) dX10_law_11 (q := 12) rfl rfl 2 rfl ?_
    refine v_iload_n h (i := 3) dX10_law_12 (q := 13) rfl rfl 3 rfl ?_
    refine v_iload h (i := 4) dX10_law_13 (q := 15) rfl 4 rfl ?_
    refine v_callV h (As := [.int (nI u), .int a, .int b, .int c]) (rest := []) (c_X10_given (σ := σ) (u := u) (a := a) (b := b) (c := c) (T := A.1.2.1) hm (by omega) hR.1.2.2.1) cal_X10_given calV_X10_given m1002 ⟨rfl, rfl, Nat.le_of_ble_eq_true rfl, Nat.le_of_ble_eq_true rfl⟩ rfl hm.1.1 hm.1.2 ⟨_, _, rfl⟩ rfl (Nat.le_of_ble_eq_true rfl) dX10_law_15 (q := 18) rfl (kR (fun r15 σ15 h15 => ?_))
    refine v_goto h (t := 27) dX10_law_18 (by decide) ?_
    exact v_iret h dX10_law_27 (pM_of (by unfold oLaw; rw [if_pos (show wj (nI u) 0 1 from c3), ← h15.1]) (hR.sM (fun j _ q8 q9 => h15.2 j q8 q9) (hR.2.1.sc (h15.2 5 (by decide) (by decide)))))
  · refine v_if_eq h (t := 21) dX10_law_6 (by decide) (q := 9) rfl (fun _ => ?_) (fun c => absurd (by decide) c)
    refine v_aload_n h (i := 0) dX10_law_21 (q := 22) rfl rfl 0 rfl ?_
    refine v_ldc h (v := -1000000001) m931 dX10_law_22 (q := 24) rfl ?_
    refine v_callV h (As := [.int (-1000000001)]) (rest := []) (c_X10_finding (σ := σ) (e := 1) (v := -1000000001) hm (by decide) (by decide +kernel)) cal_X10_finding calV_X10_finding m932 ⟨rfl, rfl, Nat.le_of_ble_eq_true rfl, Nat.le_of_ble_eq_true rfl⟩ rfl hm.1.1 hm.1.2 ⟨_, _, rfl⟩ rfl (Nat.le_of_ble_eq_true rfl) dX10_law_24 (q := 27) rfl (kI ?_)
    exact v_iret h dX10_law_27 (pM_of (by unfold oLaw; rw [if_neg (fun z => by first | exact c3 z), ref1]) (hR.err (by decide)))

set_option maxHeartbeats 4000000 in
set_option maxRecDepth 100000 in
theorem c_X10_seed {w : bw} {σ : bSt} {A : bA} {v : Int32} (hm : sModel w) (hR : RQ σ A) : MV yX10_seed cX10_seed 2 (some .int) (rmm 1 23) w [.ref (b_ad w 0), .int v] σ (pM (oSeed v A)) := by
  refine b_met (ls := [(0, .ref (b_ad w 0)), (1, .int v)]) (by decide) (Nat.le_of_ble_eq_true rfl) rfl (fun x h => ?_)
  refine v_aload_n h (i := 0) dX10_seed_0 (q := 1) rfl rfl 0 rfl ?_
  refine v_bipush h (v := 11) dX10_seed_1 (q := 3) rfl (by decide) ?_
  refine v_iload_n h (i := 1) dX10_seed_3 (q := 4) rfl rfl 1 rfl ?_
  refine v_callV h (As := [.int 11, .int v]) (rest := []) (c_X10_putIn (σ := σ) (p := 11) (v := v) hm (by omega)) cal_X10_putIn calV_X10_putIn m927 ⟨rfl, rfl, Nat.le_of_ble_eq_true rfl, Nat.le_of_ble_eq_true rfl⟩ rfl hm.1.1 hm.1.2 ⟨_, _, rfl⟩ rfl (Nat.le_of_ble_eq_true rfl) dX10_seed_4 (q := 7) rfl (kI ?_)
  rw [show (σ 1 11 : Int32) = A.1.1 11 from (hR.n (by omega))]
  exact v_iret h dX10_seed_7 (pM_of (by unfold oSeed; rfl) (hR.up1 (by omega) hR.1.2.1.fog))

set_option maxHeartbeats 4000000 in
set_option maxRecDepth 100000 in
theorem c_X10_told {w : bw} {σ : bSt} {A : bA} {k : Int32} (hm : sModel w) (hR : RQ σ A) : MV yX10_told cX10_told 2 (some .int) (rmm 1 22) w [.ref (b_ad w 0), .int k] σ (pM (oTold k A)) := by
  refine b_met (ls := [(0, .ref (b_ad w 0)), (1, .int k)]) (by decide) (Nat.le_of_ble_eq_true rfl) rfl (fun x h => ?_)
  refine v_iload_n h (i := 1) dX10_told_0 (q := 1) rfl rfl 1 rfl ?_
  refine v_iconst h (v := 1) dX10_told_1 (q := 2) rfl (by decide) ?_
  refine v_iconst h (v := 5) dX10_told_2 (q := 3) rfl (by decide) ?_
  refine v_callS h (As := [.int k, .int 1, .int 5]) (rest := []) (c_X10_within (v := k) (l := 1) (m := 5)) cal_X10_within m925 m924 ⟨rfl, rfl, Nat.le_of_ble_eq_true rfl, Nat.le_of_ble_eq_true rfl⟩ rfl rfl (Nat.le_of_ble_eq_true rfl) dX10_told_3 (q := 6) rfl (kB (fun c3 => ?_) (fun c3 => ?_))
  · refine v_if_eq h (t := 18) dX10_told_6 (by decide) (q := 9) rfl (fun c => absurd c (by decide)) (fun _ => ?_)
    obtain ⟨i, hi1, hi5, rfl⟩ := wi_1 (n := 5) c3 rfl
    refine v_aload_n h (i := 0) dX10_told_9 (q := 10) rfl rfl 0 rfl ?_
    refine v_get h (k := 4) (v := .ref (b_ad w 4)) cls10 hm.1.1 hm.1.2 (Nat.le_of_ble_eq_true rfl) m853 rfl dX10_told_10 (q := 13) rfl ?_
    refine v_iload_n h (i := 1) dX10_told_13 (q := 14) rfl rfl 1 rfl ?_
    refine v_iald h (k := i) hm.2.2.2.2.1.1 hm.2.2.2.2.1.2 (vp_in_nI (by omega) (by decide)) (nI_clamp (by omega)) dX10_told_14 (q := 15) rfl ?_
    rw [show (σ 4 i : Int32) = A.2.2.2.1 i from (hR.er (by omega))]
    refine v_goto h (t := 24) dX10_told_15 (by decide) ?_
    exact v_iret h dX10_told_24 (pM_of (by unfold oTold; rw [if_pos (show wj (nI i) 1 5 from c3), cl_nI (n := i) (by omega)]) hR)
  · refine v_if_eq h (t := 18) dX10_told_6 (by decide) (q := 9) rfl (fun _ => ?_) (fun c => absurd (by decide) c)
    refine v_aload_n h (i := 0) dX10_told_18 (q := 19) rfl rfl 0 rfl ?_
    refine v_ldc h (v := -1000000001) m931 dX10_told_19 (q := 21) rfl ?_
    refine v_callV h (As := [.int (-1000000001)]) (rest := []) (c_X10_finding (σ := σ) (e := 1) (v := -1000000001) hm (by decide) (by decide +kernel)) cal_X10_finding calV_X10_finding m932 ⟨rfl, rfl, Nat.le_of_ble_eq_true rfl, Nat.le_of_ble_eq_true rfl⟩ rfl hm.1.1 hm.1.2 ⟨_, _, rfl⟩ rfl (Nat.le_of_ble_eq_true rfl) dX10_told_21 (q := 24) rfl (kI ?_)
    exact v_iret h dX10_told_24 (pM_of (by unfold oTold; rw [if_neg (fun z => by first | exact c3 z), ref1]) (hR.err (by decide)))
