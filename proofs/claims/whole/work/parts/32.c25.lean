theorem abv_tab : ∀ j : Nat, j < 7 → (j = 0 → abv (nI j) = -1) ∧ (¬ j = 0 → abv (nI j) = nI (abK j) ∧ abK j < 7) ∧ (abK (abK j) = 0) := by decide +kernel
theorem un_up {j : Nat} {o : Int32} (hj : j < 7) (h0 : ¬ j = 0) (h : ¬ nI j = o) : unN (nI j) o ↔ unN (nI (abK j)) o := by
  have t := abv_tab j hj
  have h7 := (t.2.1 h0).2
  unfold unN
  rw [cl_nI (by omega), cl_nI (by omega), t.2.2, show abK 0 = 0 from rfl]
  constructor
  · rintro (e | e | e)
    · exact absurd e.symm h
    · exact Or.inl e
    · exact Or.inr (Or.inl e)
  · rintro (e | e | e)
    · exact Or.inr (Or.inl e)
    · exact Or.inr (Or.inr e)
    · exact Or.inr (Or.inr e)
theorem un_0 {o : Int32} (h : ¬ nI 0 = o) : ¬ unN (nI 0) o := by
  unfold unN
  rw [cl_nI (by omega), show abK 0 = 0 from rfl, show abK 0 = 0 from rfl]
  rintro (e | e | e)
  all_goals exact h e.symm
/-- on the way up the kinds -/
def upK (k o one : Int32) (i : Nat) : Prop := (one = -1 ∧ ¬ unN k o) ∨ ∃ j, j < 7 ∧ one = nI j ∧ (unN (nI j) o ↔ unN k o)

theorem lv_up : ∀ j : Nat, j < 7 → ¬ j = 0 → lvK (abK j) + 1 = lvK j := by decide +kernel

set_option maxHeartbeats 4000000 in
set_option maxRecDepth 100000 in
theorem lX9_isUnder_4 {w : bw} {σ : bSt} {k : Nat} {o : Int32} (hk : k < 7) {x : bX} (h : Cx x w cX9_isUnder RX9 4 (some .boolean) (rmm 1 20)) : ∀ m i : Nat, i + m = 7 → ∀ one : Int32, (one = -1 ∧ ¬ unN (nI k) o) ∨ (∃ j, j < 7 ∧ one = nI j ∧ lvK j + i ≤ 2 ∧ (unN (nI j) o ↔ unN (nI k) o)) → V x w 4 (pB (unN (nI k) o) σ) 4 [(3, .int (nI i)), (2, .int one), (0, .int (nI k)), (1, .int o)] [] σ := by
  refine b_ind (fun m ih => ?_)
  intro i him one hup
  refine v_iload_n h (i := 3) dX9_isUnder_4 (q := 5) rfl rfl 0 rfl ?_
  refine v_gs h (b_stat1 h.ev).1 m370 dX9_isUnder_5 (q := 8) rfl ?_
  refine v_tlen h (v := 7) (b_stat1 h.ev).2 rfl dX9_isUnder_8 (q := 9) rfl ?_
  refine v_icmp_ge h (t := 34) dX9_isUnder_9 (by decide) (q := 12) rfl (fun c9 => ?_) (fun c9 => ?_)
  · refine v_iconst h (v := 0) dX9_isUnder_34 (q := 35) rfl (by decide) ?_
    exact v_zret h rfl dX9_isUnder_35 (pB0 (hup.elim (fun z => z.2) (fun ⟨j, hj, e, hl, hu⟩ => by exfalso; first | exact absurd c9 (nnle (k := 7) rfl (by omega) (by decide)) | (rw [e] at c13; exact nI_pos (by omega) c13))))
  · refine v_iload_n h (i := 2) dX9_isUnder_12 (q := 13) rfl rfl 1 rfl ?_
    refine v_if_lt h (t := 34) dX9_isUnder_13 (by decide) (q := 16) rfl (fun c13 => ?_) (fun c13 => ?_)
    · refine v_iconst h (v := 0) dX9_isUnder_34 (q := 35) rfl (by decide) ?_
      exact v_zret h rfl dX9_isUnder_35 (pB0 (hup.elim (fun z => z.2) (fun ⟨j, hj, e, hl, hu⟩ => by exfalso; first | exact absurd c9 (nnle (k := 7) rfl (by omega) (by decide)) | (rw [e] at c13; exact nI_pos (by omega) c13))))
    · have hi7 : i < 7 := nlt rfl (by omega) c9
      refine v_iload_n h (i := 2) dX9_isUnder_16 (q := 17) rfl rfl 1 rfl ?_
      refine v_iload_n h (i := 1) dX9_isUnder_17 (q := 18) rfl rfl 3 rfl ?_
      refine v_icmp_ne h (t := 23) dX9_isUnder_18 (by decide) (q := 21) rfl (fun c18 => ?_) (fun c18 => ?_)
      · refine v_iload_n h (i := 2) dX9_isUnder_23 (q := 24) rfl rfl 1 rfl ?_
        refine v_callS h (As := [.int one]) (rest := []) (c_X9_above (k := one)) cal_X9_above m373 m372 ⟨rfl, rfl, Nat.le_of_ble_eq_true rfl, Nat.le_of_ble_eq_true rfl⟩ rfl rfl (Nat.le_of_ble_eq_true rfl) dX9_isUnder_24 (q := 27) rfl (kI ?_)
        refine v_istore_n h (i := 2) (ls1 := [(2, .int (abv one)), (3, .int (nI i)), (0, .int (nI k)), (1, .int o)]) dX9_isUnder_27 (q := 28) rfl rfl (Nat.le_of_ble_eq_true rfl) rfl ?_
        refine v_iinc h (p := 1) (u := nI (i + 1)) (ls1 := [(3, .int (nI (i + 1))), (2, .int (abv one)), (0, .int (nI k)), (1, .int o)]) dX9_isUnder_28 (q := 31) rfl rfl (nI_1 i) (Nat.le_of_ble_eq_true rfl) rfl ?_
        refine v_goto h (t := 4) dX9_isUnder_31 (by decide) ?_
        exact ih (m - 1) (by omega) (i + 1) (by omega) _ (by
          rcases hup with ⟨e, _⟩ | ⟨j, hj, e, hl, hu⟩
          · exact absurd (show one < 0 by rw [e]; decide) (by assumption)
          · have hne : ¬ nI j = o := by rw [← e]; assumption
            have t := abv_tab j hj
            by_cases z : j = 0
            · refine Or.inl ⟨by rw [e]; exact t.1 z, fun q => ?_⟩
              subst z
              exact un_0 hne (hu.mpr q)
            · exact Or.inr ⟨abK j, (t.2.1 z).2, by rw [e]; exact (t.2.1 z).1, by have := lv_up j hj z; omega, (un_up hj z hne).symm.trans hu⟩)
      · refine v_iconst h (v := 1) dX9_isUnder_21 (q := 22) rfl (by decide) ?_
        exact v_zret h rfl dX9_isUnder_22 (pB1 (hup.elim (fun z => absurd (show one < 0 by rw [z.1]; decide) (by assumption)) (fun ⟨j, hj, e, hl, hu⟩ => hu.mp (Or.inl (by rw [← e]; exact Eq.symm (by assumption))))))
set_option maxHeartbeats 4000000 in
set_option maxRecDepth 100000 in
theorem c_X9_isUnder {w : bw} {σ : bSt} {k : Nat} {o : Int32} (hk : k < 7) : MV yX9_isUnder cX9_isUnder 4 (some .boolean) (rmm 1 20) w [.int (nI k), .int o] σ (pB (unN (nI k) o) σ) := by
  refine b_met (ls := [(0, .int (nI k)), (1, .int o)]) (by decide) (Nat.le_of_ble_eq_true rfl) rfl (fun x h => ?_)
  refine v_iload_n h (i := 0) dX9_isUnder_0 (q := 1) rfl rfl 0 rfl ?_
  refine v_istore_n h (i := 2) (ls1 := [(2, .int (nI k)), (0, .int (nI k)), (1, .int o)]) dX9_isUnder_1 (q := 2) rfl rfl (Nat.le_of_ble_eq_true rfl) rfl ?_
  refine v_iconst h (v := 0) dX9_isUnder_2 (q := 3) rfl (by decide) ?_
  refine v_istore_n h (i := 3) (ls1 := [(3, .int 0), (2, .int (nI k)), (0, .int (nI k)), (1, .int o)]) dX9_isUnder_3 (q := 4) rfl rfl (Nat.le_of_ble_eq_true rfl) rfl ?_
  exact lX9_isUnder_4 hk h 7 0 rfl (nI k) (Or.inr ⟨k, hk, rfl, by have := lvK_le k hk; omega, Iff.rfl⟩)

set_option maxHeartbeats 4000000 in
set_option maxRecDepth 100000 in
theorem c_X9_as {w : bw} {σ : bSt} {A : bA} {b kind : Int32} (hs : sOpera w) (hR : RC σ A) : MV yX9_as cX9_as 4 (some .int) (rmm 2 43) w [.ref (b_ad w 0), .int b, .int kind] σ (pA (oAs b kind A)) := by
  refine b_met (ls := [(0, .ref (b_ad w 0)), (1, .int b), (2, .int kind)]) (by decide) (Nat.le_of_ble_eq_true rfl) rfl (fun x h => ?_)
  refine v_aload_n h (i := 0) dX9_as_0 (q := 1) rfl rfl 0 rfl ?_
  refine v_get h (k := 1) (v := .ref (b_ad w 10)) cls9 hs.1.1 hs.1.2 (Nat.le_of_ble_eq_true rfl) m266 rfl dX9_as_1 (q := 4) rfl ?_
  refine v_getN h (k := 3) (v := .ref (b_ad w 11)) cls6 hs.2.2.1.1.1 hs.2.2.1.1.2 (Nat.le_of_ble_eq_true rfl) m120 rfl dX9_as_4 (q := 7) rfl ?_
  refine v_astore_n h (i := 3) (ls1 := [(3, .ref (b_ad w 11)), (0, .ref (b_ad w 0)), (1, .int b), (2, .int kind)]) dX9_as_7 (q := 8) rfl rfl (Nat.le_of_ble_eq_true rfl) rfl ?_
  refine v_aload_n h (i := 3) dX9_as_8 (q := 9) rfl rfl 0 rfl ?_
  refine v_iload_n h (i := 1) dX9_as_9 (q := 10) rfl rfl 2 rfl ?_
  refine v_callV h (As := [.int b]) (rest := []) (c_X0_hold (me := 11) (σ := σ) (b := b) hs.2.2.1.2.1) cal_X0_hold calV_X0_hold m342 ⟨rfl, rfl, Nat.le_of_ble_eq_true rfl, Nat.le_of_ble_eq_true rfl⟩ rfl hs.2.2.1.2.1.1.1 hs.2.2.1.2.1.1.2 ⟨_, _, rfl⟩ rfl (Nat.le_of_ble_eq_true rfl) dX9_as_10 (q := 13) rfl (kB (fun c10 => ?_) (fun c10 => ?_))
  · refine v_if_eq h (t := 26) dX9_as_13 (by decide) (q := 16) rfl (fun c => absurd c (by decide)) (fun _ => ?_)
    refine v_iload_n h (i := 2) dX9_as_16 (q := 17) rfl rfl 3 rfl ?_
    refine v_iconst h (v := 0) dX9_as_17 (q := 18) rfl (by decide) ?_
    refine v_bipush h (v := 6) dX9_as_18 (q := 20) rfl (by decide) ?_
    refine v_callS h (As := [.int kind, .int 0, .int 6]) (rest := []) (c_X9_within (v := kind) (l := 0) (m := 6)) cal_X9_within m313 m312 ⟨rfl, rfl, Nat.le_of_ble_eq_true rfl, Nat.le_of_ble_eq_true rfl⟩ rfl rfl (Nat.le_of_ble_eq_true rfl) dX9_as_20 (q := 23) rfl (kB (fun c20 => ?_) (fun c20 => ?_))
    · refine v_if_ne h (t := 32) dX9_as_23 (by decide) (q := 26) rfl (fun _ => ?_) (fun c => absurd c (by decide))
      obtain ⟨n, hn, rfl⟩ := inN_nI ((hold_iff hR).mp c10)
      have hb9 : n < 9 := by have := hR.af.2; omega
      obtain ⟨K, hK, eK⟩ := hR.kd hb9
      refine v_aload_n h (i := 3) dX9_as_32 (q := 33) rfl rfl 0 rfl ?_
      refine v_getN h (k := 1) (v := .ref (b_ad w 12)) cls0 hs.2.2.1.2.1.1.1 hs.2.2.1.2.1.1.2 (Nat.le_of_ble_eq_true rfl) m91 rfl dX9_as_33 (q := 36) rfl ?_
      refine v_iload_n h (i := 1) dX9_as_36 (q := 37) rfl rfl 2 rfl ?_
      refine v_iald h (k := n) hs.2.2.1.2.1.2.1.1 hs.2.2.1.2.1.2.1.2 (vp_in_nI hb9 (by decide)) (nI_clamp (by omega)) dX9_as_37 (q := 38) rfl ?_
      rw [show (σ 12 n : Int32) = nI K from (by rw [← eK]; exact hR.nb (f := 0) hb9 (by decide))]
      refine v_iload_n h (i := 2) dX9_as_38 (q := 39) rfl rfl 3 rfl ?_
      refine v_callS h (As := [.int (nI K), .int kind]) (rest := []) (c_X9_isUnder (k := K) (o := kind) (σ := σ) hK) cal_X9_isUnder m368 m367 ⟨rfl, rfl, Nat.le_of_ble_eq_true rfl, Nat.le_of_ble_eq_true rfl⟩ rfl rfl (Nat.le_of_ble_eq_true rfl) dX9_as_39 (q := 42) rfl (kB (fun c39 => ?_) (fun c39 => ?_))
      · refine v_if_ne h (t := 51) dX9_as_42 (by decide) (q := 45) rfl (fun _ => ?_) (fun c => absurd c (by decide))
        refine v_aload_n h (i := 3) dX9_as_51 (q := 52) rfl rfl 0 rfl ?_
        refine v_getN h (k := 2) (v := .ref (b_ad w 13)) cls0 hs.2.2.1.2.1.1.1 hs.2.2.1.2.1.1.2 (Nat.le_of_ble_eq_true rfl) m93 rfl dX9_as_52 (q := 55) rfl ?_
        refine v_iload_n h (i := 1) dX9_as_55 (q := 56) rfl rfl 2 rfl ?_
        refine v_iald h (k := n) hs.2.2.1.2.1.2.2.1.1 hs.2.2.1.2.1.2.2.1.2 (vp_in_nI hb9 (by decide)) (nI_clamp (by omega)) dX9_as_56 (q := 57) rfl ?_
        exact v_iret h dX9_as_57 (pA_of (by unfold oAs; rw [if_pos ⟨(hold_iff hR).mp c10, c20⟩, if_pos (by rw [cl_nI (n := n) (by omega), eK]; exact c39), cl_nI (by omega), hR.nb (f := 1) hb9 (by decide)]) hR)
      · refine v_if_ne h (t := 51) dX9_as_42 (by decide) (q := 45) rfl (fun c => absurd (by decide) c) (fun _ => ?_)
        refine v_aload_n h (i := 0) dX9_as_45 (q := 46) rfl rfl 1 rfl ?_
        refine v_iconst h (v := 5) dX9_as_46 (q := 47) rfl (by decide) ?_
        refine v_callV h (As := [.int 5]) (rest := []) (c_ref (σ := σ) hs (e := 5) (by decide) rfl) cal_X9_refuse calV_X9_refuse m315 ⟨rfl, rfl, Nat.le_of_ble_eq_true rfl, Nat.le_of_ble_eq_true rfl⟩ rfl hs.1.1 hs.1.2 ⟨_, _, rfl⟩ rfl (Nat.le_of_ble_eq_true rfl) dX9_as_47 (q := 50) rfl (kI ?_)
        exact v_iret h dX9_as_50 (pA_of (by unfold oAs; rw [if_pos ⟨(hold_iff hR).mp c10, c20⟩, if_neg (by rw [cl_nI (n := n) (by omega), eK]; exact c39)]; rfl) (hR.err (by decide)))
    · refine v_if_ne h (t := 32) dX9_as_23 (by decide) (q := 26) rfl (fun c => absurd (by decide) c) (fun _ => ?_)
      refine v_aload_n h (i := 0) dX9_as_26 (q := 27) rfl rfl 1 rfl ?_
      refine v_iconst h (v := 1) dX9_as_27 (q := 28) rfl (by decide) ?_
      refine v_callV h (As := [.int 1]) (rest := []) (c_ref (σ := σ) hs (e := 1) (by decide) rfl) cal_X9_refuse calV_X9_refuse m315 ⟨rfl, rfl, Nat.le_of_ble_eq_true rfl, Nat.le_of_ble_eq_true rfl⟩ rfl hs.1.1 hs.1.2 ⟨_, _, rfl⟩ rfl (Nat.le_of_ble_eq_true rfl) dX9_as_28 (q := 31) rfl (kI ?_)
      exact v_iret h dX9_as_31 (pA_of (by unfold oAs; rw [if_neg (fun z => by first | exact c10 ((hold_iff hR).mpr z.1) | exact c20 z.2)]; rfl) (hR.err (by decide)))
  · refine v_if_eq h (t := 26) dX9_as_13 (by decide) (q := 16) rfl (fun _ => ?_) (fun c => absurd (by decide) c)
    refine v_aload_n h (i := 0) dX9_as_26 (q := 27) rfl rfl 1 rfl ?_
    refine v_iconst h (v := 1) dX9_as_27 (q := 28) rfl (by decide) ?_
    refine v_callV h (As := [.int 1]) (rest := []) (c_ref (σ := σ) hs (e := 1) (by decide) rfl) cal_X9_refuse calV_X9_refuse m315 ⟨rfl, rfl, Nat.le_of_ble_eq_true rfl, Nat.le_of_ble_eq_true rfl⟩ rfl hs.1.1 hs.1.2 ⟨_, _, rfl⟩ rfl (Nat.le_of_ble_eq_true rfl) dX9_as_28 (q := 31) rfl (kI ?_)
    exact v_iret h dX9_as_31 (pA_of (by unfold oAs; rw [if_neg (fun z => by first | exact c10 ((hold_iff hR).mpr z.1) | exact c20 z.2)]; rfl) (hR.err (by decide)))
