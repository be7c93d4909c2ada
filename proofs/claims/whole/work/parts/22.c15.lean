theorem RM_all {w : bw} {σ : bSt} {me n use : Nat} (hs : sReader w me) (hn : σ me 2 = nI n) (hn5 : n ≤ 50) (hu : σ me 4 = nI use) (hu2 : use < 2) : ∀ f, RM w σ me n use yX5_readQ cX5_readQ 2 0 f ∧ RM w σ me n use yX5_readP cX5_readP 4 1 f ∧ RM w σ me n use yX5_readS cX5_readS 4 2 f ∧ RM w σ me n use yX5_readB cX5_readB 3 3 f ∧ RM w σ me n use yX5_readA cX5_readA 3 4 f ∧ RM w σ me n use yX5_readT cX5_readT 3 5 f
  | 0 => ⟨fun _ _ _ h => absurd h (by omega), fun _ _ _ h => absurd h (by omega), fun _ _ _ h => absurd h (by omega), fun _ _ _ h => absurd h (by omega), fun _ _ _ h => absurd h (by omega), fun _ _ _ h => absurd h (by omega)⟩
  | f + 1 => by
    obtain ⟨hQ, hP, hS, hB, hA, hT⟩ := RM_all hs hn hn5 hu hu2 f
    exact ⟨fun o S ho h hp hl => c_X5_readQ hs hn hn5 hu hu2 hQ hT ho h hp hl, fun o S ho h hp hl => c_X5_readP hs hn hn5 hu hu2 hQ ho h hp hl, fun o S ho h hp hl => c_X5_readS hs hn hn5 hu hu2 hP ho h hp hl, fun o S ho h hp hl => c_X5_readB hs hn hn5 hu hu2 hS ho h hp hl, fun o S ho h hp hl => c_X5_readA hs hn hn5 hu hu2 hB ho h hp hl, fun o S ho h hp hl => c_X5_readT hs hn hn5 hu hu2 hA ho h hp hl⟩
theorem byR_cpy {f g : Nat → Int32} {n : Nat} : byR (va_cpy f g 0 0 n) n = byR f n := by
  funext p
  unfold byR
  by_cases c : p < n
  · rw [if_pos c, if_pos c]
    unfold va_cpy
    rw [if_pos ⟨Nat.zero_le _, by omega⟩]
    simp
  · rw [if_neg c, if_neg c]
/-- the Reader with the tape's n bytes and a use -/
def rdB (σ : bSt) (me T n u : Nat) : bSt := b_up (b_set (b_up σ me 2 (nI n)) (me + 4) (va_cpy (σ T) (σ (me + 4)) 0 0 n)) me 4 (nI u)
def rdR (σ : bSt) (T n u : Nat) (g : Nat → Int32) : Bool × bR := prR (byR (σ T) n) u 36 5 0 (0, 0, g)
theorem rdB_st {σ : bSt} {me T n u : Nat} (hT : T ≠ me) : b_up (b_up (b_up (b_set (b_up σ me 2 (nI n)) (me + 4) (va_cpy (b_up σ me 2 (nI n) T) (b_up σ me 2 (nI n) (me + 4)) 0 0 n)) me 3 0) me 4 (nI u)) (me + 1) 0 0 = RS (rdB σ me T n u) me (0, 0, σ (me + 2)) := by
  rw [b_up_n hT, b_up_n (show me + 4 ≠ me by omega)]
  refine RS_ext (fun k => ?_) (fun k => ?_) ?_ (fun j h0 h1 h2 => ?_)
  · rw [b_up_n (by omega), b_up_s, b_up_s, b_set_n (by omega), b_up_s]
    unfold RS rdB
    rw [b_up_s, b_up_n (by omega), b_set_n (by omega), b_up_s, b_set_n (by omega), b_up_s]
    unfold upd
    by_cases e : k = 4
    · subst e; rfl
    · by_cases e3 : k = 3
      · subst e3; rfl
      · rw [if_neg e, if_neg e3, if_neg e3, if_neg e]
  · rw [b_up_s, b_up_n (by omega), b_up_n (by omega), b_set_n (by omega), b_up_n (by omega)]
    unfold RS rdB
    rw [b_up_n (by omega), b_up_s, b_set_n (by omega), b_up_n (by omega), b_set_n (by omega), b_up_n (by omega)]
    rfl
  · rw [b_up_n (by omega), b_up_n (by omega), b_up_n (by omega), b_set_n (by omega), b_up_n (by omega)]
  · unfold rdB
    rw [b_up_n h1, b_up_n h0, b_up_n h0, b_up_n h0]

theorem min_chain {n : Nat} (h : n ≤ 50) : imax 0 (imin (nI n) (imin 50 50)) = nI n := by
  rw [show (50 : Int32) = nI 50 from rfl, imin_nI (by decide) (by decide), imin_nI (by omega) (by decide), show min n (min 50 50) = n by omega]
  unfold imax
  by_cases c : 0 < nI n
  · rw [if_pos c]
  · rw [if_neg c]
    rw [i_lt, nI_toInt (by omega)] at c
    have h0 : (0 : Int32).toInt = 0 := rfl
    rw [show n = 0 by omega]
    rfl

set_option maxHeartbeats 4000000 in
set_option maxRecDepth 100000 in
theorem c_X5_reads {w : bw} {σ : bSt} {me T n u : Nat} (hs : sReader w me) (hT : sI w T 50) (hTm : T ≠ me) (hn5 : n ≤ 50) (hu2 : u < 2) : MV yX5_reads cX5_reads 4 (some .boolean) (rmm 120 4000) w [.ref (b_ad w me), .ref (b_ad w T), .int (nI n), .int (nI u)] σ (pB2 ((rdR σ T n u (σ (me + 2))).1 = true ∧ (rdR σ T n u (σ (me + 2))).2.1 = n) (RS (rdB σ me T n u) me (rdR σ T n u (σ (me + 2))).2) (RS (rdB σ me T n u) me (rdR σ T n u (σ (me + 2))).2)) := by
  refine b_met (ls := [(0, .ref (b_ad w me)), (1, .ref (b_ad w T)), (2, .int (nI n)), (3, .int (nI u))]) (by decide) (Nat.le_of_ble_eq_true rfl) rfl (fun x h => ?_)
  have hb4 : rdB σ me T n u (me + 4) = va_cpy (σ T) (σ (me + 4)) 0 0 n := by
    unfold rdB
    rw [b_up_n (by omega), b_set_s]
  have hbn : rdB σ me T n u me 2 = nI n := by
    unfold rdB
    rw [b_up_s, upd_n (by decide), b_set_n (by omega), b_up_s, upd_s]
  have hbu : rdB σ me T n u me 4 = nI u := by
    unfold rdB
    rw [b_up_s, upd_s]
  have hby : byR (rdB σ me T n u (me + 4)) n = byR (σ T) n := by rw [hb4, byR_cpy]
  have hcT := (RM_all (σ := rdB σ me T n u) hs hbn hn5 hbu hu2 36).2.2.2.2.2 0 (0, 0, σ (me + 2)) (by omega) (by omega) (Nat.zero_le _) (Nat.le_refl _)
  rw [hby] at hcT
  refine v_aload_n h (i := 0) dX5_reads_0 (q := 1) rfl rfl 0 rfl ?_
  refine v_iconst h (v := 0) dX5_reads_1 (q := 2) rfl (by decide) ?_
  refine v_iload_n h (i := 2) dX5_reads_2 (q := 3) rfl rfl 2 rfl ?_
  refine v_aload_n h (i := 1) dX5_reads_3 (q := 4) rfl rfl 1 rfl ?_
  refine v_aleni h (v := 50) hT.1 hT.2 rfl dX5_reads_4 (q := 5) rfl ?_
  refine v_bipush h (v := 50) dX5_reads_5 (q := 7) rfl (by decide) ?_
  refine v_min h m478 m411 m13 m412 ⟨Nat.le_of_ble_eq_true rfl, Nat.le_of_ble_eq_true rfl⟩ dX5_reads_7 (q := 10) rfl ?_
  refine v_min h m478 m411 m13 m412 ⟨Nat.le_of_ble_eq_true rfl, Nat.le_of_ble_eq_true rfl⟩ dX5_reads_10 (q := 13) rfl ?_
  refine v_max h m479 m386 m13 m387 ⟨Nat.le_of_ble_eq_true rfl, Nat.le_of_ble_eq_true rfl⟩ dX5_reads_13 (q := 16) rfl ?_
  rw [show (imax 0 (imin (nI n) (imin 50 50)) : Int32) = nI n from (min_chain hn5)]
  refine v_put h (k := 2) cls5 hs.1.1 hs.1.2 (Nat.le_of_ble_eq_true rfl) rfl m223 rfl ⟨rfl, rfl⟩ dX5_reads_16 (q := 19) rfl ?_
  refine v_aload_n h (i := 1) dX5_reads_19 (q := 20) rfl rfl 1 rfl ?_
  refine v_iconst h (v := 0) dX5_reads_20 (q := 21) rfl (by decide) ?_
  refine v_aload_n h (i := 0) dX5_reads_21 (q := 22) rfl rfl 0 rfl ?_
  refine v_get h (k := 1) (v := .ref (b_ad w (me + 4))) cls5 hs.1.1 hs.1.2 (Nat.le_of_ble_eq_true rfl) m222 rfl dX5_reads_22 (q := 25) rfl ?_
  refine v_iconst h (v := 0) dX5_reads_25 (q := 26) rfl (by decide) ?_
  refine v_aload_n h (i := 0) dX5_reads_26 (q := 27) rfl rfl 0 rfl ?_
  refine v_get h (k := 2) (v := .int ((b_up σ me 2 (nI n)) me 2)) cls5 hs.1.1 hs.1.2 (Nat.le_of_ble_eq_true rfl) m223 rfl dX5_reads_27 (q := 30) rfl ?_
  rw [show ((b_up σ me 2 (nI n)) me 2 : Int32) = nI n from (by rw [b_up_s, upd_s])]
  refine v_acopy h hT hs.2.2 m480 m482 m481 m15 (by decide) (by decide) (nI_pos (by omega)) (by rw [nI_clamp (by omega)]; show 0 + n ≤ 50; omega) (by rw [nI_clamp (by omega)]; show 0 + n ≤ 50; omega) ⟨Nat.le_of_ble_eq_true rfl, Nat.le_of_ble_eq_true rfl⟩ dX5_reads_30 (q := 33) rfl ?_
  rw [show (b_set (b_up σ me 2 (nI n)) (me + 4) (va_cpy ((b_up σ me 2 (nI n)) T) ((b_up σ me 2 (nI n)) (me + 4)) (0 : Int32).toNatClampNeg (0 : Int32).toNatClampNeg (nI n).toNatClampNeg) : bSt) = b_set (b_up σ me 2 (nI n)) (me + 4) (va_cpy (b_up σ me 2 (nI n) T) (b_up σ me 2 (nI n) (me + 4)) 0 0 n) from (by rw [nI_clamp (by omega)]; rfl)]
  refine v_aload_n h (i := 0) dX5_reads_33 (q := 34) rfl rfl 0 rfl ?_
  refine v_iconst h (v := 0) dX5_reads_34 (q := 35) rfl (by decide) ?_
  refine v_put h (k := 3) cls5 hs.1.1 hs.1.2 (Nat.le_of_ble_eq_true rfl) rfl m224 rfl ⟨rfl, rfl⟩ dX5_reads_35 (q := 38) rfl ?_
  refine v_aload_n h (i := 0) dX5_reads_38 (q := 39) rfl rfl 0 rfl ?_
  refine v_iload_n h (i := 3) dX5_reads_39 (q := 40) rfl rfl 3 rfl ?_
  refine v_put h (k := 4) cls5 hs.1.1 hs.1.2 (Nat.le_of_ble_eq_true rfl) rfl m226 rfl ⟨rfl, rfl⟩ dX5_reads_40 (q := 43) rfl ?_
  refine v_aload_n h (i := 0) dX5_reads_43 (q := 44) rfl rfl 0 rfl ?_
  refine v_get h (k := 0) (v := .ref (b_ad w (me + 1))) cls5 hs.1.1 hs.1.2 (Nat.le_of_ble_eq_true rfl) m220 rfl dX5_reads_44 (q := 47) rfl ?_
  refine v_iconst h (v := 0) dX5_reads_47 (q := 48) rfl (by decide) ?_
  refine v_putN h (k := 0) cls2 hs.2.1.1.1 hs.2.1.1.2 (Nat.le_of_ble_eq_true rfl) rfl m42 rfl ⟨rfl, rfl⟩ dX5_reads_48 (q := 51) rfl ?_
  refine v_conv (σ2 := RS (rdB σ me T n u) me (0, 0, σ (me + 2))) (by rw [rdB_st hTm]; exact bEq_rfl) ?_
  refine v_aload_n h (i := 0) dX5_reads_51 (q := 52) rfl rfl 0 rfl ?_
  refine v_iconst h (v := 0) dX5_reads_52 (q := 53) rfl (by decide) ?_
  refine v_callV h (As := [.int 0]) (rest := []) ((hcT)) cal_X5_readT calV_X5_readT m483 ⟨rfl, rfl, Nat.le_of_ble_eq_true rfl, Nat.le_of_ble_eq_true rfl⟩ rfl hs.1.1 hs.1.2 ⟨_, _, rfl⟩ rfl (Nat.le_of_ble_eq_true rfl) dX5_reads_53 (q := 56) rfl (kB2 (fun c53 => ?_) (fun c53 => ?_))
  · refine v_if_eq h (t := 74) dX5_reads_56 (by decide) (q := 59) rfl (fun c => absurd c (by decide)) (fun _ => ?_)
    refine v_aload_n h (i := 0) dX5_reads_59 (q := 60) rfl rfl 0 rfl ?_
    refine v_get h (k := 3) (v := .int ((RS (rdB σ me T n u) me (rdR σ T n u (σ (me + 2))).2) me 3)) cls5 hs.1.1 hs.1.2 (Nat.le_of_ble_eq_true rfl) m224 rfl dX5_reads_60 (q := 63) rfl ?_
    rw [show ((RS (rdB σ me T n u) me (rdR σ T n u (σ (me + 2))).2) me 3 : Int32) = nI (rdR σ T n u (σ (me + 2))).2.1 from RS_3]
    refine v_aload_n h (i := 0) dX5_reads_63 (q := 64) rfl rfl 0 rfl ?_
    refine v_get h (k := 2) (v := .int ((RS (rdB σ me T n u) me (rdR σ T n u (σ (me + 2))).2) me 2)) cls5 hs.1.1 hs.1.2 (Nat.le_of_ble_eq_true rfl) m223 rfl dX5_reads_64 (q := 67) rfl ?_
    rw [show ((RS (rdB σ me T n u) me (rdR σ T n u (σ (me + 2))).2) me 2 : Int32) = nI n from (by rw [RS_f (by decide)]; exact hbn)]
    have hRn := (prR_pg (tp := σ T) (n := n) hu2 36 5 0 (0, 0, σ (me + 2)) (Nat.zero_le _)).2.1
    refine v_icmp_ne h (t := 74) dX5_reads_67 (by decide) (q := 70) rfl (fun c67 => ?_) (fun c67 => ?_)
    · refine v_iconst h (v := 0) dX5_reads_74 (q := 75) rfl (by decide) ?_
      exact v_zret h rfl dX5_reads_75 (pB2_0 (fun z => by first | exact c53 z.1 | exact c67 (congrArg nI z.2)) rfl)
    · refine v_iconst h (v := 1) dX5_reads_70 (q := 71) rfl (by decide) ?_
      refine v_goto h (t := 75) dX5_reads_71 (by decide) ?_
      exact v_zret h rfl dX5_reads_75 (pB2_1 ⟨c53, nI_inj (by show (prR _ _ _ _ _ _).2.1 < _; omega) (by omega) c67⟩ rfl)
  · refine v_if_eq h (t := 74) dX5_reads_56 (by decide) (q := 59) rfl (fun _ => ?_) (fun c => absurd (by decide) c)
    refine v_iconst h (v := 0) dX5_reads_74 (q := 75) rfl (by decide) ?_
    exact v_zret h rfl dX5_reads_75 (pB2_0 (fun z => by first | exact c53 z.1 | exact c67 (congrArg nI z.2)) rfl)
