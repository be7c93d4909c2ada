theorem lp_stop {sub : bR → Bool × bR} {op : Int32 → Bool} {bf : Nat → Int32} {T : bR} (h : ¬ op (bf T.1) = true) : ∀ k, lpR sub op bf k T = (true, T)
  | 0 => rfl
  | k + 1 => by rw [lpR, if_neg h]
theorem lp_fail {sub : bR → Bool × bR} {op : Int32 → Bool} {bf : Nat → Int32} {T : bR} {k : Nat} (h : op (bf T.1) = true) (h2 : ¬ (sub (advR T)).1 = true) : lpR sub op bf (k + 1) T = (false, (sub (advR T)).2) := by rw [lpR, if_pos h, if_neg h2]
theorem lp_go {sub : bR → Bool × bR} {op : Int32 → Bool} {bf : Nat → Int32} {T : bR} {k : Nat} (h : op (bf T.1) = true) (h2 : (sub (advR T)).1 = true) : lpR sub op bf (k + 1) T = lpR sub op bf k (emR (-(bf T.1)) (sub (advR T)).2) := by rw [lpR, if_pos h, if_pos h2]
theorem pr_lev {bf : Nat → Int32} {use f lev o : Nat} {S : bR} (h : lev ≠ 0) : prR bf use (f + 1) lev o S = if (prR bf use f (lev - 1) o S).1 = true then lpR (prR bf use f (lev - 1) o) (opR lev) bf (if lev = 3 then 1 else 50) (prR bf use f (lev - 1) o S).2 else (false, (prR bf use f (lev - 1) o S).2) := by rw [prR, if_neg h]
theorem rd_go {tp : Nat → Int32} {n use f lev o : Nat} {T : bR} (hu : use < 2) (hT : T.2.1 ≤ T.1) (hl : T.1 < n) : (prR (byR tp n) use f lev o (advR T)).2.1 ≤ n ∧ (prR (byR tp n) use f lev o (advR T)).2.2.1 + 1 ≤ (prR (byR tp n) use f lev o (advR T)).2.1 := by
  have h := prR_pg (tp := tp) (n := n) hu f lev o (advR T) hl
  refine ⟨h.2.1, ?_⟩
  have h3 := h.2.2
  unfold advR at h3 ⊢
  dsimp only at h3 ⊢
  omega
theorem rd_st {tp : Nat → Int32} {n use f lev o : Nat} {T : bR} (hu : use < 2) (hT : T.2.1 ≤ T.1) (hl : T.1 ≤ n) : (prR (byR tp n) use f lev o T).2.1 ≤ n ∧ (prR (byR tp n) use f lev o T).2.2.1 ≤ (prR (byR tp n) use f lev o T).2.1 := by
  have h := prR_pg (tp := tp) (n := n) hu f lev o T hl
  have h1 := h.1
  have h3 := h.2.2
  exact ⟨h.2.1, by omega⟩
/-- a level of the Reader with so much nesting to come -/
def RM (w : bw) (σ : bSt) (me n use : Nat) (y : MethodName) (c : ByteArray) (nL lev f : Nat) : Prop := ∀ (o : Nat) (S : bR), o ≤ 5 → 6 * (5 - o) + lev + 1 ≤ f → S.1 ≤ n → S.2.1 ≤ S.1 →
  MV y c nL (some .boolean) (rmm (3 * f + 4) (100 * f + 100)) w [.ref (b_ad w me), .int (nI o)] (RS σ me S) (pB2 ((prR (byR (σ (me + 4)) n) use f lev o S).1 = true) (RS σ me (prR (byR (σ (me + 4)) n) use f lev o S).2) (RS σ me (prR (byR (σ (me + 4)) n) use f lev o S).2))

set_option maxHeartbeats 4000000 in
set_option maxRecDepth 100000 in
theorem lX5_readT_12 {w : bw} {σ : bSt} {me n use f o : Nat} {S : bR} (hs : sReader w me) (hn : σ me 2 = nI n) (hn5 : n ≤ 50) (hu : σ me 4 = nI use) (hu2 : use < 2) (hsub : RM w σ me n use yX5_readA cX5_readA 3 4 f) (ho : o ≤ 5) (hne : 6 * (5 - o) + 5 + 1 ≤ f + 1) (hp : S.1 ≤ n) (hlen : S.2.1 ≤ S.1) {x : bX} (h : Cx x w cX5_readT RX5 3 (some .boolean) (rmm (3 * f + 7) (100 * f + 200))) : ∀ k i : Nat, i + k = 50 → ∀ T : bR, T.1 ≤ n → T.2.1 ≤ T.1 → lpR (prR (byR (σ (me + 4)) n) use f 4 o) (opR 5) (byR (σ (me + 4)) n) k T = prR (byR (σ (me + 4)) n) use (f + 1) 5 o S → V x w 3 (pB2 ((prR (byR (σ (me + 4)) n) use (f + 1) 5 o S).1 = true) (RS σ me (prR (byR (σ (me + 4)) n) use (f + 1) 5 o S).2) (RS σ me (prR (byR (σ (me + 4)) n) use (f + 1) 5 o S).2)) 12 [(2, .int (nI i)), (0, .ref (b_ad w me)), (1, .int (nI o))] [] (RS σ me T) := by
  refine b_ind (fun k ih => ?_)
  intro i hik T hTn hTl hlp
  refine v_iload_n h (i := 2) dX5_readT_12 (q := 13) rfl rfl 0 rfl ?_
  refine v_bipush h (v := 50) dX5_readT_13 (q := 15) rfl (by decide) ?_
  refine v_icmp_ge h (t := 52) dX5_readT_15 (by decide) (q := 18) rfl (fun c15 => ?_) (fun c15 => ?_)
  · refine v_iconst h (v := 1) dX5_readT_52 (q := 53) rfl (by decide) ?_
    exact v_zret h rfl dX5_readT_53 (pB2_1 (by rw [← hlp]; first | (rw [lp_stop (by intro z; exact c21 (by simpa [opR] using z))]) | (rw [show k = 0 by have := nge (k := 50) rfl (by omega) c15; omega]; rfl)) (by rw [← hlp]; first | (rw [lp_stop (by intro z; exact c21 (by simpa [opR] using z))]) | (rw [show k = 0 by have := nge (k := 50) rfl (by omega) c15; omega]; rfl)))
  · refine v_aload_n h (i := 0) dX5_readT_18 (q := 19) rfl rfl 1 rfl ?_
    refine v_bipush h (v := 124) dX5_readT_19 (q := 21) rfl (by decide) ?_
    refine v_callV h (As := [.int 124]) (rest := []) ((c_X5_takes (S := T) (c := 124) hs hn hn5 hu hu2 hTn)) cal_X5_takes calV_X5_takes m528 ⟨rfl, rfl, by dsimp only; omega, by dsimp only; omega⟩ rfl hs.1.1 hs.1.2 ⟨_, _, rfl⟩ rfl (Nat.le_of_ble_eq_true rfl) dX5_readT_21 (q := 24) rfl (kB2 (fun c21 => ?_) (fun c21 => ?_))
    · refine v_if_eq h (t := 52) dX5_readT_24 (by decide) (q := 27) rfl (fun c => absurd c (by decide)) (fun _ => ?_)
      have hop : opR 5 ((byR (σ (me + 4)) n) T.1) = true := by rw [c21]; decide
      have hTl1 : T.1 < n := byR_lt (opR_ne hop)
      have hik1 : i < 50 := nlt rfl (by omega) c15
      have hk1 : k = (k - 1) + 1 := by omega
      refine v_aload_n h (i := 0) dX5_readT_27 (q := 28) rfl rfl 1 rfl ?_
      refine v_iload_n h (i := 1) dX5_readT_28 (q := 29) rfl rfl 2 rfl ?_
      refine v_callV h (As := [.int (nI o)]) (rest := []) ((hsub o (advR T) ho (by omega) hTl1 (by show T.2.1 ≤ T.1 + 1; omega))) cal_X5_readA calV_X5_readA m487 ⟨rfl, rfl, by dsimp only; omega, by dsimp only; omega⟩ rfl hs.1.1 hs.1.2 ⟨_, _, rfl⟩ rfl (Nat.le_of_ble_eq_true rfl) dX5_readT_29 (q := 32) rfl (kB2 (fun c29 => ?_) (fun c29 => ?_))
      · refine v_if_ne h (t := 37) dX5_readT_32 (by decide) (q := 35) rfl (fun _ => ?_) (fun c => absurd c (by decide))
        have hgo := rd_go (tp := σ (me + 4)) (f := f) (lev := 4) (o := o) hu2 hTl hTl1
        refine v_aload_n h (i := 0) dX5_readT_37 (q := 38) rfl rfl 1 rfl ?_
        refine v_get h (k := 0) (v := .ref (b_ad w (me + 1))) cls5 hs.1.1 hs.1.2 (Nat.le_of_ble_eq_true rfl) m220 rfl dX5_readT_38 (q := 41) rfl ?_
        refine v_bipush h (v := -124) dX5_readT_41 (q := 43) rfl (by decide) ?_
        refine v_callV h (As := [.int (-124)]) (rest := []) ((c_addR (S := (prR (byR (σ (me + 4)) n) use f 4 o (advR T)).2) (v := -124) hs.2.1 (by omega))) cal_X2_add calV_X2_add m518 ⟨rfl, rfl, by dsimp only; omega, by dsimp only; omega⟩ rfl hs.2.1.1.1 hs.2.1.1.2 ⟨_, _, rfl⟩ rfl (Nat.le_of_ble_eq_true rfl) dX5_readT_43 (q := 46) rfl (kU ?_)
        refine v_iinc h (p := 0) (u := nI (i + 1)) (ls1 := [(2, .int (nI (i + 1))), (0, .ref (b_ad w me)), (1, .int (nI o))]) dX5_readT_46 (q := 49) rfl rfl (nI_1 i) (Nat.le_of_ble_eq_true rfl) rfl ?_
        refine v_goto h (t := 12) dX5_readT_49 (by decide) ?_
        exact ih (k - 1) (by omega) (i + 1) (by omega) (emR (-124) (prR (byR (σ (me + 4)) n) use f 4 o (advR T)).2) hgo.1 hgo.2 (by rw [← hlp, hk1, lp_go hop c29, c21]; rfl)
      · refine v_if_ne h (t := 37) dX5_readT_32 (by decide) (q := 35) rfl (fun c => absurd (by decide) c) (fun _ => ?_)
        refine v_iconst h (v := 0) dX5_readT_35 (q := 36) rfl (by decide) ?_
        exact v_zret h rfl dX5_readT_36 (pB2_0 (by rw [← hlp, hk1, lp_fail hop c29]; exact fun z => nomatch z) (by rw [← hlp, hk1, lp_fail hop c29]))
    · refine v_if_eq h (t := 52) dX5_readT_24 (by decide) (q := 27) rfl (fun _ => ?_) (fun c => absurd (by decide) c)
      refine v_iconst h (v := 1) dX5_readT_52 (q := 53) rfl (by decide) ?_
      exact v_zret h rfl dX5_readT_53 (pB2_1 (by rw [← hlp]; first | (rw [lp_stop (by intro z; exact c21 (by simpa [opR] using z))]) | (rw [show k = 0 by have := nge (k := 50) rfl (by omega) c15; omega]; rfl)) (by rw [← hlp]; first | (rw [lp_stop (by intro z; exact c21 (by simpa [opR] using z))]) | (rw [show k = 0 by have := nge (k := 50) rfl (by omega) c15; omega]; rfl)))
set_option maxHeartbeats 4000000 in
set_option maxRecDepth 100000 in
theorem c_X5_readT {w : bw} {σ : bSt} {me n use f o : Nat} {S : bR} (hs : sReader w me) (hn : σ me 2 = nI n) (hn5 : n ≤ 50) (hu : σ me 4 = nI use) (hu2 : use < 2) (hsub : RM w σ me n use yX5_readA cX5_readA 3 4 f) (ho : o ≤ 5) (hne : 6 * (5 - o) + 5 + 1 ≤ f + 1) (hp : S.1 ≤ n) (hlen : S.2.1 ≤ S.1) : MV yX5_readT cX5_readT 3 (some .boolean) (rmm (3 * f + 7) (100 * f + 200)) w [.ref (b_ad w me), .int (nI o)] (RS σ me S) (pB2 ((prR (byR (σ (me + 4)) n) use (f + 1) 5 o S).1 = true) (RS σ me (prR (byR (σ (me + 4)) n) use (f + 1) 5 o S).2) (RS σ me (prR (byR (σ (me + 4)) n) use (f + 1) 5 o S).2)) := by
  refine b_met (ls := [(0, .ref (b_ad w me)), (1, .int (nI o))]) (by decide) (Nat.le_of_ble_eq_true rfl) rfl (fun x h => ?_)
  refine v_aload_n h (i := 0) dX5_readT_0 (q := 1) rfl rfl 0 rfl ?_
  refine v_iload_n h (i := 1) dX5_readT_1 (q := 2) rfl rfl 1 rfl ?_
  refine v_callV h (As := [.int (nI o)]) (rest := []) ((hsub o S ho (by omega) hp hlen)) cal_X5_readA calV_X5_readA m487 ⟨rfl, rfl, by dsimp only; omega, by dsimp only; omega⟩ rfl hs.1.1 hs.1.2 ⟨_, _, rfl⟩ rfl (Nat.le_of_ble_eq_true rfl) dX5_readT_2 (q := 5) rfl (kB2 (fun c2 => ?_) (fun c2 => ?_))
  · refine v_if_ne h (t := 10) dX5_readT_5 (by decide) (q := 8) rfl (fun _ => ?_) (fun c => absurd c (by decide))
    refine v_iconst h (v := 0) dX5_readT_10 (q := 11) rfl (by decide) ?_
    refine v_istore_n h (i := 2) (ls1 := [(2, .int 0), (0, .ref (b_ad w me)), (1, .int (nI o))]) dX5_readT_11 (q := 12) rfl rfl (Nat.le_of_ble_eq_true rfl) rfl ?_
    exact lX5_readT_12 hs hn hn5 hu hu2 hsub ho hne hp hlen h 50 0 rfl (prR (byR (σ (me + 4)) n) use f 4 o S).2 (rd_st hu2 hlen hp).1 (rd_st hu2 hlen hp).2 (by rw [pr_lev (by decide), if_pos c2]; rfl)
  · refine v_if_ne h (t := 10) dX5_readT_5 (by decide) (q := 8) rfl (fun c => absurd (by decide) c) (fun _ => ?_)
    refine v_iconst h (v := 0) dX5_readT_8 (q := 9) rfl (by decide) ?_
    exact v_zret h rfl dX5_readT_9 (pB2_0 (by rw [pr_lev (by decide), if_neg c2]; exact fun z => nomatch z) (by rw [pr_lev (by decide), if_neg c2]))

set_option maxHeartbeats 4000000 in
set_option maxRecDepth 100000 in
theorem lX5_readA_12 {w : bw} {σ : bSt} {me n use f o : Nat} {S : bR} (hs : sReader w me) (hn : σ me 2 = nI n) (hn5 : n ≤ 50) (hu : σ me 4 = nI use) (hu2 : use < 2) (hsub : RM w σ me n use yX5_readB cX5_readB 3 3 f) (ho : o ≤ 5) (hne : 6 * (5 - o) + 4 + 1 ≤ f + 1) (hp : S.1 ≤ n) (hlen : S.2.1 ≤ S.1) {x : bX} (h : Cx x w cX5_readA RX5 3 (some .boolean) (rmm (3 * f + 7) (100 * f + 200))) : ∀ k i : Nat, i + k = 50 → ∀ T : bR, T.1 ≤ n → T.2.1 ≤ T.1 → lpR (prR (byR (σ (me + 4)) n) use f 3 o) (opR 4) (byR (σ (me + 4)) n) k T = prR (byR (σ (me + 4)) n) use (f + 1) 4 o S → V x w 3 (pB2 ((prR (byR (σ (me + 4)) n) use (f + 1) 4 o S).1 = true) (RS σ me (prR (byR (σ (me + 4)) n) use (f + 1) 4 o S).2) (RS σ me (prR (byR (σ (me + 4)) n) use (f + 1) 4 o S).2)) 12 [(2, .int (nI i)), (0, .ref (b_ad w me)), (1, .int (nI o))] [] (RS σ me T) := by
  refine b_ind (fun k ih => ?_)
  intro i hik T hTn hTl hlp
  refine v_iload_n h (i := 2) dX5_readA_12 (q := 13) rfl rfl 0 rfl ?_
  refine v_bipush h (v := 50) dX5_readA_13 (q := 15) rfl (by decide) ?_
  refine v_icmp_ge h (t := 52) dX5_readA_15 (by decide) (q := 18) rfl (fun c15 => ?_) (fun c15 => ?_)
  · refine v_iconst h (v := 1) dX5_readA_52 (q := 53) rfl (by decide) ?_
    exact v_zret h rfl dX5_readA_53 (pB2_1 (by rw [← hlp]; first | (rw [lp_stop (by intro z; exact c21 (by simpa [opR] using z))]) | (rw [show k = 0 by have := nge (k := 50) rfl (by omega) c15; omega]; rfl)) (by rw [← hlp]; first | (rw [lp_stop (by intro z; exact c21 (by simpa [opR] using z))]) | (rw [show k = 0 by have := nge (k := 50) rfl (by omega) c15; omega]; rfl)))
  · refine v_aload_n h (i := 0) dX5_readA_18 (q := 19) rfl rfl 1 rfl ?_
    refine v_bipush h (v := 38) dX5_readA_19 (q := 21) rfl (by decide) ?_
    refine v_callV h (As := [.int 38]) (rest := []) ((c_X5_takes (S := T) (c := 38) hs hn hn5 hu hu2 hTn)) cal_X5_takes calV_X5_takes m528 ⟨rfl, rfl, by dsimp only; omega, by dsimp only; omega⟩ rfl hs.1.1 hs.1.2 ⟨_, _, rfl⟩ rfl (Nat.le_of_ble_eq_true rfl) dX5_readA_21 (q := 24) rfl (kB2 (fun c21 => ?_) (fun c21 => ?_))
    · refine v_if_eq h (t := 52) dX5_readA_24 (by decide) (q := 27) rfl (fun c => absurd c (by decide)) (fun _ => ?_)
      have hop : opR 4 ((byR (σ (me + 4)) n) T.1) = true := by rw [c21]; decide
      have hTl1 : T.1 < n := byR_lt (opR_ne hop)
      have hik1 : i < 50 := nlt rfl (by omega) c15
      have hk1 : k = (k - 1) + 1 := by omega
      refine v_aload_n h (i := 0) dX5_readA_27 (q := 28) rfl rfl 1 rfl ?_
      refine v_iload_n h (i := 1) dX5_readA_28 (q := 29) rfl rfl 2 rfl ?_
      refine v_callV h (As := [.int (nI o)]) (rest := []) ((hsub o (advR T) ho (by omega) hTl1 (by show T.2.1 ≤ T.1 + 1; omega))) cal_X5_readB calV_X5_readB m491 ⟨rfl, rfl, by dsimp only; omega, by dsimp only; omega⟩ rfl hs.1.1 hs.1.2 ⟨_, _, rfl⟩ rfl (Nat.le_of_ble_eq_true rfl) dX5_readA_29 (q := 32) rfl (kB2 (fun c29 => ?_) (fun c29 => ?_))
      · refine v_if_ne h (t := 37) dX5_readA_32 (by decide) (q := 35) rfl (fun _ => ?_) (fun c => absurd c (by decide))
        have hgo := rd_go (tp := σ (me + 4)) (f := f) (lev := 3) (o := o) hu2 hTl hTl1
        refine v_aload_n h (i := 0) dX5_readA_37 (q := 38) rfl rfl 1 rfl ?_
        refine v_get h (k := 0) (v := .ref (b_ad w (me + 1))) cls5 hs.1.1 hs.1.2 (Nat.le_of_ble_eq_true rfl) m220 rfl dX5_readA_38 (q := 41) rfl ?_
        refine v_bipush h (v := -38) dX5_readA_41 (q := 43) rfl (by decide) ?_
        refine v_callV h (As := [.int (-38)]) (rest := []) ((c_addR (S := (prR (byR (σ (me + 4)) n) use f 3 o (advR T)).2) (v := -38) hs.2.1 (by omega))) cal_X2_add calV_X2_add m518 ⟨rfl, rfl, by dsimp only; omega, by dsimp only; omega⟩ rfl hs.2.1.1.1 hs.2.1.1.2 ⟨_, _, rfl⟩ rfl (Nat.le_of_ble_eq_true rfl) dX5_readA_43 (q := 46) rfl (kU ?_)
        refine v_iinc h (p := 0) (u := nI (i + 1)) (ls1 := [(2, .int (nI (i + 1))), (0, .ref (b_ad w me)), (1, .int (nI o))]) dX5_readA_46 (q := 49) rfl rfl (nI_1 i) (Nat.le_of_ble_eq_true rfl) rfl ?_
        refine v_goto h (t := 12) dX5_readA_49 (by decide) ?_
        exact ih (k - 1) (by omega) (i + 1) (by omega) (emR (-38) (prR (byR (σ (me + 4)) n) use f 3 o (advR T)).2) hgo.1 hgo.2 (by rw [← hlp, hk1, lp_go hop c29, c21]; rfl)
      · refine v_if_ne h (t := 37) dX5_readA_32 (by decide) (q := 35) rfl (fun c => absurd (by decide) c) (fun _ => ?_)
        refine v_iconst h (v := 0) dX5_readA_35 (q := 36) rfl (by decide) ?_
        exact v_zret h rfl dX5_readA_36 (pB2_0 (by rw [← hlp, hk1, lp_fail hop c29]; exact fun z => nomatch z) (by rw [← hlp, hk1, lp_fail hop c29]))
    · refine v_if_eq h (t := 52) dX5_readA_24 (by decide) (q := 27) rfl (fun _ => ?_) (fun c => absurd (by decide) c)
      refine v_iconst h (v := 1) dX5_readA_52 (q := 53) rfl (by decide) ?_
      exact v_zret h rfl dX5_readA_53 (pB2_1 (by rw [← hlp]; first | (rw [lp_stop (by intro z; exact c21 (by simpa [opR] using z))]) | (rw [show k = 0 by have := nge (k := 50) rfl (by omega) c15; omega]; rfl)) (by rw [← hlp]; first | (rw [lp_stop (by intro z; exact c21 (by simpa [opR] using z))]) | (rw [show k = 0 by have := nge (k := 50) rfl (by omega) c15; omega]; rfl)))
set_option maxHeartbeats 4000000 in
set_option maxRecDepth 100000 in
theorem c_X5_readA {w : bw} {σ : bSt} {me n use f o : Nat} {S : bR} (hs : sReader w me) (hn : σ me 2 = nI n) (hn5 : n ≤ 50) (hu : σ me 4 = nI use) (hu2 : use < 2) (hsub : RM w σ me n use yX5_readB cX5_readB 3 3 f) (ho : o ≤ 5) (hne : 6 * (5 - o) + 4 + 1 ≤ f + 1) (hp : S.1 ≤ n) (hlen : S.2.1 ≤ S.1) : MV yX5_readA cX5_readA 3 (some .boolean) (rmm (3 * f + 7) (100 * f + 200)) w [.ref (b_ad w me), .int (nI o)] (RS σ me S) (pB2 ((prR (byR (σ (me + 4)) n) use (f + 1) 4 o S).1 = true) (RS σ me (prR (byR (σ (me + 4)) n) use (f + 1) 4 o S).2) (RS σ me (prR (byR (σ (me + 4)) n) use (f + 1) 4 o S).2)) := by
  refine b_met (ls := [(0, .ref (b_ad w me)), (1, .int (nI o))]) (by decide) (Nat.le_of_ble_eq_true rfl) rfl (fun x h => ?_)
  refine v_aload_n h (i := 0) dX5_readA_0 (q := 1) rfl rfl 0 rfl ?_
  refine v_iload_n h (i := 1) dX5_readA_1 (q := 2) rfl rfl 1 rfl ?_
  refine v_callV h (As := [.int (nI o)]) (rest := []) ((hsub o S ho (by omega) hp hlen)) cal_X5_readB calV_X5_readB m491 ⟨rfl, rfl, by dsimp only; omega, by dsimp only; omega⟩ rfl hs.1.1 hs.1.2 ⟨_, _, rfl⟩ rfl (Nat.le_of_ble_eq_true rfl) dX5_readA_2 (q := 5) rfl (kB2 (fun c2 => ?_) (fun c2 => ?_))
  · refine v_if_ne h (t := 10) dX5_readA_5 (by decide) (q := 8) rfl (fun _ => ?_) (fun c => absurd c (by decide))
    refine v_iconst h (v := 0) dX5_readA_10 (q := 11) rfl (by decide) ?_
    refine v_istore_n h (i := 2) (ls1 := [(2, .int 0), (0, .ref (b_ad w me)), (1, .int (nI o))]) dX5_readA_11 (q := 12) rfl rfl (Nat.le_of_ble_eq_true rfl) rfl ?_
    exact lX5_readA_12 hs hn hn5 hu hu2 hsub ho hne hp hlen h 50 0 rfl (prR (byR (σ (me + 4)) n) use f 3 o S).2 (rd_st hu2 hlen hp).1 (rd_st hu2 hlen hp).2 (by rw [pr_lev (by decide), if_pos c2]; rfl)
  · refine v_if_ne h (t := 10) dX5_readA_5 (by decide) (q := 8) rfl (fun c => absurd (by decide) c) (fun _ => ?_)
    refine v_iconst h (v := 0) dX5_readA_8 (q := 9) rfl (by decide) ?_
    exact v_zret h rfl dX5_readA_9 (pB2_0 (by rw [pr_lev (by decide), if_neg c2]; exact fun z => nomatch z) (by rw [pr_lev (by decide), if_neg c2]))

set_option maxHeartbeats 4000000 in
set_option maxRecDepth 100000 in
theorem lX5_readS_12 {w : bw} {σ : bSt} {me n use f o : Nat} {S : bR} (hs : sReader w me) (hn : σ me 2 = nI n) (hn5 : n ≤ 50) (hu : σ me 4 = nI use) (hu2 : use < 2) (hsub : RM w σ me n use yX5_readP cX5_readP 4 1 f) (ho : o ≤ 5) (hne : 6 * (5 - o) + 2 + 1 ≤ f + 1) (hp : S.1 ≤ n) (hlen : S.2.1 ≤ S.1) {x : bX} (h : Cx x w cX5_readS RX5 4 (some .boolean) (rmm (3 * f + 7) (100 * f + 200))) : ∀ k i : Nat, i + k = 50 → ∀ T : bR, T.1 ≤ n → T.2.1 ≤ T.1 → lpR (prR (byR (σ (me + 4)) n) use f 1 o) (opR 2) (byR (σ (me + 4)) n) k T = prR (byR (σ (me + 4)) n) use (f + 1) 2 o S → V x w 4 (pB2 ((prR (byR (σ (me + 4)) n) use (f + 1) 2 o S).1 = true) (RS σ me (prR (byR (σ (me + 4)) n) use (f + 1) 2 o S).2) (RS σ me (prR (byR (σ (me + 4)) n) use (f + 1) 2 o S).2)) 12 [(2, .int (nI i)), (0, .ref (b_ad w me)), (1, .int (nI o))] [] (RS σ me T) := by
  refine b_ind (fun k ih => ?_)
  intro i hik T hTn hTl hlp
  refine v_iload_n h (i := 2) dX5_readS_12 (q := 13) rfl rfl 0 rfl ?_
  refine v_bipush h (v := 50) dX5_readS_13 (q := 15) rfl (by decide) ?_
  refine v_icmp_ge h (t := 72) dX5_readS_15 (by decide) (q := 18) rfl (fun c15 => ?_) (fun c15 => ?_)
  · refine v_iconst h (v := 1) dX5_readS_72 (q := 73) rfl (by decide) ?_
    exact v_zret h rfl dX5_readS_73 (pB2_1 (by rw [← hlp, show k = 0 by have := nge (k := 50) rfl (by omega) c15; omega]; rfl) (by rw [← hlp, show k = 0 by have := nge (k := 50) rfl (by omega) c15; omega]; rfl))
  · refine v_aload_n h (i := 0) dX5_readS_18 (q := 19) rfl rfl 1 rfl ?_
    refine v_callV h (As := []) (rest := []) ((c_X5_sign (S := T) hs hn hn5 hu hu2 hTn)) cal_X5_sign calV_X5_sign m507 ⟨rfl, rfl, by dsimp only; omega, by dsimp only; omega⟩ rfl hs.1.1 hs.1.2 ⟨_, _, rfl⟩ rfl (Nat.le_of_ble_eq_true rfl) dX5_readS_19 (q := 22) rfl (kI ?_)
    refine v_istore_n h (i := 3) (ls1 := [(3, .int ((byR (σ (me + 4)) n) T.1)), (2, .int (nI i)), (0, .ref (b_ad w me)), (1, .int (nI o))]) dX5_readS_22 (q := 23) rfl rfl (Nat.le_of_ble_eq_true rfl) rfl ?_
    refine v_iload_n h (i := 3) dX5_readS_23 (q := 24) rfl rfl 0 rfl ?_
    refine v_bipush h (v := 43) dX5_readS_24 (q := 26) rfl (by decide) ?_
    refine v_icmp_eq h (t := 37) dX5_readS_26 (by decide) (q := 29) rfl (fun c26 => ?_) (fun c26 => ?_)
    · have hop : opR 2 ((byR (σ (me + 4)) n) T.1) = true := by unfold opR; simp [*]
      have hTl1 : T.1 < n := byR_lt (opR_ne hop)
      have hik1 : i < 50 := nlt rfl (by omega) c15
      have hk1 : k = (k - 1) + 1 := by omega
      refine v_aload_n h (i := 0) dX5_readS_37 (q := 38) rfl rfl 2 rfl ?_
      refine v_dup h dX5_readS_38 (q := 39) rfl rfl ?_
      refine v_get h (k := 3) (v := .int ((RS σ me T) me 3)) cls5 hs.1.1 hs.1.2 (Nat.le_of_ble_eq_true rfl) m224 rfl dX5_readS_39 (q := 42) rfl ?_
      rw [show ((RS σ me T) me 3 : Int32) = nI T.1 from RS_3]
      refine v_iconst h (v := 1) dX5_readS_42 (q := 43) rfl (by decide) ?_
      refine v_iadd h dX5_readS_43 (q := 44) rfl ?_
      rw [show ((nI T.1) + 1 : Int32) = nI (T.1 + 1) from (nI_1 T.1)]
      refine v_put h (k := 3) cls5 hs.1.1 hs.1.2 (Nat.le_of_ble_eq_true rfl) rfl m224 rfl ⟨rfl, rfl⟩ dX5_readS_44 (q := 47) rfl ?_
      rw [show (b_up (RS σ me T) me 3 (nI (T.1 + 1)) : bSt) = RS σ me (advR T) from RS_adv]
      refine v_aload_n h (i := 0) dX5_readS_47 (q := 48) rfl rfl 2 rfl ?_
      refine v_iload_n h (i := 1) dX5_readS_48 (q := 49) rfl rfl 3 rfl ?_
      refine v_callV h (As := [.int (nI o)]) (rest := []) ((hsub o (advR T) ho (by omega) hTl1 (by show T.2.1 ≤ T.1 + 1; omega))) cal_X5_readP calV_X5_readP m499 ⟨rfl, rfl, by dsimp only; omega, by dsimp only; omega⟩ rfl hs.1.1 hs.1.2 ⟨_, _, rfl⟩ rfl (Nat.le_of_ble_eq_true rfl) dX5_readS_49 (q := 52) rfl (kB2 (fun c49 => ?_) (fun c49 => ?_))
      · refine v_if_ne h (t := 57) dX5_readS_52 (by decide) (q := 55) rfl (fun _ => ?_) (fun c => absurd c (by decide))
        have hgo := rd_go (tp := σ (me + 4)) (f := f) (lev := 1) (o := o) hu2 hTl hTl1
        refine v_aload_n h (i := 0) dX5_readS_57 (q := 58) rfl rfl 2 rfl ?_
        refine v_get h (k := 0) (v := .ref (b_ad w (me + 1))) cls5 hs.1.1 hs.1.2 (Nat.le_of_ble_eq_true rfl) m220 rfl dX5_readS_58 (q := 61) rfl ?_
        refine v_iload_n h (i := 3) dX5_readS_61 (q := 62) rfl rfl 0 rfl ?_
        refine v_ineg h dX5_readS_62 (q := 63) rfl ?_
        refine v_callV h (As := [.int (-((byR (σ (me + 4)) n) T.1))]) (rest := []) ((c_addR (S := (prR (byR (σ (me + 4)) n) use f 1 o (advR T)).2) (v := -((byR (σ (me + 4)) n) T.1)) hs.2.1 (by omega))) cal_X2_add calV_X2_add m518 ⟨rfl, rfl, by dsimp only; omega, by dsimp only; omega⟩ rfl hs.2.1.1.1 hs.2.1.1.2 ⟨_, _, rfl⟩ rfl (Nat.le_of_ble_eq_true rfl) dX5_readS_63 (q := 66) rfl (kU ?_)
        refine v_iinc h (p := 1) (u := nI (i + 1)) (ls1 := [(2, .int (nI (i + 1))), (3, .int ((byR (σ (me + 4)) n) T.1)), (0, .ref (b_ad w me)), (1, .int (nI o))]) dX5_readS_66 (q := 69) rfl rfl (nI_1 i) (Nat.le_of_ble_eq_true rfl) rfl ?_
        refine v_goto h (t := 12) dX5_readS_69 (by decide) ?_
        refine v_ls [0, 2, 3] (ls2 := [(2, .int (nI (i + 1))), (0, .ref (b_ad w me)), (1, .int (nI o))]) rfl ?_
        exact ih (k - 1) (by omega) (i + 1) (by omega) (emR (-((byR (σ (me + 4)) n) T.1)) (prR (byR (σ (me + 4)) n) use f 1 o (advR T)).2) hgo.1 hgo.2 (by rw [← hlp, hk1, lp_go hop c49]; rfl)
      · refine v_if_ne h (t := 57) dX5_readS_52 (by decide) (q := 55) rfl (fun c => absurd (by decide) c) (fun _ => ?_)
        refine v_iconst h (v := 0) dX5_readS_55 (q := 56) rfl (by decide) ?_
        exact v_zret h rfl dX5_readS_56 (pB2_0 (by rw [← hlp, hk1, lp_fail hop c49]; exact fun z => nomatch z) (by rw [← hlp, hk1, lp_fail hop c49]))
    · refine v_iload_n h (i := 3) dX5_readS_29 (q := 30) rfl rfl 0 rfl ?_
      refine v_bipush h (v := 45) dX5_readS_30 (q := 32) rfl (by decide) ?_
      refine v_icmp_eq h (t := 37) dX5_readS_32 (by decide) (q := 35) rfl (fun c32 => ?_) (fun c32 => ?_)
      · have hop : opR 2 ((byR (σ (me + 4)) n) T.1) = true := by unfold opR; simp [*]
        have hTl1 : T.1 < n := byR_lt (opR_ne hop)
        have hik1 : i < 50 := nlt rfl (by omega) c15
        have hk1 : k = (k - 1) + 1 := by omega
        refine v_aload_n h (i := 0) dX5_readS_37 (q := 38) rfl rfl 2 rfl ?_
        refine v_dup h dX5_readS_38 (q := 39) rfl rfl ?_
        refine v_get h (k := 3) (v := .int ((RS σ me T) me 3)) cls5 hs.1.1 hs.1.2 (Nat.le_of_ble_eq_true rfl) m224 rfl dX5_readS_39 (q := 42) rfl ?_
        rw [show ((RS σ me T) me 3 : Int32) = nI T.1 from RS_3]
        refine v_iconst h (v := 1) dX5_readS_42 (q := 43) rfl (by decide) ?_
        refine v_iadd h dX5_readS_43 (q := 44) rfl ?_
        rw [show ((nI T.1) + 1 : Int32) = nI (T.1 + 1) from (nI_1 T.1)]
        refine v_put h (k := 3) cls5 hs.1.1 hs.1.2 (Nat.le_of_ble_eq_true rfl) rfl m224 rfl ⟨rfl, rfl⟩ dX5_readS_44 (q := 47) rfl ?_
        rw [show (b_up (RS σ me T) me 3 (nI (T.1 + 1)) : bSt) = RS σ me (advR T) from RS_adv]
        refine v_aload_n h (i := 0) dX5_readS_47 (q := 48) rfl rfl 2 rfl ?_
        refine v_iload_n h (i := 1) dX5_readS_48 (q := 49) rfl rfl 3 rfl ?_
        refine v_callV h (As := [.int (nI o)]) (rest := []) ((hsub o (advR T) ho (by omega) hTl1 (by show T.2.1 ≤ T.1 + 1; omega))) cal_X5_readP calV_X5_readP m499 ⟨rfl, rfl, by dsimp only; omega, by dsimp only; omega⟩ rfl hs.1.1 hs.1.2 ⟨_, _, rfl⟩ rfl (Nat.le_of_ble_eq_true rfl) dX5_readS_49 (q := 52) rfl (kB2 (fun c49_1 => ?_) (fun c49_1 => ?_))
        · refine v_if_ne h (t := 57) dX5_readS_52 (by decide) (q := 55) rfl (fun _ => ?_) (fun c => absurd c (by decide))
          have hgo := rd_go (tp := σ (me + 4)) (f := f) (lev := 1) (o := o) hu2 hTl hTl1
          refine v_aload_n h (i := 0) dX5_readS_57 (q := 58) rfl rfl 2 rfl ?_
          refine v_get h (k := 0) (v := .ref (b_ad w (me + 1))) cls5 hs.1.1 hs.1.2 (Nat.le_of_ble_eq_true rfl) m220 rfl dX5_readS_58 (q := 61) rfl ?_
          refine v_iload_n h (i := 3) dX5_readS_61 (q := 62) rfl rfl 0 rfl ?_
          refine v_ineg h dX5_readS_62 (q := 63) rfl ?_
          refine v_callV h (As := [.int (-((byR (σ (me + 4)) n) T.1))]) (rest := []) ((c_addR (S := (prR (byR (σ (me + 4)) n) use f 1 o (advR T)).2) (v := -((byR (σ (me + 4)) n) T.1)) hs.2.1 (by omega))) cal_X2_add calV_X2_add m518 ⟨rfl, rfl, by dsimp only; omega, by dsimp only; omega⟩ rfl hs.2.1.1.1 hs.2.1.1.2 ⟨_, _, rfl⟩ rfl (Nat.le_of_ble_eq_true rfl) dX5_readS_63 (q := 66) rfl (kU ?_)
          refine v_iinc h (p := 1) (u := nI (i + 1)) (ls1 := [(2, .int (nI (i + 1))), (3, .int ((byR (σ (me + 4)) n) T.1)), (0, .ref (b_ad w me)), (1, .int (nI o))]) dX5_readS_66 (q := 69) rfl rfl (nI_1 i) (Nat.le_of_ble_eq_true rfl) rfl ?_
          refine v_goto h (t := 12) dX5_readS_69 (by decide) ?_
          refine v_ls [0, 2, 3] (ls2 := [(2, .int (nI (i + 1))), (0, .ref (b_ad w me)), (1, .int (nI o))]) rfl ?_
          exact ih (k - 1) (by omega) (i + 1) (by omega) (emR (-((byR (σ (me + 4)) n) T.1)) (prR (byR (σ (me + 4)) n) use f 1 o (advR T)).2) hgo.1 hgo.2 (by rw [← hlp, hk1, lp_go hop c49_1]; rfl)
        · refine v_if_ne h (t := 57) dX5_readS_52 (by decide) (q := 55) rfl (fun c => absurd (by decide) c) (fun _ => ?_)
          refine v_iconst h (v := 0) dX5_readS_55 (q := 56) rfl (by decide) ?_
          exact v_zret h rfl dX5_readS_56 (pB2_0 (by rw [← hlp, hk1, lp_fail hop c49_1]; exact fun z => nomatch z) (by rw [← hlp, hk1, lp_fail hop c49_1]))
      · refine v_iconst h (v := 1) dX5_readS_35 (q := 36) rfl (by decide) ?_
        exact v_zret h rfl dX5_readS_36 (pB2_1 (by rw [← hlp, lp_stop (by unfold opR; simp [*])]) (by rw [← hlp, lp_stop (by unfold opR; simp [*])]))
set_option maxHeartbeats 4000000 in
set_option maxRecDepth 100000 in
theorem c_X5_readS {w : bw} {σ : bSt} {me n use f o : Nat} {S : bR} (hs : sReader w me) (hn : σ me 2 = nI n) (hn5 : n ≤ 50) (hu : σ me 4 = nI use) (hu2 : use < 2) (hsub : RM w σ me n use yX5_readP cX5_readP 4 1 f) (ho : o ≤ 5) (hne : 6 * (5 - o) + 2 + 1 ≤ f + 1) (hp : S.1 ≤ n) (hlen : S.2.1 ≤ S.1) : MV yX5_readS cX5_readS 4 (some .boolean) (rmm (3 * f + 7) (100 * f + 200)) w [.ref (b_ad w me), .int (nI o)] (RS σ me S) (pB2 ((prR (byR (σ (me + 4)) n) use (f + 1) 2 o S).1 = true) (RS σ me (prR (byR (σ (me + 4)) n) use (f + 1) 2 o S).2) (RS σ me (prR (byR (σ (me + 4)) n) use (f + 1) 2 o S).2)) := by
  refine b_met (ls := [(0, .ref (b_ad w me)), (1, .int (nI o))]) (by decide) (Nat.le_of_ble_eq_true rfl) rfl (fun x h => ?_)
  refine v_aload_n h (i := 0) dX5_readS_0 (q := 1) rfl rfl 0 rfl ?_
  refine v_iload_n h (i := 1) dX5_readS_1 (q := 2) rfl rfl 1 rfl ?_
  refine v_callV h (As := [.int (nI o)]) (rest := []) ((hsub o S ho (by omega) hp hlen)) cal_X5_readP calV_X5_readP m499 ⟨rfl, rfl, by dsimp only; omega, by dsimp only; omega⟩ rfl hs.1.1 hs.1.2 ⟨_, _, rfl⟩ rfl (Nat.le_of_ble_eq_true rfl) dX5_readS_2 (q := 5) rfl (kB2 (fun c2 => ?_) (fun c2 => ?_))
  · refine v_if_ne h (t := 10) dX5_readS_5 (by decide) (q := 8) rfl (fun _ => ?_) (fun c => absurd c (by decide))
    refine v_iconst h (v := 0) dX5_readS_10 (q := 11) rfl (by decide) ?_
    refine v_istore_n h (i := 2) (ls1 := [(2, .int 0), (0, .ref (b_ad w me)), (1, .int (nI o))]) dX5_readS_11 (q := 12) rfl rfl (Nat.le_of_ble_eq_true rfl) rfl ?_
    exact lX5_readS_12 hs hn hn5 hu hu2 hsub ho hne hp hlen h 50 0 rfl (prR (byR (σ (me + 4)) n) use f 1 o S).2 (rd_st hu2 hlen hp).1 (rd_st hu2 hlen hp).2 (by rw [pr_lev (by decide), if_pos c2]; rfl)
  · refine v_if_ne h (t := 10) dX5_readS_5 (by decide) (q := 8) rfl (fun c => absurd (by decide) c) (fun _ => ?_)
    refine v_iconst h (v := 0) dX5_readS_8 (q := 9) rfl (by decide) ?_
    exact v_zret h rfl dX5_readS_9 (pB2_0 (by rw [pr_lev (by decide), if_neg c2]; exact fun z => nomatch z) (by rw [pr_lev (by decide), if_neg c2]))

set_option maxHeartbeats 4000000 in
set_option maxRecDepth 100000 in
theorem lX5_readP_12 {w : bw} {σ : bSt} {me n use f o : Nat} {S : bR} (hs : sReader w me) (hn : σ me 2 = nI n) (hn5 : n ≤ 50) (hu : σ me 4 = nI use) (hu2 : use < 2) (hsub : RM w σ me n use yX5_readQ cX5_readQ 2 0 f) (ho : o ≤ 5) (hne : 6 * (5 - o) + 1 + 1 ≤ f + 1) (hp : S.1 ≤ n) (hlen : S.2.1 ≤ S.1) {x : bX} (h : Cx x w cX5_readP RX5 4 (some .boolean) (rmm (3 * f + 7) (100 * f + 200))) : ∀ k i : Nat, i + k = 50 → ∀ T : bR, T.1 ≤ n → T.2.1 ≤ T.1 → lpR (prR (byR (σ (me + 4)) n) use f 0 o) (opR 1) (byR (σ (me + 4)) n) k T = prR (byR (σ (me + 4)) n) use (f + 1) 1 o S → V x w 4 (pB2 ((prR (byR (σ (me + 4)) n) use (f + 1) 1 o S).1 = true) (RS σ me (prR (byR (σ (me + 4)) n) use (f + 1) 1 o S).2) (RS σ me (prR (byR (σ (me + 4)) n) use (f + 1) 1 o S).2)) 12 [(2, .int (nI i)), (0, .ref (b_ad w me)), (1, .int (nI o))] [] (RS σ me T) := by
  refine b_ind (fun k ih => ?_)
  intro i hik T hTn hTl hlp
  refine v_iload_n h (i := 2) dX5_readP_12 (q := 13) rfl rfl 0 rfl ?_
  refine v_bipush h (v := 50) dX5_readP_13 (q := 15) rfl (by decide) ?_
  refine v_icmp_ge h (t := 78) dX5_readP_15 (by decide) (q := 18) rfl (fun c15 => ?_) (fun c15 => ?_)
  · refine v_iconst h (v := 1) dX5_readP_78 (q := 79) rfl (by decide) ?_
    exact v_zret h rfl dX5_readP_79 (pB2_1 (by rw [← hlp, show k = 0 by have := nge (k := 50) rfl (by omega) c15; omega]; rfl) (by rw [← hlp, show k = 0 by have := nge (k := 50) rfl (by omega) c15; omega]; rfl))
  · refine v_aload_n h (i := 0) dX5_readP_18 (q := 19) rfl rfl 1 rfl ?_
    refine v_callV h (As := []) (rest := []) ((c_X5_sign (S := T) hs hn hn5 hu hu2 hTn)) cal_X5_sign calV_X5_sign m507 ⟨rfl, rfl, by dsimp only; omega, by dsimp only; omega⟩ rfl hs.1.1 hs.1.2 ⟨_, _, rfl⟩ rfl (Nat.le_of_ble_eq_true rfl) dX5_readP_19 (q := 22) rfl (kI ?_)
    refine v_istore_n h (i := 3) (ls1 := [(3, .int ((byR (σ (me + 4)) n) T.1)), (2, .int (nI i)), (0, .ref (b_ad w me)), (1, .int (nI o))]) dX5_readP_22 (q := 23) rfl rfl (Nat.le_of_ble_eq_true rfl) rfl ?_
    refine v_iload_n h (i := 3) dX5_readP_23 (q := 24) rfl rfl 0 rfl ?_
    refine v_bipush h (v := 42) dX5_readP_24 (q := 26) rfl (by decide) ?_
    refine v_icmp_eq h (t := 43) dX5_readP_26 (by decide) (q := 29) rfl (fun c26 => ?_) (fun c26 => ?_)
    · have hop : opR 1 ((byR (σ (me + 4)) n) T.1) = true := by unfold opR; simp [*]
      have hTl1 : T.1 < n := byR_lt (opR_ne hop)
      have hik1 : i < 50 := nlt rfl (by omega) c15
      have hk1 : k = (k - 1) + 1 := by omega
      refine v_aload_n h (i := 0) dX5_readP_43 (q := 44) rfl rfl 2 rfl ?_
      refine v_dup h dX5_readP_44 (q := 45) rfl rfl ?_
      refine v_get h (k := 3) (v := .int ((RS σ me T) me 3)) cls5 hs.1.1 hs.1.2 (Nat.le_of_ble_eq_true rfl) m224 rfl dX5_readP_45 (q := 48) rfl ?_
      rw [show ((RS σ me T) me 3 : Int32) = nI T.1 from RS_3]
      refine v_iconst h (v := 1) dX5_readP_48 (q := 49) rfl (by decide) ?_
      refine v_iadd h dX5_readP_49 (q := 50) rfl ?_
      rw [show ((nI T.1) + 1 : Int32) = nI (T.1 + 1) from (nI_1 T.1)]
      refine v_put h (k := 3) cls5 hs.1.1 hs.1.2 (Nat.le_of_ble_eq_true rfl) rfl m224 rfl ⟨rfl, rfl⟩ dX5_readP_50 (q := 53) rfl ?_
      rw [show (b_up (RS σ me T) me 3 (nI (T.1 + 1)) : bSt) = RS σ me (advR T) from RS_adv]
      refine v_aload_n h (i := 0) dX5_readP_53 (q := 54) rfl rfl 2 rfl ?_
      refine v_iload_n h (i := 1) dX5_readP_54 (q := 55) rfl rfl 3 rfl ?_
      refine v_callV h (As := [.int (nI o)]) (rest := []) ((hsub o (advR T) ho (by omega) hTl1 (by show T.2.1 ≤ T.1 + 1; omega))) cal_X5_readQ calV_X5_readQ m503 ⟨rfl, rfl, by dsimp only; omega, by dsimp only; omega⟩ rfl hs.1.1 hs.1.2 ⟨_, _, rfl⟩ rfl (Nat.le_of_ble_eq_true rfl) dX5_readP_55 (q := 58) rfl (kB2 (fun c55 => ?_) (fun c55 => ?_))
      · refine v_if_ne h (t := 63) dX5_readP_58 (by decide) (q := 61) rfl (fun _ => ?_) (fun c => absurd c (by decide))
        have hgo := rd_go (tp := σ (me + 4)) (f := f) (lev := 0) (o := o) hu2 hTl hTl1
        refine v_aload_n h (i := 0) dX5_readP_63 (q := 64) rfl rfl 2 rfl ?_
        refine v_get h (k := 0) (v := .ref (b_ad w (me + 1))) cls5 hs.1.1 hs.1.2 (Nat.le_of_ble_eq_true rfl) m220 rfl dX5_readP_64 (q := 67) rfl ?_
        refine v_iload_n h (i := 3) dX5_readP_67 (q := 68) rfl rfl 0 rfl ?_
        refine v_ineg h dX5_readP_68 (q := 69) rfl ?_
        refine v_callV h (As := [.int (-((byR (σ (me + 4)) n) T.1))]) (rest := []) ((c_addR (S := (prR (byR (σ (me + 4)) n) use f 0 o (advR T)).2) (v := -((byR (σ (me + 4)) n) T.1)) hs.2.1 (by omega))) cal_X2_add calV_X2_add m518 ⟨rfl, rfl, by dsimp only; omega, by dsimp only; omega⟩ rfl hs.2.1.1.1 hs.2.1.1.2 ⟨_, _, rfl⟩ rfl (Nat.le_of_ble_eq_true rfl) dX5_readP_69 (q := 72) rfl (kU ?_)
        refine v_iinc h (p := 1) (u := nI (i + 1)) (ls1 := [(2, .int (nI (i + 1))), (3, .int ((byR (σ (me + 4)) n) T.1)), (0, .ref (b_ad w me)), (1, .int (nI o))]) dX5_readP_72 (q := 75) rfl rfl (nI_1 i) (Nat.le_of_ble_eq_true rfl) rfl ?_
        refine v_goto h (t := 12) dX5_readP_75 (by decide) ?_
        refine v_ls [0, 2, 3] (ls2 := [(2, .int (nI (i + 1))), (0, .ref (b_ad w me)), (1, .int (nI o))]) rfl ?_
        exact ih (k - 1) (by omega) (i + 1) (by omega) (emR (-((byR (σ (me + 4)) n) T.1)) (prR (byR (σ (me + 4)) n) use f 0 o (advR T)).2) hgo.1 hgo.2 (by rw [← hlp, hk1, lp_go hop c55]; rfl)
      · refine v_if_ne h (t := 63) dX5_readP_58 (by decide) (q := 61) rfl (fun c => absurd (by decide) c) (fun _ => ?_)
        refine v_iconst h (v := 0) dX5_readP_61 (q := 62) rfl (by decide) ?_
        exact v_zret h rfl dX5_readP_62 (pB2_0 (by rw [← hlp, hk1, lp_fail hop c55]; exact fun z => nomatch z) (by rw [← hlp, hk1, lp_fail hop c55]))
    · refine v_iload_n h (i := 3) dX5_readP_29 (q := 30) rfl rfl 0 rfl ?_
      refine v_bipush h (v := 47) dX5_readP_30 (q := 32) rfl (by decide) ?_
      refine v_icmp_eq h (t := 43) dX5_readP_32 (by decide) (q := 35) rfl (fun c32 => ?_) (fun c32 => ?_)
      · have hop : opR 1 ((byR (σ (me + 4)) n) T.1) = true := by unfold opR; simp [*]
        have hTl1 : T.1 < n := byR_lt (opR_ne hop)
        have hik1 : i < 50 := nlt rfl (by omega) c15
        have hk1 : k = (k - 1) + 1 := by omega
        refine v_aload_n h (i := 0) dX5_readP_43 (q := 44) rfl rfl 2 rfl ?_
        refine v_dup h dX5_readP_44 (q := 45) rfl rfl ?_
        refine v_get h (k := 3) (v := .int ((RS σ me T) me 3)) cls5 hs.1.1 hs.1.2 (Nat.le_of_ble_eq_true rfl) m224 rfl dX5_readP_45 (q := 48) rfl ?_
        rw [show ((RS σ me T) me 3 : Int32) = nI T.1 from RS_3]
        refine v_iconst h (v := 1) dX5_readP_48 (q := 49) rfl (by decide) ?_
        refine v_iadd h dX5_readP_49 (q := 50) rfl ?_
        rw [show ((nI T.1) + 1 : Int32) = nI (T.1 + 1) from (nI_1 T.1)]
        refine v_put h (k := 3) cls5 hs.1.1 hs.1.2 (Nat.le_of_ble_eq_true rfl) rfl m224 rfl ⟨rfl, rfl⟩ dX5_readP_50 (q := 53) rfl ?_
        rw [show (b_up (RS σ me T) me 3 (nI (T.1 + 1)) : bSt) = RS σ me (advR T) from RS_adv]
        refine v_aload_n h (i := 0) dX5_readP_53 (q := 54) rfl rfl 2 rfl ?_
        refine v_iload_n h (i := 1) dX5_readP_54 (q := 55) rfl rfl 3 rfl ?_
        refine v_callV h (As := [.int (nI o)]) (rest := []) ((hsub o (advR T) ho (by omega) hTl1 (by show T.2.1 ≤ T.1 + 1; omega))) cal_X5_readQ calV_X5_readQ m503 ⟨rfl, rfl, by dsimp only; omega, by dsimp only; omega⟩ rfl hs.1.1 hs.1.2 ⟨_, _, rfl⟩ rfl (Nat.le_of_ble_eq_true rfl) dX5_readP_55 (q := 58) rfl (kB2 (fun c55_1 => ?_) (fun c55_1 => ?_))
        · refine v_if_ne h (t := 63) dX5_readP_58 (by decide) (q := 61) rfl (fun _ => ?_) (fun c => absurd c (by decide))
          have hgo := rd_go (tp := σ (me + 4)) (f := f) (lev := 0) (o := o) hu2 hTl hTl1
          refine v_aload_n h (i := 0) dX5_readP_63 (q := 64) rfl rfl 2 rfl ?_
          refine v_get h (k := 0) (v := .ref (b_ad w (me + 1))) cls5 hs.1.1 hs.1.2 (Nat.le_of_ble_eq_true rfl) m220 rfl dX5_readP_64 (q := 67) rfl ?_
          refine v_iload_n h (i := 3) dX5_readP_67 (q := 68) rfl rfl 0 rfl ?_
          refine v_ineg h dX5_readP_68 (q := 69) rfl ?_
          refine v_callV h (As := [.int (-((byR (σ (me + 4)) n) T.1))]) (rest := []) ((c_addR (S := (prR (byR (σ (me + 4)) n) use f 0 o (advR T)).2) (v := -((byR (σ (me + 4)) n) T.1)) hs.2.1 (by omega))) cal_X2_add calV_X2_add m518 ⟨rfl, rfl, by dsimp only; omega, by dsimp only; omega⟩ rfl hs.2.1.1.1 hs.2.1.1.2 ⟨_, _, rfl⟩ rfl (Nat.le_of_ble_eq_true rfl) dX5_readP_69 (q := 72) rfl (kU ?_)
          refine v_iinc h (p := 1) (u := nI (i + 1)) (ls1 := [(2, .int (nI (i + 1))), (3, .int ((byR (σ (me + 4)) n) T.1)), (0, .ref (b_ad w me)), (1, .int (nI o))]) dX5_readP_72 (q := 75) rfl rfl (nI_1 i) (Nat.le_of_ble_eq_true rfl) rfl ?_
          refine v_goto h (t := 12) dX5_readP_75 (by decide) ?_
          refine v_ls [0, 2, 3] (ls2 := [(2, .int (nI (i + 1))), (0, .ref (b_ad w me)), (1, .int (nI o))]) rfl ?_
          exact ih (k - 1) (by omega) (i + 1) (by omega) (emR (-((byR (σ (me + 4)) n) T.1)) (prR (byR (σ (me + 4)) n) use f 0 o (advR T)).2) hgo.1 hgo.2 (by rw [← hlp, hk1, lp_go hop c55_1]; rfl)
        · refine v_if_ne h (t := 63) dX5_readP_58 (by decide) (q := 61) rfl (fun c => absurd (by decide) c) (fun _ => ?_)
          refine v_iconst h (v := 0) dX5_readP_61 (q := 62) rfl (by decide) ?_
          exact v_zret h rfl dX5_readP_62 (pB2_0 (by rw [← hlp, hk1, lp_fail hop c55_1]; exact fun z => nomatch z) (by rw [← hlp, hk1, lp_fail hop c55_1]))
      · refine v_iload_n h (i := 3) dX5_readP_35 (q := 36) rfl rfl 0 rfl ?_
        refine v_bipush h (v := 37) dX5_readP_36 (q := 38) rfl (by decide) ?_
        refine v_icmp_eq h (t := 43) dX5_readP_38 (by decide) (q := 41) rfl (fun c38 => ?_) (fun c38 => ?_)
        · have hop : opR 1 ((byR (σ (me + 4)) n) T.1) = true := by unfold opR; simp [*]
          have hTl1 : T.1 < n := byR_lt (opR_ne hop)
          have hik1 : i < 50 := nlt rfl (by omega) c15
          have hk1 : k = (k - 1) + 1 := by omega
          refine v_aload_n h (i := 0) dX5_readP_43 (q := 44) rfl rfl 2 rfl ?_
          refine v_dup h dX5_readP_44 (q := 45) rfl rfl ?_
          refine v_get h (k := 3) (v := .int ((RS σ me T) me 3)) cls5 hs.1.1 hs.1.2 (Nat.le_of_ble_eq_true rfl) m224 rfl dX5_readP_45 (q := 48) rfl ?_
          rw [show ((RS σ me T) me 3 : Int32) = nI T.1 from RS_3]
          refine v_iconst h (v := 1) dX5_readP_48 (q := 49) rfl (by decide) ?_
          refine v_iadd h dX5_readP_49 (q := 50) rfl ?_
          rw [show ((nI T.1) + 1 : Int32) = nI (T.1 + 1) from (nI_1 T.1)]
          refine v_put h (k := 3) cls5 hs.1.1 hs.1.2 (Nat.le_of_ble_eq_true rfl) rfl m224 rfl ⟨rfl, rfl⟩ dX5_readP_50 (q := 53) rfl ?_
          rw [show (b_up (RS σ me T) me 3 (nI (T.1 + 1)) : bSt) = RS σ me (advR T) from RS_adv]
          refine v_aload_n h (i := 0) dX5_readP_53 (q := 54) rfl rfl 2 rfl ?_
          refine v_iload_n h (i := 1) dX5_readP_54 (q := 55) rfl rfl 3 rfl ?_
          refine v_callV h (As := [.int (nI o)]) (rest := []) ((hsub o (advR T) ho (by omega) hTl1 (by show T.2.1 ≤ T.1 + 1; omega))) cal_X5_readQ calV_X5_readQ m503 ⟨rfl, rfl, by dsimp only; omega, by dsimp only; omega⟩ rfl hs.1.1 hs.1.2 ⟨_, _, rfl⟩ rfl (Nat.le_of_ble_eq_true rfl) dX5_readP_55 (q := 58) rfl (kB2 (fun c55_2 => ?_) (fun c55_2 => ?_))
          · refine v_if_ne h (t := 63) dX5_readP_58 (by decide) (q := 61) rfl (fun _ => ?_) (fun c => absurd c (by decide))
            have hgo := rd_go (tp := σ (me + 4)) (f := f) (lev := 0) (o := o) hu2 hTl hTl1
            refine v_aload_n h (i := 0) dX5_readP_63 (q := 64) rfl rfl 2 rfl ?_
            refine v_get h (k := 0) (v := .ref (b_ad w (me + 1))) cls5 hs.1.1 hs.1.2 (Nat.le_of_ble_eq_true rfl) m220 rfl dX5_readP_64 (q := 67) rfl ?_
            refine v_iload_n h (i := 3) dX5_readP_67 (q := 68) rfl rfl 0 rfl ?_
            refine v_ineg h dX5_readP_68 (q := 69) rfl ?_
            refine v_callV h (As := [.int (-((byR (σ (me + 4)) n) T.1))]) (rest := []) ((c_addR (S := (prR (byR (σ (me + 4)) n) use f 0 o (advR T)).2) (v := -((byR (σ (me + 4)) n) T.1)) hs.2.1 (by omega))) cal_X2_add calV_X2_add m518 ⟨rfl, rfl, by dsimp only; omega, by dsimp only; omega⟩ rfl hs.2.1.1.1 hs.2.1.1.2 ⟨_, _, rfl⟩ rfl (Nat.le_of_ble_eq_true rfl) dX5_readP_69 (q := 72) rfl (kU ?_)
            refine v_iinc h (p := 1) (u := nI (i + 1)) (ls1 := [(2, .int (nI (i + 1))), (3, .int ((byR (σ (me + 4)) n) T.1)), (0, .ref (b_ad w me)), (1, .int (nI o))]) dX5_readP_72 (q := 75) rfl rfl (nI_1 i) (Nat.le_of_ble_eq_true rfl) rfl ?_
            refine v_goto h (t := 12) dX5_readP_75 (by decide) ?_
            refine v_ls [0, 2, 3] (ls2 := [(2, .int (nI (i + 1))), (0, .ref (b_ad w me)), (1, .int (nI o))]) rfl ?_
            exact ih (k - 1) (by omega) (i + 1) (by omega) (emR (-((byR (σ (me + 4)) n) T.1)) (prR (byR (σ (me + 4)) n) use f 0 o (advR T)).2) hgo.1 hgo.2 (by rw [← hlp, hk1, lp_go hop c55_2]; rfl)
          · refine v_if_ne h (t := 63) dX5_readP_58 (by decide) (q := 61) rfl (fun c => absurd (by decide) c) (fun _ => ?_)
            refine v_iconst h (v := 0) dX5_readP_61 (q := 62) rfl (by decide) ?_
            exact v_zret h rfl dX5_readP_62 (pB2_0 (by rw [← hlp, hk1, lp_fail hop c55_2]; exact fun z => nomatch z) (by rw [← hlp, hk1, lp_fail hop c55_2]))
        · refine v_iconst h (v := 1) dX5_readP_41 (q := 42) rfl (by decide) ?_
          exact v_zret h rfl dX5_readP_42 (pB2_1 (by rw [← hlp, lp_stop (by unfold opR; simp [*])]) (by rw [← hlp, lp_stop (by unfold opR; simp [*])]))
set_option maxHeartbeats 4000000 in
set_option maxRecDepth 100000 in
theorem c_X5_readP {w : bw} {σ : bSt} {me n use f o : Nat} {S : bR} (hs : sReader w me) (hn : σ me 2 = nI n) (hn5 : n ≤ 50) (hu : σ me 4 = nI use) (hu2 : use < 2) (hsub : RM w σ me n use yX5_readQ cX5_readQ 2 0 f) (ho : o ≤ 5) (hne : 6 * (5 - o) + 1 + 1 ≤ f + 1) (hp : S.1 ≤ n) (hlen : S.2.1 ≤ S.1) : MV yX5_readP cX5_readP 4 (some .boolean) (rmm (3 * f + 7) (100 * f + 200)) w [.ref (b_ad w me), .int (nI o)] (RS σ me S) (pB2 ((prR (byR (σ (me + 4)) n) use (f + 1) 1 o S).1 = true) (RS σ me (prR (byR (σ (me + 4)) n) use (f + 1) 1 o S).2) (RS σ me (prR (byR (σ (me + 4)) n) use (f + 1) 1 o S).2)) := by
  refine b_met (ls := [(0, .ref (b_ad w me)), (1, .int (nI o))]) (by decide) (Nat.le_of_ble_eq_true rfl) rfl (fun x h => ?_)
  refine v_aload_n h (i := 0) dX5_readP_0 (q := 1) rfl rfl 0 rfl ?_
  refine v_iload_n h (i := 1) dX5_readP_1 (q := 2) rfl rfl 1 rfl ?_
  refine v_callV h (As := [.int (nI o)]) (rest := []) ((hsub o S ho (by omega) hp hlen)) cal_X5_readQ calV_X5_readQ m503 ⟨rfl, rfl, by dsimp only; omega, by dsimp only; omega⟩ rfl hs.1.1 hs.1.2 ⟨_, _, rfl⟩ rfl (Nat.le_of_ble_eq_true rfl) dX5_readP_2 (q := 5) rfl (kB2 (fun c2 => ?_) (fun c2 => ?_))
  · refine v_if_ne h (t := 10) dX5_readP_5 (by decide) (q := 8) rfl (fun _ => ?_) (fun c => absurd c (by decide))
    refine v_iconst h (v := 0) dX5_readP_10 (q := 11) rfl (by decide) ?_
    refine v_istore_n h (i := 2) (ls1 := [(2, .int 0), (0, .ref (b_ad w me)), (1, .int (nI o))]) dX5_readP_11 (q := 12) rfl rfl (Nat.le_of_ble_eq_true rfl) rfl ?_
    exact lX5_readP_12 hs hn hn5 hu hu2 hsub ho hne hp hlen h 50 0 rfl (prR (byR (σ (me + 4)) n) use f 0 o S).2 (rd_st hu2 hlen hp).1 (rd_st hu2 hlen hp).2 (by rw [pr_lev (by decide), if_pos c2]; rfl)
  · refine v_if_ne h (t := 10) dX5_readP_5 (by decide) (q := 8) rfl (fun c => absurd (by decide) c) (fun _ => ?_)
    refine v_iconst h (v := 0) dX5_readP_8 (q := 9) rfl (by decide) ?_
    exact v_zret h rfl dX5_readP_9 (pB2_0 (by rw [pr_lev (by decide), if_neg c2]; exact fun z => nomatch z) (by rw [pr_lev (by decide), if_neg c2]))

set_option maxHeartbeats 4000000 in
set_option maxRecDepth 100000 in
theorem c_X5_readB {w : bw} {σ : bSt} {me n use f o : Nat} {S : bR} (hs : sReader w me) (hn : σ me 2 = nI n) (hn5 : n ≤ 50) (hu : σ me 4 = nI use) (hu2 : use < 2) (hsub : RM w σ me n use yX5_readS cX5_readS 4 2 f) (ho : o ≤ 5) (hne : 6 * (5 - o) + 3 + 1 ≤ f + 1) (hp : S.1 ≤ n) (hlen : S.2.1 ≤ S.1) : MV yX5_readB cX5_readB 3 (some .boolean) (rmm (3 * f + 7) (100 * f + 200)) w [.ref (b_ad w me), .int (nI o)] (RS σ me S) (pB2 ((prR (byR (σ (me + 4)) n) use (f + 1) 3 o S).1 = true) (RS σ me (prR (byR (σ (me + 4)) n) use (f + 1) 3 o S).2) (RS σ me (prR (byR (σ (me + 4)) n) use (f + 1) 3 o S).2)) := by
  refine b_met (ls := [(0, .ref (b_ad w me)), (1, .int (nI o))]) (by decide) (Nat.le_of_ble_eq_true rfl) rfl (fun x h => ?_)
  refine v_aload_n h (i := 0) dX5_readB_0 (q := 1) rfl rfl 0 rfl ?_
  refine v_iload_n h (i := 1) dX5_readB_1 (q := 2) rfl rfl 1 rfl ?_
  refine v_callV h (As := [.int (nI o)]) (rest := []) ((hsub o S ho (by omega) hp hlen)) cal_X5_readS calV_X5_readS m495 ⟨rfl, rfl, by dsimp only; omega, by dsimp only; omega⟩ rfl hs.1.1 hs.1.2 ⟨_, _, rfl⟩ rfl (Nat.le_of_ble_eq_true rfl) dX5_readB_2 (q := 5) rfl (kB2 (fun c2 => ?_) (fun c2 => ?_))
  · refine v_if_ne h (t := 10) dX5_readB_5 (by decide) (q := 8) rfl (fun _ => ?_) (fun c => absurd c (by decide))
    refine v_aload_n h (i := 0) dX5_readB_10 (q := 11) rfl rfl 0 rfl ?_
    refine v_callV h (As := []) (rest := []) ((c_X5_sign (S := (prR (byR (σ (me + 4)) n) use f 2 o S).2) hs hn hn5 hu hu2 (rd_st hu2 hlen hp).1)) cal_X5_sign calV_X5_sign m507 ⟨rfl, rfl, by dsimp only; omega, by dsimp only; omega⟩ rfl hs.1.1 hs.1.2 ⟨_, _, rfl⟩ rfl (Nat.le_of_ble_eq_true rfl) dX5_readB_11 (q := 14) rfl (kI ?_)
    refine v_istore_n h (i := 2) (ls1 := [(2, .int ((byR (σ (me + 4)) n) (prR (byR (σ (me + 4)) n) use f 2 o S).2.1)), (0, .ref (b_ad w me)), (1, .int (nI o))]) dX5_readB_14 (q := 15) rfl rfl (Nat.le_of_ble_eq_true rfl) rfl ?_
    refine v_iload_n h (i := 2) dX5_readB_15 (q := 16) rfl rfl 0 rfl ?_
    refine v_bipush h (v := 60) dX5_readB_16 (q := 18) rfl (by decide) ?_
    refine v_icmp_eq h (t := 35) dX5_readB_18 (by decide) (q := 21) rfl (fun c18 => ?_) (fun c18 => ?_)
    · have hop : opR 3 ((byR (σ (me + 4)) n) (prR (byR (σ (me + 4)) n) use f 2 o S).2.1) = true := by unfold opR; simp [*]
      have hst := rd_st (tp := σ (me + 4)) (f := f) (lev := 2) (o := o) hu2 hlen hp
      have hTl1 : (prR (byR (σ (me + 4)) n) use f 2 o S).2.1 < n := byR_lt (opR_ne hop)
      refine v_aload_n h (i := 0) dX5_readB_35 (q := 36) rfl rfl 1 rfl ?_
      refine v_dup h dX5_readB_36 (q := 37) rfl rfl ?_
      refine v_get h (k := 3) (v := .int ((RS σ me (prR (byR (σ (me + 4)) n) use f 2 o S).2) me 3)) cls5 hs.1.1 hs.1.2 (Nat.le_of_ble_eq_true rfl) m224 rfl dX5_readB_37 (q := 40) rfl ?_
      rw [show ((RS σ me (prR (byR (σ (me + 4)) n) use f 2 o S).2) me 3 : Int32) = nI (prR (byR (σ (me + 4)) n) use f 2 o S).2.1 from RS_3]
      refine v_iconst h (v := 1) dX5_readB_40 (q := 41) rfl (by decide) ?_
      refine v_iadd h dX5_readB_41 (q := 42) rfl ?_
      rw [show ((nI (prR (byR (σ (me + 4)) n) use f 2 o S).2.1) + 1 : Int32) = nI ((prR (byR (σ (me + 4)) n) use f 2 o S).2.1 + 1) from (nI_1 _)]
      refine v_put h (k := 3) cls5 hs.1.1 hs.1.2 (Nat.le_of_ble_eq_true rfl) rfl m224 rfl ⟨rfl, rfl⟩ dX5_readB_42 (q := 45) rfl ?_
      rw [show (b_up (RS σ me (prR (byR (σ (me + 4)) n) use f 2 o S).2) me 3 (nI ((prR (byR (σ (me + 4)) n) use f 2 o S).2.1 + 1)) : bSt) = RS σ me (advR (prR (byR (σ (me + 4)) n) use f 2 o S).2) from RS_adv]
      refine v_aload_n h (i := 0) dX5_readB_45 (q := 46) rfl rfl 1 rfl ?_
      refine v_iload_n h (i := 1) dX5_readB_46 (q := 47) rfl rfl 2 rfl ?_
      refine v_callV h (As := [.int (nI o)]) (rest := []) ((hsub o (advR (prR (byR (σ (me + 4)) n) use f 2 o S).2) ho (by omega) hTl1 (by have := hst.2; unfold advR; dsimp only; omega))) cal_X5_readS calV_X5_readS m495 ⟨rfl, rfl, by dsimp only; omega, by dsimp only; omega⟩ rfl hs.1.1 hs.1.2 ⟨_, _, rfl⟩ rfl (Nat.le_of_ble_eq_true rfl) dX5_readB_47 (q := 50) rfl (kB2 (fun c47 => ?_) (fun c47 => ?_))
      · refine v_if_ne h (t := 55) dX5_readB_50 (by decide) (q := 53) rfl (fun _ => ?_) (fun c => absurd c (by decide))
        have hgo := rd_go (tp := σ (me + 4)) (f := f) (lev := 2) (o := o) hu2 hst.2 hTl1
        refine v_aload_n h (i := 0) dX5_readB_55 (q := 56) rfl rfl 1 rfl ?_
        refine v_get h (k := 0) (v := .ref (b_ad w (me + 1))) cls5 hs.1.1 hs.1.2 (Nat.le_of_ble_eq_true rfl) m220 rfl dX5_readB_56 (q := 59) rfl ?_
        refine v_iload_n h (i := 2) dX5_readB_59 (q := 60) rfl rfl 0 rfl ?_
        refine v_ineg h dX5_readB_60 (q := 61) rfl ?_
        refine v_callV h (As := [.int (-((byR (σ (me + 4)) n) (prR (byR (σ (me + 4)) n) use f 2 o S).2.1))]) (rest := []) ((c_addR (S := (prR (byR (σ (me + 4)) n) use f 2 o (advR (prR (byR (σ (me + 4)) n) use f 2 o S).2)).2) (v := -((byR (σ (me + 4)) n) (prR (byR (σ (me + 4)) n) use f 2 o S).2.1)) hs.2.1 (by omega))) cal_X2_add calV_X2_add m518 ⟨rfl, rfl, by dsimp only; omega, by dsimp only; omega⟩ rfl hs.2.1.1.1 hs.2.1.1.2 ⟨_, _, rfl⟩ rfl (Nat.le_of_ble_eq_true rfl) dX5_readB_61 (q := 64) rfl (kU ?_)
        refine v_iconst h (v := 1) dX5_readB_64 (q := 65) rfl (by decide) ?_
        exact v_zret h rfl dX5_readB_65 (pB2_1 (by rw [pr_lev (by decide), if_pos c2, if_pos rfl, lp_go hop c47]; rfl) (by rw [pr_lev (by decide), if_pos c2, if_pos rfl, lp_go hop c47]; rfl))
      · refine v_if_ne h (t := 55) dX5_readB_50 (by decide) (q := 53) rfl (fun c => absurd (by decide) c) (fun _ => ?_)
        refine v_iconst h (v := 0) dX5_readB_53 (q := 54) rfl (by decide) ?_
        exact v_zret h rfl dX5_readB_54 (pB2_0 (by rw [pr_lev (by decide), if_pos c2, if_pos rfl, lp_fail hop c47]; exact fun z => nomatch z) (by rw [pr_lev (by decide), if_pos c2, if_pos rfl, lp_fail hop c47]))
    · refine v_iload_n h (i := 2) dX5_readB_21 (q := 22) rfl rfl 0 rfl ?_
      refine v_bipush h (v := 61) dX5_readB_22 (q := 24) rfl (by decide) ?_
      refine v_icmp_eq h (t := 35) dX5_readB_24 (by decide) (q := 27) rfl (fun c24 => ?_) (fun c24 => ?_)
      · have hop : opR 3 ((byR (σ (me + 4)) n) (prR (byR (σ (me + 4)) n) use f 2 o S).2.1) = true := by unfold opR; simp [*]
        have hst := rd_st (tp := σ (me + 4)) (f := f) (lev := 2) (o := o) hu2 hlen hp
        have hTl1 : (prR (byR (σ (me + 4)) n) use f 2 o S).2.1 < n := byR_lt (opR_ne hop)
        refine v_aload_n h (i := 0) dX5_readB_35 (q := 36) rfl rfl 1 rfl ?_
        refine v_dup h dX5_readB_36 (q := 37) rfl rfl ?_
        refine v_get h (k := 3) (v := .int ((RS σ me (prR (byR (σ (me + 4)) n) use f 2 o S).2) me 3)) cls5 hs.1.1 hs.1.2 (Nat.le_of_ble_eq_true rfl) m224 rfl dX5_readB_37 (q := 40) rfl ?_
        rw [show ((RS σ me (prR (byR (σ (me + 4)) n) use f 2 o S).2) me 3 : Int32) = nI (prR (byR (σ (me + 4)) n) use f 2 o S).2.1 from RS_3]
        refine v_iconst h (v := 1) dX5_readB_40 (q := 41) rfl (by decide) ?_
        refine v_iadd h dX5_readB_41 (q := 42) rfl ?_
        rw [show ((nI (prR (byR (σ (me + 4)) n) use f 2 o S).2.1) + 1 : Int32) = nI ((prR (byR (σ (me + 4)) n) use f 2 o S).2.1 + 1) from (nI_1 _)]
        refine v_put h (k := 3) cls5 hs.1.1 hs.1.2 (Nat.le_of_ble_eq_true rfl) rfl m224 rfl ⟨rfl, rfl⟩ dX5_readB_42 (q := 45) rfl ?_
        rw [show (b_up (RS σ me (prR (byR (σ (me + 4)) n) use f 2 o S).2) me 3 (nI ((prR (byR (σ (me + 4)) n) use f 2 o S).2.1 + 1)) : bSt) = RS σ me (advR (prR (byR (σ (me + 4)) n) use f 2 o S).2) from RS_adv]
        refine v_aload_n h (i := 0) dX5_readB_45 (q := 46) rfl rfl 1 rfl ?_
        refine v_iload_n h (i := 1) dX5_readB_46 (q := 47) rfl rfl 2 rfl ?_
        refine v_callV h (As := [.int (nI o)]) (rest := []) ((hsub o (advR (prR (byR (σ (me + 4)) n) use f 2 o S).2) ho (by omega) hTl1 (by have := hst.2; unfold advR; dsimp only; omega))) cal_X5_readS calV_X5_readS m495 ⟨rfl, rfl, by dsimp only; omega, by dsimp only; omega⟩ rfl hs.1.1 hs.1.2 ⟨_, _, rfl⟩ rfl (Nat.le_of_ble_eq_true rfl) dX5_readB_47 (q := 50) rfl (kB2 (fun c47_1 => ?_) (fun c47_1 => ?_))
        · refine v_if_ne h (t := 55) dX5_readB_50 (by decide) (q := 53) rfl (fun _ => ?_) (fun c => absurd c (by decide))
          have hgo := rd_go (tp := σ (me + 4)) (f := f) (lev := 2) (o := o) hu2 hst.2 hTl1
          refine v_aload_n h (i := 0) dX5_readB_55 (q := 56) rfl rfl 1 rfl ?_
          refine v_get h (k := 0) (v := .ref (b_ad w (me + 1))) cls5 hs.1.1 hs.1.2 (Nat.le_of_ble_eq_true rfl) m220 rfl dX5_readB_56 (q := 59) rfl ?_
          refine v_iload_n h (i := 2) dX5_readB_59 (q := 60) rfl rfl 0 rfl ?_
          refine v_ineg h dX5_readB_60 (q := 61) rfl ?_
          refine v_callV h (As := [.int (-((byR (σ (me + 4)) n) (prR (byR (σ (me + 4)) n) use f 2 o S).2.1))]) (rest := []) ((c_addR (S := (prR (byR (σ (me + 4)) n) use f 2 o (advR (prR (byR (σ (me + 4)) n) use f 2 o S).2)).2) (v := -((byR (σ (me + 4)) n) (prR (byR (σ (me + 4)) n) use f 2 o S).2.1)) hs.2.1 (by omega))) cal_X2_add calV_X2_add m518 ⟨rfl, rfl, by dsimp only; omega, by dsimp only; omega⟩ rfl hs.2.1.1.1 hs.2.1.1.2 ⟨_, _, rfl⟩ rfl (Nat.le_of_ble_eq_true rfl) dX5_readB_61 (q := 64) rfl (kU ?_)
          refine v_iconst h (v := 1) dX5_readB_64 (q := 65) rfl (by decide) ?_
          exact v_zret h rfl dX5_readB_65 (pB2_1 (by rw [pr_lev (by decide), if_pos c2, if_pos rfl, lp_go hop c47_1]; rfl) (by rw [pr_lev (by decide), if_pos c2, if_pos rfl, lp_go hop c47_1]; rfl))
        · refine v_if_ne h (t := 55) dX5_readB_50 (by decide) (q := 53) rfl (fun c => absurd (by decide) c) (fun _ => ?_)
          refine v_iconst h (v := 0) dX5_readB_53 (q := 54) rfl (by decide) ?_
          exact v_zret h rfl dX5_readB_54 (pB2_0 (by rw [pr_lev (by decide), if_pos c2, if_pos rfl, lp_fail hop c47_1]; exact fun z => nomatch z) (by rw [pr_lev (by decide), if_pos c2, if_pos rfl, lp_fail hop c47_1]))
      · refine v_iload_n h (i := 2) dX5_readB_27 (q := 28) rfl rfl 0 rfl ?_
        refine v_bipush h (v := 62) dX5_readB_28 (q := 30) rfl (by decide) ?_
        refine v_icmp_eq h (t := 35) dX5_readB_30 (by decide) (q := 33) rfl (fun c30 => ?_) (fun c30 => ?_)
        · have hop : opR 3 ((byR (σ (me + 4)) n) (prR (byR (σ (me + 4)) n) use f 2 o S).2.1) = true := by unfold opR; simp [*]
          have hst := rd_st (tp := σ (me + 4)) (f := f) (lev := 2) (o := o) hu2 hlen hp
          have hTl1 : (prR (byR (σ (me + 4)) n) use f 2 o S).2.1 < n := byR_lt (opR_ne hop)
          refine v_aload_n h (i := 0) dX5_readB_35 (q := 36) rfl rfl 1 rfl ?_
          refine v_dup h dX5_readB_36 (q := 37) rfl rfl ?_
          refine v_get h (k := 3) (v := .int ((RS σ me (prR (byR (σ (me + 4)) n) use f 2 o S).2) me 3)) cls5 hs.1.1 hs.1.2 (Nat.le_of_ble_eq_true rfl) m224 rfl dX5_readB_37 (q := 40) rfl ?_
          rw [show ((RS σ me (prR (byR (σ (me + 4)) n) use f 2 o S).2) me 3 : Int32) = nI (prR (byR (σ (me + 4)) n) use f 2 o S).2.1 from RS_3]
          refine v_iconst h (v := 1) dX5_readB_40 (q := 41) rfl (by decide) ?_
          refine v_iadd h dX5_readB_41 (q := 42) rfl ?_
          rw [show ((nI (prR (byR (σ (me + 4)) n) use f 2 o S).2.1) + 1 : Int32) = nI ((prR (byR (σ (me + 4)) n) use f 2 o S).2.1 + 1) from (nI_1 _)]
          refine v_put h (k := 3) cls5 hs.1.1 hs.1.2 (Nat.le_of_ble_eq_true rfl) rfl m224 rfl ⟨rfl, rfl⟩ dX5_readB_42 (q := 45) rfl ?_
          rw [show (b_up (RS σ me (prR (byR (σ (me + 4)) n) use f 2 o S).2) me 3 (nI ((prR (byR (σ (me + 4)) n) use f 2 o S).2.1 + 1)) : bSt) = RS σ me (advR (prR (byR (σ (me + 4)) n) use f 2 o S).2) from RS_adv]
          refine v_aload_n h (i := 0) dX5_readB_45 (q := 46) rfl rfl 1 rfl ?_
          refine v_iload_n h (i := 1) dX5_readB_46 (q := 47) rfl rfl 2 rfl ?_
          refine v_callV h (As := [.int (nI o)]) (rest := []) ((hsub o (advR (prR (byR (σ (me + 4)) n) use f 2 o S).2) ho (by omega) hTl1 (by have := hst.2; unfold advR; dsimp only; omega))) cal_X5_readS calV_X5_readS m495 ⟨rfl, rfl, by dsimp only; omega, by dsimp only; omega⟩ rfl hs.1.1 hs.1.2 ⟨_, _, rfl⟩ rfl (Nat.le_of_ble_eq_true rfl) dX5_readB_47 (q := 50) rfl (kB2 (fun c47_2 => ?_) (fun c47_2 => ?_))
          · refine v_if_ne h (t := 55) dX5_readB_50 (by decide) (q := 53) rfl (fun _ => ?_) (fun c => absurd c (by decide))
            have hgo := rd_go (tp := σ (me + 4)) (f := f) (lev := 2) (o := o) hu2 hst.2 hTl1
            refine v_aload_n h (i := 0) dX5_readB_55 (q := 56) rfl rfl 1 rfl ?_
            refine v_get h (k := 0) (v := .ref (b_ad w (me + 1))) cls5 hs.1.1 hs.1.2 (Nat.le_of_ble_eq_true rfl) m220 rfl dX5_readB_56 (q := 59) rfl ?_
            refine v_iload_n h (i := 2) dX5_readB_59 (q := 60) rfl rfl 0 rfl ?_
            refine v_ineg h dX5_readB_60 (q := 61) rfl ?_
            refine v_callV h (As := [.int (-((byR (σ (me + 4)) n) (prR (byR (σ (me + 4)) n) use f 2 o S).2.1))]) (rest := []) ((c_addR (S := (prR (byR (σ (me + 4)) n) use f 2 o (advR (prR (byR (σ (me + 4)) n) use f 2 o S).2)).2) (v := -((byR (σ (me + 4)) n) (prR (byR (σ (me + 4)) n) use f 2 o S).2.1)) hs.2.1 (by omega))) cal_X2_add calV_X2_add m518 ⟨rfl, rfl, by dsimp only; omega, by dsimp only; omega⟩ rfl hs.2.1.1.1 hs.2.1.1.2 ⟨_, _, rfl⟩ rfl (Nat.le_of_ble_eq_true rfl) dX5_readB_61 (q := 64) rfl (kU ?_)
            refine v_iconst h (v := 1) dX5_readB_64 (q := 65) rfl (by decide) ?_
            exact v_zret h rfl dX5_readB_65 (pB2_1 (by rw [pr_lev (by decide), if_pos c2, if_pos rfl, lp_go hop c47_2]; rfl) (by rw [pr_lev (by decide), if_pos c2, if_pos rfl, lp_go hop c47_2]; rfl))
          · refine v_if_ne h (t := 55) dX5_readB_50 (by decide) (q := 53) rfl (fun c => absurd (by decide) c) (fun _ => ?_)
            refine v_iconst h (v := 0) dX5_readB_53 (q := 54) rfl (by decide) ?_
            exact v_zret h rfl dX5_readB_54 (pB2_0 (by rw [pr_lev (by decide), if_pos c2, if_pos rfl, lp_fail hop c47_2]; exact fun z => nomatch z) (by rw [pr_lev (by decide), if_pos c2, if_pos rfl, lp_fail hop c47_2]))
        · refine v_iconst h (v := 1) dX5_readB_33 (q := 34) rfl (by decide) ?_
          exact v_zret h rfl dX5_readB_34 (pB2_1 (by rw [pr_lev (by decide), if_pos c2, lp_stop (by unfold opR; simp [*])]) (by rw [pr_lev (by decide), if_pos c2, lp_stop (by unfold opR; simp [*])]))
  · refine v_if_ne h (t := 10) dX5_readB_5 (by decide) (q := 8) rfl (fun c => absurd (by decide) c) (fun _ => ?_)
    refine v_iconst h (v := 0) dX5_readB_8 (q := 9) rfl (by decide) ?_
    exact v_zret h rfl dX5_readB_9 (pB2_0 (by rw [pr_lev (by decide), if_neg c2]; exact fun z => nomatch z) (by rw [pr_lev (by decide), if_neg c2]))

set_option maxHeartbeats 4000000 in
set_option maxRecDepth 100000 in
theorem c_X5_readQ {w : bw} {σ : bSt} {me n use f o : Nat} {S : bR} (hs : sReader w me) (hn : σ me 2 = nI n) (hn5 : n ≤ 50) (hu : σ me 4 = nI use) (hu2 : use < 2) (hsubQ : RM w σ me n use yX5_readQ cX5_readQ 2 0 f) (hsubT : RM w σ me n use yX5_readT cX5_readT 3 5 f) (ho : o ≤ 5) (hne : 6 * (5 - o) + 0 + 1 ≤ f + 1) (hp : S.1 ≤ n) (hlen : S.2.1 ≤ S.1) : MV yX5_readQ cX5_readQ 2 (some .boolean) (rmm (3 * f + 7) (100 * f + 200)) w [.ref (b_ad w me), .int (nI o)] (RS σ me S) (pB2 ((prR (byR (σ (me + 4)) n) use (f + 1) 0 o S).1 = true) (RS σ me (prR (byR (σ (me + 4)) n) use (f + 1) 0 o S).2) (RS σ me (prR (byR (σ (me + 4)) n) use (f + 1) 0 o S).2)) := by
  refine b_met (ls := [(0, .ref (b_ad w me)), (1, .int (nI o))]) (by decide) (Nat.le_of_ble_eq_true rfl) rfl (fun x h => ?_)
  refine v_aload_n h (i := 0) dX5_readQ_0 (q := 1) rfl rfl 0 rfl ?_
  refine v_callV h (As := []) (rest := []) ((c_X5_sign (S := S) hs hn hn5 hu hu2 hp)) cal_X5_sign calV_X5_sign m507 ⟨rfl, rfl, by dsimp only; omega, by dsimp only; omega⟩ rfl hs.1.1 hs.1.2 ⟨_, _, rfl⟩ rfl (Nat.le_of_ble_eq_true rfl) dX5_readQ_1 (q := 4) rfl (kI ?_)
  refine v_callS h (As := [.int ((byR (σ (me + 4)) n) S.1)]) (rest := []) (c_X5_isDigit (c := (byR (σ (me + 4)) n) S.1)) cal_X5_isDigit m512 m511 ⟨rfl, rfl, by dsimp only; omega, by dsimp only; omega⟩ rfl rfl (Nat.le_of_ble_eq_true rfl) dX5_readQ_4 (q := 7) rfl (kB (fun c4 => ?_) (fun c4 => ?_))
  · refine v_if_eq h (t := 16) dX5_readQ_7 (by decide) (q := 10) rfl (fun c => absurd c (by decide)) (fun _ => ?_)
    refine v_aload_n h (i := 0) dX5_readQ_10 (q := 11) rfl rfl 0 rfl ?_
    refine v_callV h (As := []) (rest := []) ((c_X5_readNumber (S := S) hs hn hn5 hu hu2 hp (dgB_iff.mp c4) hlen)) cal_X5_readNumber calV_X5_readNumber m514 ⟨rfl, rfl, by dsimp only; omega, by dsimp only; omega⟩ rfl hs.1.1 hs.1.2 ⟨_, _, rfl⟩ rfl (Nat.le_of_ble_eq_true rfl) dX5_readQ_11 (q := 14) rfl (kU ?_)
    refine v_iconst h (v := 1) dX5_readQ_14 (q := 15) rfl (by decide) ?_
    exact v_zret h rfl dX5_readQ_15 (pB2_1 (by rw [prR, if_pos rfl, if_pos (dgB_iff.mp c4)]) (by rw [prR, if_pos rfl, if_pos (dgB_iff.mp c4)]))
  · refine v_if_eq h (t := 16) dX5_readQ_7 (by decide) (q := 10) rfl (fun _ => ?_) (fun c => absurd (by decide) c)
    refine v_aload_n h (i := 0) dX5_readQ_16 (q := 17) rfl rfl 0 rfl ?_
    refine v_callV h (As := []) (rest := []) ((c_X5_readName (S := S) hs hn hn5 hu hu2 hp hlen)) cal_X5_readName calV_X5_readName m522 ⟨rfl, rfl, by dsimp only; omega, by dsimp only; omega⟩ rfl hs.1.1 hs.1.2 ⟨_, _, rfl⟩ rfl (Nat.le_of_ble_eq_true rfl) dX5_readQ_17 (q := 20) rfl (kB2 (fun c17 => ?_) (fun c17 => ?_))
    · refine v_if_eq h (t := 25) dX5_readQ_20 (by decide) (q := 23) rfl (fun c => absurd c (by decide)) (fun _ => ?_)
      refine v_iconst h (v := 1) dX5_readQ_23 (q := 24) rfl (by decide) ?_
      exact v_zret h rfl dX5_readQ_24 (pB2_1 (by rw [prR, if_pos rfl, if_neg (fun z => c4 (dgB_iff.mpr z)), if_pos c17]) (by rw [prR, if_pos rfl, if_neg (fun z => c4 (dgB_iff.mpr z)), if_pos c17]))
    · refine v_if_eq h (t := 25) dX5_readQ_20 (by decide) (q := 23) rfl (fun _ => ?_) (fun c => absurd (by decide) c)
      refine v_iload_n h (i := 1) dX5_readQ_25 (q := 26) rfl rfl 1 rfl ?_
      refine v_iconst h (v := 5) dX5_readQ_26 (q := 27) rfl (by decide) ?_
      refine v_icmp_lt h (t := 32) dX5_readQ_27 (by decide) (q := 30) rfl (fun c27 => ?_) (fun c27 => ?_)
      · have ho4 : ¬ 5 ≤ o := by
          have := (nI_ltI (a := o) (b := 5) (by omega) (by decide)).mp c27
          omega
        have cd : ¬ dgB ((byR (σ (me + 4)) n) S.1) = true := fun z => c4 (dgB_iff.mpr z)
        refine v_aload_n h (i := 0) dX5_readQ_32 (q := 33) rfl rfl 0 rfl ?_
        refine v_bipush h (v := 33) dX5_readQ_33 (q := 35) rfl (by decide) ?_
        refine v_callV h (As := [.int 33]) (rest := []) ((c_X5_takes (S := S) (c := 33) hs hn hn5 hu hu2 hp)) cal_X5_takes calV_X5_takes m528 ⟨rfl, rfl, by dsimp only; omega, by dsimp only; omega⟩ rfl hs.1.1 hs.1.2 ⟨_, _, rfl⟩ rfl (Nat.le_of_ble_eq_true rfl) dX5_readQ_35 (q := 38) rfl (kB2 (fun c35 => ?_) (fun c35 => ?_))
        · refine v_if_eq h (t := 64) dX5_readQ_38 (by decide) (q := 41) rfl (fun c => absurd c (by decide)) (fun _ => ?_)
          have hl1 : S.1 < n := byR_lt (tp := σ (me + 4)) (by rw [c35]; decide)
          refine v_aload_n h (i := 0) dX5_readQ_41 (q := 42) rfl rfl 0 rfl ?_
          refine v_iload_n h (i := 1) dX5_readQ_42 (q := 43) rfl rfl 1 rfl ?_
          refine v_iconst h (v := 1) dX5_readQ_43 (q := 44) rfl (by decide) ?_
          refine v_iadd h dX5_readQ_44 (q := 45) rfl ?_
          rw [show ((nI o) + 1 : Int32) = nI (o + 1) from (nI_1 o)]
          refine v_callV h (As := [.int (nI (o + 1))]) (rest := []) ((hsubQ (o + 1) (advR S) (by omega) (by omega) hl1 (by show S.2.1 ≤ S.1 + 1; omega))) cal_X5_readQ calV_X5_readQ m503 ⟨rfl, rfl, by dsimp only; omega, by dsimp only; omega⟩ rfl hs.1.1 hs.1.2 ⟨_, _, rfl⟩ rfl (Nat.le_of_ble_eq_true rfl) dX5_readQ_45 (q := 48) rfl (kB2 (fun c45 => ?_) (fun c45 => ?_))
          · refine v_if_ne h (t := 53) dX5_readQ_48 (by decide) (q := 51) rfl (fun _ => ?_) (fun c => absurd c (by decide))
            have hgo := rd_go (tp := σ (me + 4)) (f := f) (lev := 0) (o := o + 1) hu2 hlen hl1
            refine v_aload_n h (i := 0) dX5_readQ_53 (q := 54) rfl rfl 0 rfl ?_
            refine v_get h (k := 0) (v := .ref (b_ad w (me + 1))) cls5 hs.1.1 hs.1.2 (Nat.le_of_ble_eq_true rfl) m220 rfl dX5_readQ_54 (q := 57) rfl ?_
            refine v_bipush h (v := -33) dX5_readQ_57 (q := 59) rfl (by decide) ?_
            refine v_callV h (As := [.int (-33)]) (rest := []) ((c_addR (S := (prR (byR (σ (me + 4)) n) use f 0 (o + 1) (advR S)).2) (v := -33) hs.2.1 (by omega))) cal_X2_add calV_X2_add m518 ⟨rfl, rfl, by dsimp only; omega, by dsimp only; omega⟩ rfl hs.2.1.1.1 hs.2.1.1.2 ⟨_, _, rfl⟩ rfl (Nat.le_of_ble_eq_true rfl) dX5_readQ_59 (q := 62) rfl (kU ?_)
            refine v_iconst h (v := 1) dX5_readQ_62 (q := 63) rfl (by decide) ?_
            exact v_zret h rfl dX5_readQ_63 (pB2_1 (by rw [prR, if_pos rfl, if_neg cd, if_neg c17, if_neg ho4, if_pos c35, if_pos c45]) (by rw [prR, if_pos rfl, if_neg cd, if_neg c17, if_neg ho4, if_pos c35, if_pos c45]))
          · refine v_if_ne h (t := 53) dX5_readQ_48 (by decide) (q := 51) rfl (fun c => absurd (by decide) c) (fun _ => ?_)
            refine v_iconst h (v := 0) dX5_readQ_51 (q := 52) rfl (by decide) ?_
            exact v_zret h rfl dX5_readQ_52 (pB2_0 (by rw [prR, if_pos rfl, if_neg cd, if_neg c17, if_neg ho4, if_pos c35, if_neg c45]; exact fun z => nomatch z) (by rw [prR, if_pos rfl, if_neg cd, if_neg c17, if_neg ho4, if_pos c35, if_neg c45]))
        · refine v_if_eq h (t := 64) dX5_readQ_38 (by decide) (q := 41) rfl (fun _ => ?_) (fun c => absurd (by decide) c)
          refine v_aload_n h (i := 0) dX5_readQ_64 (q := 65) rfl rfl 0 rfl ?_
          refine v_bipush h (v := 40) dX5_readQ_65 (q := 67) rfl (by decide) ?_
          refine v_callV h (As := [.int 40]) (rest := []) ((c_X5_takes (S := S) (c := 40) hs hn hn5 hu hu2 hp)) cal_X5_takes calV_X5_takes m528 ⟨rfl, rfl, by dsimp only; omega, by dsimp only; omega⟩ rfl hs.1.1 hs.1.2 ⟨_, _, rfl⟩ rfl (Nat.le_of_ble_eq_true rfl) dX5_readQ_67 (q := 70) rfl (kB2 (fun c67 => ?_) (fun c67 => ?_))
          · refine v_if_eq h (t := 96) dX5_readQ_70 (by decide) (q := 73) rfl (fun c => absurd c (by decide)) (fun _ => ?_)
            have hl1 : S.1 < n := byR_lt (tp := σ (me + 4)) (by rw [c67]; decide)
            refine v_aload_n h (i := 0) dX5_readQ_73 (q := 74) rfl rfl 0 rfl ?_
            refine v_iload_n h (i := 1) dX5_readQ_74 (q := 75) rfl rfl 1 rfl ?_
            refine v_iconst h (v := 1) dX5_readQ_75 (q := 76) rfl (by decide) ?_
            refine v_iadd h dX5_readQ_76 (q := 77) rfl ?_
            rw [show ((nI o) + 1 : Int32) = nI (o + 1) from (nI_1 o)]
            refine v_callV h (As := [.int (nI (o + 1))]) (rest := []) ((hsubT (o + 1) (advR S) (by omega) (by omega) hl1 (by show S.2.1 ≤ S.1 + 1; omega))) cal_X5_readT calV_X5_readT m483 ⟨rfl, rfl, by dsimp only; omega, by dsimp only; omega⟩ rfl hs.1.1 hs.1.2 ⟨_, _, rfl⟩ rfl (Nat.le_of_ble_eq_true rfl) dX5_readQ_77 (q := 80) rfl (kB2 (fun c77 => ?_) (fun c77 => ?_))
            · refine v_if_eq h (t := 96) dX5_readQ_80 (by decide) (q := 83) rfl (fun c => absurd c (by decide)) (fun _ => ?_)
              refine v_aload_n h (i := 0) dX5_readQ_83 (q := 84) rfl rfl 0 rfl ?_
              refine v_bipush h (v := 41) dX5_readQ_84 (q := 86) rfl (by decide) ?_
              refine v_callV h (As := [.int 41]) (rest := []) ((c_X5_takes (S := (prR (byR (σ (me + 4)) n) use f 5 (o + 1) (advR S)).2) (c := 41) hs hn hn5 hu hu2 (rd_go (tp := σ (me + 4)) hu2 hlen hl1).1)) cal_X5_takes calV_X5_takes m528 ⟨rfl, rfl, by dsimp only; omega, by dsimp only; omega⟩ rfl hs.1.1 hs.1.2 ⟨_, _, rfl⟩ rfl (Nat.le_of_ble_eq_true rfl) dX5_readQ_86 (q := 89) rfl (kB2 (fun c86 => ?_) (fun c86 => ?_))
              · refine v_if_eq h (t := 96) dX5_readQ_89 (by decide) (q := 92) rfl (fun c => absurd c (by decide)) (fun _ => ?_)
                refine v_iconst h (v := 1) dX5_readQ_92 (q := 93) rfl (by decide) ?_
                refine v_goto h (t := 97) dX5_readQ_93 (by decide) ?_
                exact v_zret h rfl dX5_readQ_97 (pB2_1 (by rw [prR, if_pos rfl, if_neg cd, if_neg c17, if_neg ho4, if_neg c35, if_pos c67, if_pos c77, if_pos c86]) (by rw [prR, if_pos rfl, if_neg cd, if_neg c17, if_neg ho4, if_neg c35, if_pos c67, if_pos c77, if_pos c86]))
              · refine v_if_eq h (t := 96) dX5_readQ_89 (by decide) (q := 92) rfl (fun _ => ?_) (fun c => absurd (by decide) c)
                refine v_iconst h (v := 0) dX5_readQ_96 (q := 97) rfl (by decide) ?_
                exact v_zret h rfl dX5_readQ_97 (pB2_0 (by first | (rw [prR, if_pos rfl, if_neg cd, if_neg c17, if_neg ho4, if_neg c35, if_pos c67, if_pos c77, if_neg c86]; exact fun z => nomatch z) | (rw [prR, if_pos rfl, if_neg cd, if_neg c17, if_neg ho4, if_neg c35, if_pos c67, if_neg c77]; exact fun z => nomatch z) | (rw [prR, if_pos rfl, if_neg cd, if_neg c17, if_neg ho4, if_neg c35, if_neg c67]; exact fun z => nomatch z)) (by first | rw [prR, if_pos rfl, if_neg cd, if_neg c17, if_neg ho4, if_neg c35, if_pos c67, if_pos c77, if_neg c86] | rw [prR, if_pos rfl, if_neg cd, if_neg c17, if_neg ho4, if_neg c35, if_pos c67, if_neg c77] | rw [prR, if_pos rfl, if_neg cd, if_neg c17, if_neg ho4, if_neg c35, if_neg c67]))
            · refine v_if_eq h (t := 96) dX5_readQ_80 (by decide) (q := 83) rfl (fun _ => ?_) (fun c => absurd (by decide) c)
              refine v_iconst h (v := 0) dX5_readQ_96 (q := 97) rfl (by decide) ?_
              exact v_zret h rfl dX5_readQ_97 (pB2_0 (by first | (rw [prR, if_pos rfl, if_neg cd, if_neg c17, if_neg ho4, if_neg c35, if_pos c67, if_pos c77, if_neg c86]; exact fun z => nomatch z) | (rw [prR, if_pos rfl, if_neg cd, if_neg c17, if_neg ho4, if_neg c35, if_pos c67, if_neg c77]; exact fun z => nomatch z) | (rw [prR, if_pos rfl, if_neg cd, if_neg c17, if_neg ho4, if_neg c35, if_neg c67]; exact fun z => nomatch z)) (by first | rw [prR, if_pos rfl, if_neg cd, if_neg c17, if_neg ho4, if_neg c35, if_pos c67, if_pos c77, if_neg c86] | rw [prR, if_pos rfl, if_neg cd, if_neg c17, if_neg ho4, if_neg c35, if_pos c67, if_neg c77] | rw [prR, if_pos rfl, if_neg cd, if_neg c17, if_neg ho4, if_neg c35, if_neg c67]))
          · refine v_if_eq h (t := 96) dX5_readQ_70 (by decide) (q := 73) rfl (fun _ => ?_) (fun c => absurd (by decide) c)
            refine v_iconst h (v := 0) dX5_readQ_96 (q := 97) rfl (by decide) ?_
            exact v_zret h rfl dX5_readQ_97 (pB2_0 (by first | (rw [prR, if_pos rfl, if_neg cd, if_neg c17, if_neg ho4, if_neg c35, if_pos c67, if_pos c77, if_neg c86]; exact fun z => nomatch z) | (rw [prR, if_pos rfl, if_neg cd, if_neg c17, if_neg ho4, if_neg c35, if_pos c67, if_neg c77]; exact fun z => nomatch z) | (rw [prR, if_pos rfl, if_neg cd, if_neg c17, if_neg ho4, if_neg c35, if_neg c67]; exact fun z => nomatch z)) (by first | rw [prR, if_pos rfl, if_neg cd, if_neg c17, if_neg ho4, if_neg c35, if_pos c67, if_pos c77, if_neg c86] | rw [prR, if_pos rfl, if_neg cd, if_neg c17, if_neg ho4, if_neg c35, if_pos c67, if_neg c77] | rw [prR, if_pos rfl, if_neg cd, if_neg c17, if_neg ho4, if_neg c35, if_neg c67]))
      · refine v_iconst h (v := 0) dX5_readQ_30 (q := 31) rfl (by decide) ?_
        exact v_zret h rfl dX5_readQ_31 (pB2_0 (by rw [prR, if_pos rfl, if_neg (fun z => c4 (dgB_iff.mpr z)), if_neg c17, if_pos (show 5 ≤ o from Nat.not_lt.mp (fun z => c27 (nI_lt z (by decide))))]; exact fun z => nomatch z) (by rw [prR, if_pos rfl, if_neg (fun z => c4 (dgB_iff.mpr z)), if_neg c17, if_pos (show 5 ≤ o from Nat.not_lt.mp (fun z => c27 (nI_lt z (by decide))))]))
