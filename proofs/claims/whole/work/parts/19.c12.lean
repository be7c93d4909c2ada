def bdN (k a : Nat) : Nat := [10, 11, 12, 13, 10, 20, 12, 13, 30, 11, 12, 13, 10, 11, 40, 13, 10, 50, 12, 13, 30, 11, 12, 60, 10, 11, 70, 71].getD (k * 4 + a) 0
def lvK (k : Nat) : Nat := [0, 1, 1, 1, 2, 2, 2].getD k 0
def abK (k : Nat) : Nat := [0, 0, 0, 0, 1, 2, 3].getD k 0
theorem bd_tab : ∀ k : Nat, k < 7 → ∀ a : Nat, a < 4 → (¬ b_tBO (k * 4 + a) = 0 → b_tBO (k * 4 + a) = nI (bdN k a)) ∧ (b_tBO (k * 4 + a) = 0 → abv (nI k) = nI (abK k) ∧ bdN (abK k) a = bdN k a ∧ lvK (abK k) < lvK k ∧ abK k < 7) := by decide +kernel
theorem lvK_le : ∀ k : Nat, k < 7 → lvK k ≤ 2 := by decide +kernel
theorem bd_set : ∀ k : Nat, k < 7 → ∀ a : Nat, a < 4 → bdN k a = 10 ∨ bdN k a = 11 ∨ bdN k a = 12 ∨ bdN k a = 13 ∨ bdN k a = 20 ∨ bdN k a = 30 ∨ bdN k a = 40 ∨ bdN k a = 50 ∨ bdN k a = 60 ∨ bdN k a = 70 ∨ bdN k a = 71 := by decide +kernel
abbrev bQ : Type := Nat × (Nat → Int32)
def pushT (body : Int32) (q : bQ) : bQ := if q.1 < 40 then (q.1 + 1, upd q.2 q.1 body) else q
theorem pushT_le {body : Int32} {q : bQ} (h : q.1 ≤ 40) : (pushT body q).1 ≤ 40 := by
  unfold pushT
  split
  · show q.1 + 1 ≤ 40
    omega
  · exact h
/-- what a VOICE answers, and THE TRACE behind it: kind K, number n, m of the boat; body by body -/
def vE (K : Nat) (n m : Int32) : Nat → Nat → Int32 → bQ → Int32 × bQ
  | 0, _, _, q => (0, q)
  | f + 1, body, x, q =>
    if body = 10 then (x + n, pushT 10 q) else
    if body = 11 then ((vE K n m f (bdN K 0) x (pushT 11 q)).1 * 2, (vE K n m f (bdN K 0) x (pushT 11 q)).2) else
    if body = 12 then (x - m, pushT 12 q) else
    if body = 13 then ((vE K n m f (bdN K 1) x (pushT 13 q)).1 ^^^ (vE K n m f (bdN K 2) x (vE K n m f (bdN K 1) x (pushT 13 q)).2).1, (vE K n m f (bdN K 2) x (vE K n m f (bdN K 1) x (pushT 13 q)).2).2) else
    if body = 20 then ((vE K n m f (bdN 0 1) x (pushT 20 q)).1 - (vE K n m f (bdN K 2) 1 (vE K n m f (bdN 0 1) x (pushT 20 q)).2).1, (vE K n m f (bdN K 2) 1 (vE K n m f (bdN 0 1) x (pushT 20 q)).2).2) else
    if body = 30 then ((vE K n m f (bdN 0 0) x (pushT 30 q)).1 * 3, (vE K n m f (bdN 0 0) x (pushT 30 q)).2) else
    if body = 40 then (-(vE K n m f (bdN 0 2) x (pushT 40 q)).1, (vE K n m f (bdN 0 2) x (pushT 40 q)).2) else
    if body = 50 then vE K n m f (bdN 1 1) (x + 1) (pushT 50 q) else
    if body = 60 then ((vE K n m f (bdN 2 3) x (pushT 60 q)).1 - (vE K n m f (bdN K 0) 2 (vE K n m f (bdN 2 3) x (pushT 60 q)).2).1, (vE K n m f (bdN K 0) 2 (vE K n m f (bdN 2 3) x (pushT 60 q)).2).2) else
    if body = 70 then ((vE K n m f (bdN 3 2) x (pushT 70 q)).1 ^^^ n, (vE K n m f (bdN 3 2) x (pushT 70 q)).2) else
    ((vE K n m f (bdN K 1) x (pushT 71 q)).1 - (vE K n m f (bdN 3 3) x (vE K n m f (bdN K 1) x (pushT 71 q)).2).1, (vE K n m f (bdN 3 3) x (vE K n m f (bdN K 1) x (pushT 71 q)).2).2)
theorem vE_10 {K : Nat} {n m x : Int32} {f : Nat} {q : bQ} : vE K n m (f + 1) 10 x q = (x + n, pushT 10 q) := by
  rw [vE, if_pos rfl]
theorem vE_11 {K : Nat} {n m x : Int32} {f : Nat} {q : bQ} : vE K n m (f + 1) 11 x q = ((vE K n m f (bdN K 0) x (pushT 11 q)).1 * 2, (vE K n m f (bdN K 0) x (pushT 11 q)).2) := by
  rw [vE, if_neg (by decide), if_pos rfl]
theorem vE_12 {K : Nat} {n m x : Int32} {f : Nat} {q : bQ} : vE K n m (f + 1) 12 x q = (x - m, pushT 12 q) := by
  rw [vE, if_neg (by decide), if_neg (by decide), if_pos rfl]
theorem vE_13 {K : Nat} {n m x : Int32} {f : Nat} {q : bQ} : vE K n m (f + 1) 13 x q = ((vE K n m f (bdN K 1) x (pushT 13 q)).1 ^^^ (vE K n m f (bdN K 2) x (vE K n m f (bdN K 1) x (pushT 13 q)).2).1, (vE K n m f (bdN K 2) x (vE K n m f (bdN K 1) x (pushT 13 q)).2).2) := by
  rw [vE, if_neg (by decide), if_neg (by decide), if_neg (by decide), if_pos rfl]
theorem vE_20 {K : Nat} {n m x : Int32} {f : Nat} {q : bQ} : vE K n m (f + 1) 20 x q = ((vE K n m f (bdN 0 1) x (pushT 20 q)).1 - (vE K n m f (bdN K 2) 1 (vE K n m f (bdN 0 1) x (pushT 20 q)).2).1, (vE K n m f (bdN K 2) 1 (vE K n m f (bdN 0 1) x (pushT 20 q)).2).2) := by
  rw [vE, if_neg (by decide), if_neg (by decide), if_neg (by decide), if_neg (by decide), if_pos rfl]
theorem vE_30 {K : Nat} {n m x : Int32} {f : Nat} {q : bQ} : vE K n m (f + 1) 30 x q = ((vE K n m f (bdN 0 0) x (pushT 30 q)).1 * 3, (vE K n m f (bdN 0 0) x (pushT 30 q)).2) := by
  rw [vE, if_neg (by decide), if_neg (by decide), if_neg (by decide), if_neg (by decide), if_neg (by decide), if_pos rfl]
theorem vE_40 {K : Nat} {n m x : Int32} {f : Nat} {q : bQ} : vE K n m (f + 1) 40 x q = (-(vE K n m f (bdN 0 2) x (pushT 40 q)).1, (vE K n m f (bdN 0 2) x (pushT 40 q)).2) := by
  rw [vE, if_neg (by decide), if_neg (by decide), if_neg (by decide), if_neg (by decide), if_neg (by decide), if_neg (by decide), if_pos rfl]
theorem vE_50 {K : Nat} {n m x : Int32} {f : Nat} {q : bQ} : vE K n m (f + 1) 50 x q = vE K n m f (bdN 1 1) (x + 1) (pushT 50 q) := by
  rw [vE, if_neg (by decide), if_neg (by decide), if_neg (by decide), if_neg (by decide), if_neg (by decide), if_neg (by decide), if_neg (by decide), if_pos rfl]
theorem vE_60 {K : Nat} {n m x : Int32} {f : Nat} {q : bQ} : vE K n m (f + 1) 60 x q = ((vE K n m f (bdN 2 3) x (pushT 60 q)).1 - (vE K n m f (bdN K 0) 2 (vE K n m f (bdN 2 3) x (pushT 60 q)).2).1, (vE K n m f (bdN K 0) 2 (vE K n m f (bdN 2 3) x (pushT 60 q)).2).2) := by
  rw [vE, if_neg (by decide), if_neg (by decide), if_neg (by decide), if_neg (by decide), if_neg (by decide), if_neg (by decide), if_neg (by decide), if_neg (by decide), if_pos rfl]
theorem vE_70 {K : Nat} {n m x : Int32} {f : Nat} {q : bQ} : vE K n m (f + 1) 70 x q = ((vE K n m f (bdN 3 2) x (pushT 70 q)).1 ^^^ n, (vE K n m f (bdN 3 2) x (pushT 70 q)).2) := by
  rw [vE, if_neg (by decide), if_neg (by decide), if_neg (by decide), if_neg (by decide), if_neg (by decide), if_neg (by decide), if_neg (by decide), if_neg (by decide), if_neg (by decide), if_pos rfl]
theorem vE_71 {K : Nat} {n m x : Int32} {f : Nat} {q : bQ} : vE K n m (f + 1) 71 x q = ((vE K n m f (bdN K 1) x (pushT 71 q)).1 - (vE K n m f (bdN 3 3) x (vE K n m f (bdN K 1) x (pushT 71 q)).2).1, (vE K n m f (bdN 3 3) x (vE K n m f (bdN K 1) x (pushT 71 q)).2).2) := by
  rw [vE, if_neg (by decide), if_neg (by decide), if_neg (by decide), if_neg (by decide), if_neg (by decide), if_neg (by decide), if_neg (by decide), if_neg (by decide), if_neg (by decide), if_neg (by decide)]
theorem vE_le (K : Nat) (n m : Int32) : ∀ (f body : Nat) (x : Int32) (q : bQ), q.1 ≤ 40 → (vE K n m f body x q).2.1 ≤ 40
  | 0, _, _, _, h => h
  | f + 1, body, x, q, h => by
    have ih := vE_le K n m f
    rw [vE]
    repeat' split
    · exact pushT_le h
    · exact ih _ _ _ (pushT_le h)
    · exact pushT_le h
    · exact ih _ _ _ (ih _ _ _ (pushT_le h))
    · exact ih _ _ _ (ih _ _ _ (pushT_le h))
    · exact ih _ _ _ (pushT_le h)
    · exact ih _ _ _ (pushT_le h)
    · exact ih _ _ _ (pushT_le h)
    · exact ih _ _ _ (ih _ _ _ (pushT_le h))
    · exact ih _ _ _ (pushT_le h)
    · exact ih _ _ _ (ih _ _ _ (pushT_le h))
/-- whether so much nesting is enough -/
def okV (K : Nat) : Nat → Nat → Bool
  | 0, _ => false
  | f + 1, body =>
    if body = 10 then true else if body = 11 then okV K f (bdN K 0) else if body = 12 then true else if body = 13 then okV K f (bdN K 1) && okV K f (bdN K 2) else
    if body = 20 then okV K f (bdN 0 1) && okV K f (bdN K 2) else if body = 30 then okV K f (bdN 0 0) else if body = 40 then okV K f (bdN 0 2) else if body = 50 then okV K f (bdN 1 1) else
    if body = 60 then okV K f (bdN 2 3) && okV K f (bdN K 0) else if body = 70 then okV K f (bdN 3 2) else okV K f (bdN K 1) && okV K f (bdN 3 3)
theorem okV_11 {K f : Nat} : okV K (f + 1) 11 = okV K f (bdN K 0) := by
  rw [okV, if_neg (by decide), if_pos rfl]
theorem okV_13 {K f : Nat} : okV K (f + 1) 13 = (okV K f (bdN K 1) && okV K f (bdN K 2)) := by
  rw [okV, if_neg (by decide), if_neg (by decide), if_neg (by decide), if_pos rfl]
theorem okV_20 {K f : Nat} : okV K (f + 1) 20 = (okV K f (bdN 0 1) && okV K f (bdN K 2)) := by
  rw [okV, if_neg (by decide), if_neg (by decide), if_neg (by decide), if_neg (by decide), if_pos rfl]
theorem okV_30 {K f : Nat} : okV K (f + 1) 30 = okV K f (bdN 0 0) := by
  rw [okV, if_neg (by decide), if_neg (by decide), if_neg (by decide), if_neg (by decide), if_neg (by decide), if_pos rfl]
theorem okV_40 {K f : Nat} : okV K (f + 1) 40 = okV K f (bdN 0 2) := by
  rw [okV, if_neg (by decide), if_neg (by decide), if_neg (by decide), if_neg (by decide), if_neg (by decide), if_neg (by decide), if_pos rfl]
theorem okV_50 {K f : Nat} : okV K (f + 1) 50 = okV K f (bdN 1 1) := by
  rw [okV, if_neg (by decide), if_neg (by decide), if_neg (by decide), if_neg (by decide), if_neg (by decide), if_neg (by decide), if_neg (by decide), if_pos rfl]
theorem okV_60 {K f : Nat} : okV K (f + 1) 60 = (okV K f (bdN 2 3) && okV K f (bdN K 0)) := by
  rw [okV, if_neg (by decide), if_neg (by decide), if_neg (by decide), if_neg (by decide), if_neg (by decide), if_neg (by decide), if_neg (by decide), if_neg (by decide), if_pos rfl]
theorem okV_70 {K f : Nat} : okV K (f + 1) 70 = okV K f (bdN 3 2) := by
  rw [okV, if_neg (by decide), if_neg (by decide), if_neg (by decide), if_neg (by decide), if_neg (by decide), if_neg (by decide), if_neg (by decide), if_neg (by decide), if_neg (by decide), if_pos rfl]
theorem okV_71 {K f : Nat} : okV K (f + 1) 71 = (okV K f (bdN K 1) && okV K f (bdN 3 3)) := by
  rw [okV, if_neg (by decide), if_neg (by decide), if_neg (by decide), if_neg (by decide), if_neg (by decide), if_neg (by decide), if_neg (by decide), if_neg (by decide), if_neg (by decide), if_neg (by decide)]
theorem okV_all : ∀ K : Nat, K < 7 → ∀ a : Nat, a < 4 → okV K 8 (bdN K a) = true := by decide +kernel
/-- the Voices with this TRACE -/
def VS (σ : bSt) (me : Nat) (q : bQ) : bSt := b_up (b_set σ (me + 1) q.2) me 1 (nI q.1)
theorem VS_f {σ : bSt} {me k : Nat} {q : bQ} (h : k ≠ 1) : VS σ me q me k = σ me k := by
  unfold VS
  rw [b_up_s, upd_n h, b_set_n (by omega)]
theorem VS_1 {σ : bSt} {me : Nat} {q : bQ} : VS σ me q me 1 = nI q.1 := by
  unfold VS
  rw [b_up_s, upd_s]
theorem VS_push {σ : bSt} {me : Nat} {q : bQ} {body : Int32} (h : q.1 < 40) : b_up (b_up (VS σ me q) (me + 1) q.1 body) me 1 (nI (q.1 + 1)) = VS σ me (pushT body q) := by
  unfold pushT
  rw [if_pos h]
  funext j
  unfold VS
  by_cases c : j = me
  · subst c
    rw [b_up_s, b_up_s, b_up_n (by omega), b_up_s, b_set_n (by omega), b_set_n (by omega)]
    funext i
    unfold upd
    by_cases c2 : i = 1
    · rw [if_pos c2, if_pos c2]
    · rw [if_neg c2, if_neg c2, if_neg c2]
  · rw [b_up_n c, b_up_n c]
    by_cases c1 : j = me + 1
    · subst c1
      rw [b_up_s, b_set_s, b_up_n (by omega), b_set_s]
    · rw [b_up_n c1, b_set_n c1, b_up_n c, b_set_n c1]

set_option maxHeartbeats 4000000 in
set_option maxRecDepth 100000 in
theorem lX8_bodyFrom_4 {w : bw} {σ : bSt} {k a : Nat} (hk : k < 7) (ha : a < 4) {x : bX} (h : Cx x w cX8_bodyFrom RX8 5 (some .int) (rmm 1 20)) : ∀ n i j : Nat, j < 7 → lvK j = n → i + n ≤ 2 → bdN j a = bdN k a → V x w 5 (pI (nI (bdN k a)) σ) 4 [(3, .int (nI i)), (2, .int (nI j)), (0, .int (nI k)), (1, .int (nI a))] [] σ := by
  refine b_ind (fun n ih => ?_)
  intro i j hj hn hi hbd
  have htb := bd_tab j hj a ha
  refine v_iload_n h (i := 3) dX8_bodyFrom_4 (q := 5) rfl rfl 0 rfl ?_
  refine v_gsN h (b_stat1 h.ev).1 m730 dX8_bodyFrom_5 (q := 8) rfl ?_
  refine v_tlen h (v := 7) (b_stat1 h.ev).2 rfl dX8_bodyFrom_8 (q := 9) rfl ?_
  refine v_icmp_ge h (t := 64) dX8_bodyFrom_9 (by decide) (q := 12) rfl (fun c9 => absurd c9 (nnle (k := 7) rfl (by omega) (by decide))) (fun c9 => ?_)
  refine v_iload_n h (i := 2) dX8_bodyFrom_12 (q := 13) rfl rfl 1 rfl ?_
  refine v_if_lt h (t := 64) dX8_bodyFrom_13 (by decide) (q := 16) rfl (fun c13 => absurd c13 (nI_pos (by omega))) (fun c13 => ?_)
  refine v_iload_n h (i := 2) dX8_bodyFrom_16 (q := 17) rfl rfl 1 rfl ?_
  refine v_iconst h (v := 4) dX8_bodyFrom_17 (q := 18) rfl (by decide) ?_
  refine v_imul h dX8_bodyFrom_18 (q := 19) rfl ?_
  rw [show ((nI j) * 4 : Int32) = nI (j * 4) from (nI_mulN j 4)]
  refine v_iload_n h (i := 1) dX8_bodyFrom_19 (q := 20) rfl rfl 3 rfl ?_
  refine v_iadd h dX8_bodyFrom_20 (q := 21) rfl ?_
  rw [show ((nI (j * 4)) + (nI a) : Int32) = nI (j * 4 + a) from (nI_add (j * 4) a)]
  refine v_istore h (i := 4) (ls1 := [(4, .int (nI (j * 4 + a))), (3, .int (nI i)), (2, .int (nI j)), (0, .int (nI k)), (1, .int (nI a))]) dX8_bodyFrom_21 (q := 23) rfl (Nat.le_of_ble_eq_true rfl) rfl ?_
  refine v_iload h (i := 4) dX8_bodyFrom_23 (q := 25) rfl 0 rfl ?_
  refine v_if_lt h (t := 53) dX8_bodyFrom_25 (by decide) (q := 28) rfl (fun c25 => absurd c25 (nI_pos (by omega))) (fun c25 => ?_)
  refine v_iload h (i := 4) dX8_bodyFrom_28 (q := 30) rfl 0 rfl ?_
  refine v_gs h (b_stat2 h.ev).1 m731 dX8_bodyFrom_30 (q := 33) rfl ?_
  refine v_tlen h (v := 28) (b_stat2 h.ev).2 rfl dX8_bodyFrom_33 (q := 34) rfl ?_
  refine v_icmp_ge h (t := 53) dX8_bodyFrom_34 (by decide) (q := 37) rfl (fun c34 => absurd c34 (nnle (k := 28) rfl (by omega) (by decide))) (fun c34 => ?_)
  refine v_gs h (b_stat2 h.ev).1 m731 dX8_bodyFrom_37 (q := 40) rfl ?_
  refine v_iload h (i := 4) dX8_bodyFrom_40 (q := 42) rfl 0 rfl ?_
  refine v_ti h (k := (j * 4 + a)) (b_stat2 h.ev).2 (vp_in_nI (by omega) (by decide)) (nI_clamp (by omega)) dX8_bodyFrom_42 (q := 43) rfl ?_
  refine v_if_eq h (t := 53) dX8_bodyFrom_43 (by decide) (q := 46) rfl (fun c43 => ?_) (fun c43 => ?_)
  · refine v_iload_n h (i := 2) dX8_bodyFrom_53 (q := 54) rfl rfl 2 rfl ?_
    refine v_callSN h (As := [.int (nI j)]) (rest := []) (c_X9_above (k := nI j)) cal_X9_above m373 m733 ⟨rfl, rfl, Nat.le_of_ble_eq_true rfl, Nat.le_of_ble_eq_true rfl⟩ rfl rfl (Nat.le_of_ble_eq_true rfl) dX8_bodyFrom_54 (q := 57) rfl (kI ?_)
    rw [show (abv (nI j) : Int32) = nI (abK j) from (htb.2 c43).1]
    refine v_istore_n h (i := 2) (ls1 := [(2, .int (nI (abK j))), (4, .int (nI (j * 4 + a))), (3, .int (nI i)), (0, .int (nI k)), (1, .int (nI a))]) dX8_bodyFrom_57 (q := 58) rfl rfl (Nat.le_of_ble_eq_true rfl) rfl ?_
    refine v_iinc h (p := 2) (u := nI (i + 1)) (ls1 := [(3, .int (nI (i + 1))), (2, .int (nI (abK j))), (4, .int (nI (j * 4 + a))), (0, .int (nI k)), (1, .int (nI a))]) dX8_bodyFrom_58 (q := 61) rfl rfl (nI_1 i) (Nat.le_of_ble_eq_true rfl) rfl ?_
    refine v_goto h (t := 4) dX8_bodyFrom_61 (by decide) ?_
    refine v_ls [0, 1, 3, 4] (ls2 := [(3, .int (nI (i + 1))), (2, .int (nI (abK j))), (0, .int (nI k)), (1, .int (nI a))]) rfl ?_
    have hz := htb.2 c43
    exact ih (lvK (abK j)) (by rw [← hn]; exact hz.2.2.1) (i + 1) (abK j) hz.2.2.2 rfl (by have := hz.2.2.1; omega) (hz.2.1.trans hbd)
  · refine v_gs h (b_stat2 h.ev).1 m731 dX8_bodyFrom_46 (q := 49) rfl ?_
    refine v_iload h (i := 4) dX8_bodyFrom_49 (q := 51) rfl 0 rfl ?_
    refine v_ti h (k := (j * 4 + a)) (b_stat2 h.ev).2 (vp_in_nI (by omega) (by decide)) (nI_clamp (by omega)) dX8_bodyFrom_51 (q := 52) rfl ?_
    exact v_iret h dX8_bodyFrom_52 ⟨by rw [htb.1 c43, hbd], rfl⟩
set_option maxHeartbeats 4000000 in
set_option maxRecDepth 100000 in
theorem c_X8_bodyFrom {w : bw} {σ : bSt} {k a : Nat} (hk : k < 7) (ha : a < 4) : MV yX8_bodyFrom cX8_bodyFrom 5 (some .int) (rmm 1 20) w [.int (nI k), .int (nI a)] σ (pI (nI (bdN k a)) σ) := by
  refine b_met (ls := [(0, .int (nI k)), (1, .int (nI a))]) (by decide) (Nat.le_of_ble_eq_true rfl) rfl (fun x h => ?_)
  refine v_iload_n h (i := 0) dX8_bodyFrom_0 (q := 1) rfl rfl 0 rfl ?_
  refine v_istore_n h (i := 2) (ls1 := [(2, .int (nI k)), (0, .int (nI k)), (1, .int (nI a))]) dX8_bodyFrom_1 (q := 2) rfl rfl (Nat.le_of_ble_eq_true rfl) rfl ?_
  refine v_iconst h (v := 0) dX8_bodyFrom_2 (q := 3) rfl (by decide) ?_
  refine v_istore_n h (i := 3) (ls1 := [(3, .int 0), (2, .int (nI k)), (0, .int (nI k)), (1, .int (nI a))]) dX8_bodyFrom_3 (q := 4) rfl rfl (Nat.le_of_ble_eq_true rfl) rfl ?_
  exact lX8_bodyFrom_4 hk ha h (lvK k) 0 k hk rfl (by have := lvK_le k hk; omega) rfl

set_option maxHeartbeats 4000000 in
set_option maxRecDepth 100000 in
theorem c_X8_begin {w : bw} {σ : bSt} {me : Nat} {q : bQ} {body : Int32} (hs : sVoices w me) (hq : q.1 ≤ 40) : MV yX8_begin cX8_begin 2 none (rmm 0 0) w [.ref (b_ad w me), .int body] (VS σ me q) (pU (VS σ me (pushT body q))) := by
  refine b_met (ls := [(0, .ref (b_ad w me)), (1, .int body)]) (by decide) (Nat.le_of_ble_eq_true rfl) rfl (fun x h => ?_)
  refine v_aload_n h (i := 0) dX8_begin_0 (q := 1) rfl rfl 0 rfl ?_
  refine v_get h (k := 1) (v := .int ((VS σ me q) me 1)) cls8 hs.1.1 hs.1.2 (Nat.le_of_ble_eq_true rfl) m196 rfl dX8_begin_1 (q := 4) rfl ?_
  rw [show ((VS σ me q) me 1 : Int32) = nI q.1 from VS_1]
  refine v_if_lt h (t := 16) dX8_begin_4 (by decide) (q := 7) rfl (fun c4 => absurd c4 (nI_pos (by omega))) (fun c4 => ?_)
  refine v_aload_n h (i := 0) dX8_begin_7 (q := 8) rfl rfl 0 rfl ?_
  refine v_get h (k := 1) (v := .int ((VS σ me q) me 1)) cls8 hs.1.1 hs.1.2 (Nat.le_of_ble_eq_true rfl) m196 rfl dX8_begin_8 (q := 11) rfl ?_
  rw [show ((VS σ me q) me 1 : Int32) = nI q.1 from VS_1]
  refine v_bipush h (v := 40) dX8_begin_11 (q := 13) rfl (by decide) ?_
  refine v_icmp_lt h (t := 17) dX8_begin_13 (by decide) (q := 16) rfl (fun c13 => ?_) (fun c13 => ?_)
  · have hq4 : q.1 < 40 := (nI_ltI (a := q.1) (b := 40) (by omega) (by decide)).mp c13
    refine v_aload_n h (i := 0) dX8_begin_17 (q := 18) rfl rfl 0 rfl ?_
    refine v_get h (k := 0) (v := .ref (b_ad w (me + 1))) cls8 hs.1.1 hs.1.2 (Nat.le_of_ble_eq_true rfl) m194 rfl dX8_begin_18 (q := 21) rfl ?_
    refine v_aload_n h (i := 0) dX8_begin_21 (q := 22) rfl rfl 0 rfl ?_
    refine v_get h (k := 1) (v := .int ((VS σ me q) me 1)) cls8 hs.1.1 hs.1.2 (Nat.le_of_ble_eq_true rfl) m196 rfl dX8_begin_22 (q := 25) rfl ?_
    rw [show ((VS σ me q) me 1 : Int32) = nI q.1 from VS_1]
    refine v_iload_n h (i := 1) dX8_begin_25 (q := 26) rfl rfl 1 rfl ?_
    refine v_iast h (k := q.1) hs.2.1 hs.2.2 (vp_in_nI (by omega) (by decide)) (nI_clamp (by omega)) dX8_begin_26 (q := 27) rfl ?_
    refine v_aload_n h (i := 0) dX8_begin_27 (q := 28) rfl rfl 0 rfl ?_
    refine v_dup h dX8_begin_28 (q := 29) rfl rfl ?_
    refine v_get h (k := 1) (v := .int ((b_up (VS σ me q) (me + 1) q.1 body) me 1)) cls8 hs.1.1 hs.1.2 (Nat.le_of_ble_eq_true rfl) m196 rfl dX8_begin_29 (q := 32) rfl ?_
    rw [show ((b_up (VS σ me q) (me + 1) q.1 body) me 1 : Int32) = nI q.1 from (by rw [b_up_n (by omega)]; exact VS_1)]
    refine v_iconst h (v := 1) dX8_begin_32 (q := 33) rfl (by decide) ?_
    refine v_iadd h dX8_begin_33 (q := 34) rfl ?_
    rw [show ((nI q.1) + 1 : Int32) = nI (q.1 + 1) from (nI_1 q.1)]
    refine v_put h (k := 1) cls8 hs.1.1 hs.1.2 (Nat.le_of_ble_eq_true rfl) rfl m196 rfl ⟨rfl, rfl⟩ dX8_begin_34 (q := 37) rfl ?_
    exact v_vret h dX8_begin_37 ⟨rfl, VS_push hq4⟩
  · exact v_vret h dX8_begin_16 ⟨rfl, by unfold pushT; rw [if_neg (fun z => c13 (nI_lt (a := q.1) (b := 40) z (by decide)))]⟩

/-- from() with so much nesting to come -/
def VF (w : bw) (σ : bSt) (me K : Nat) (n m : Int32) (f : Nat) : Prop := ∀ (k a : Nat) (x : Int32) (d : Nat) (q : bQ), k < 7 → a < 4 → okV K f (bdN k a) = true → d + f ≤ 40 → q.1 ≤ 40 →
  MV yX8_from cX8_from 8 (some .int) (rmm (4 * f + 4) (100 * f + 100)) w [.ref (b_ad w me), .int (nI k), .int (nI a), .int x, .int (nI d)] (VS σ me q) (pI (vE K n m f (bdN k a) x q).1 (VS σ me (vE K n m f (bdN k a) x q).2))

set_option maxHeartbeats 4000000 in
set_option maxRecDepth 100000 in
theorem c_X8_own {w : bw} {σ : bSt} {me K a d f : Nat} {n m v : Int32} {q : bQ} (hs : sVoices w me) (hK : σ me 3 = nI K) (hK7 : K < 7) (hn : σ me 2 = n) (hm : σ me 4 = m) (hVF : VF w σ me K n m f) (ha : a < 4) (hok : okV K f (bdN K a) = true) (hd : d + f ≤ 40) (hq : q.1 ≤ 40) : MV yX8_own cX8_own 4 (some .int) (rmm (4 * f + 6) (100 * f + 150)) w [.ref (b_ad w me), .int (nI a), .int v, .int (nI d)] (VS σ me q) (pI (vE K n m f (bdN K a) v q).1 (VS σ me (vE K n m f (bdN K a) v q).2)) := by
  refine b_met (ls := [(0, .ref (b_ad w me)), (1, .int (nI a)), (2, .int v), (3, .int (nI d))]) (by decide) (Nat.le_of_ble_eq_true rfl) rfl (fun x h => ?_)
  refine v_aload_n h (i := 0) dX8_own_0 (q := 1) rfl rfl 0 rfl ?_
  refine v_aload_n h (i := 0) dX8_own_1 (q := 2) rfl rfl 0 rfl ?_
  refine v_get h (k := 3) (v := .int ((VS σ me q) me 3)) cls8 hs.1.1 hs.1.2 (Nat.le_of_ble_eq_true rfl) m199 rfl dX8_own_2 (q := 5) rfl ?_
  rw [show ((VS σ me q) me 3 : Int32) = nI K from (by rw [VS_f (by decide)]; exact hK)]
  refine v_iload_n h (i := 1) dX8_own_5 (q := 6) rfl rfl 1 rfl ?_
  refine v_iload_n h (i := 2) dX8_own_6 (q := 7) rfl rfl 2 rfl ?_
  refine v_iload_n h (i := 3) dX8_own_7 (q := 8) rfl rfl 3 rfl ?_
  refine v_callV h (As := [.int (nI K), .int (nI a), .int v, .int (nI d)]) (rest := []) ((hVF K a v d q hK7 ha hok hd hq)) cal_X8_from calV_X8_from m723 ⟨rfl, rfl, by dsimp only; omega, by dsimp only; omega⟩ rfl hs.1.1 hs.1.2 ⟨_, _, rfl⟩ rfl (Nat.le_of_ble_eq_true rfl) dX8_own_8 (q := 11) rfl (kI ?_)
  exact v_iret h dX8_own_11 ⟨rfl, rfl⟩

set_option maxHeartbeats 4000000 in
set_option maxRecDepth 100000 in
theorem c_X8_from_10 {w : bw} {σ : bSt} {me K k a d f : Nat} {n m v : Int32} {q : bQ} (hs : sVoices w me) (hK : σ me 3 = nI K) (hK7 : K < 7) (hn : σ me 2 = n) (hm : σ me 4 = m) (hVF : VF w σ me K n m f) (hk : k < 7) (ha : a < 4) (hB : bdN k a = 10) (hok : okV K (f + 1) 10 = true) (hd : d + (f + 1) ≤ 40) (hq : q.1 ≤ 40) : MV yX8_from cX8_from 8 (some .int) (rmm (4 * f + 8) (100 * f + 200)) w [.ref (b_ad w me), .int (nI k), .int (nI a), .int v, .int (nI d)] (VS σ me q) (pI (vE K n m (f + 1) 10 v q).1 (VS σ me (vE K n m (f + 1) 10 v q).2)) := by
  refine b_met (ls := [(0, .ref (b_ad w me)), (1, .int (nI k)), (2, .int (nI a)), (3, .int v), (4, .int (nI d))]) (by decide) (Nat.le_of_ble_eq_true rfl) rfl (fun x h => ?_)
  refine v_iload_n h (i := 1) dX8_from_0 (q := 1) rfl rfl 1 rfl ?_
  refine v_iload_n h (i := 2) dX8_from_1 (q := 2) rfl rfl 2 rfl ?_
  refine v_callS h (As := [.int (nI k), .int (nI a)]) (rest := []) ((c_X8_bodyFrom hk ha)) cal_X8_bodyFrom m728 m727 ⟨rfl, rfl, by dsimp only; omega, by dsimp only; omega⟩ rfl rfl (Nat.le_of_ble_eq_true rfl) dX8_from_2 (q := 5) rfl (kI ?_)
  rw [show (nI (bdN k a) : Int32) = 10 from (by rw [hB]; rfl)]
  refine v_istore h (i := 5) (ls1 := [(5, .int 10), (0, .ref (b_ad w me)), (1, .int (nI k)), (2, .int (nI a)), (3, .int v), (4, .int (nI d))]) dX8_from_5 (q := 7) rfl (Nat.le_of_ble_eq_true rfl) rfl ?_
  refine v_iload h (i := 5) dX8_from_7 (q := 9) rfl 0 rfl ?_
  refine v_if_eq h (t := 19) dX8_from_9 (by decide) (q := 12) rfl (fun c => absurd c (by decide)) (fun _ => ?_)
  refine v_iload h (i := 4) dX8_from_12 (q := 14) rfl 5 rfl ?_
  refine v_bipush h (v := 40) dX8_from_14 (q := 16) rfl (by decide) ?_
  refine v_icmp_lt h (t := 21) dX8_from_16 (by decide) (q := 19) rfl (fun c16 => ?_) (fun c16 => absurd (nltl (k := 40) rfl (by omega) (by decide)) c16)
  refine v_aload_n h (i := 0) dX8_from_21 (q := 22) rfl rfl 1 rfl ?_
  refine v_iload h (i := 5) dX8_from_22 (q := 24) rfl 0 rfl ?_
  refine v_callV h (As := [.int 10]) (rest := []) ((c_X8_begin (q := q) (body := 10) hs hq)) cal_X8_begin calV_X8_begin m734 ⟨rfl, rfl, by dsimp only; omega, by dsimp only; omega⟩ rfl hs.1.1 hs.1.2 ⟨_, _, rfl⟩ rfl (Nat.le_of_ble_eq_true rfl) dX8_from_24 (q := 27) rfl (kU ?_)
  refine v_iload h (i := 5) dX8_from_27 (q := 29) rfl 0 rfl ?_
  refine v_bipush h (v := 10) dX8_from_29 (q := 31) rfl (by decide) ?_
  refine v_idiv h dX8_from_31 (q := 32) rfl (by decide) ?_
  refine v_iconst h (v := 1) dX8_from_32 (q := 33) rfl (by decide) ?_
  refine v_isub h dX8_from_33 (q := 34) rfl ?_
  rw [show ((10 / 10) - 1 : Int32) = 0 from (by decide)]
  refine v_callSN h (As := [.int 0]) (rest := []) (c_X9_above (k := 0)) cal_X9_above m373 m733 ⟨rfl, rfl, by dsimp only; omega, by dsimp only; omega⟩ rfl rfl (Nat.le_of_ble_eq_true rfl) dX8_from_34 (q := 37) rfl (kI ?_)
  rw [show (abv 0 : Int32) = -1 from (by decide)]
  refine v_istore h (i := 6) (ls1 := [(6, .int (-1)), (5, .int 10), (0, .ref (b_ad w me)), (1, .int (nI k)), (2, .int (nI a)), (3, .int v), (4, .int (nI d))]) dX8_from_37 (q := 39) rfl (Nat.le_of_ble_eq_true rfl) rfl ?_
  refine v_iload h (i := 4) dX8_from_39 (q := 41) rfl 6 rfl ?_
  refine v_iconst h (v := 1) dX8_from_41 (q := 42) rfl (by decide) ?_
  refine v_iadd h dX8_from_42 (q := 43) rfl ?_
  rw [show ((nI d) + 1 : Int32) = nI (d + 1) from (nI_1 d)]
  refine v_istore h (i := 7) (ls1 := [(7, .int (nI (d + 1))), (6, .int (-1)), (5, .int 10), (0, .ref (b_ad w me)), (1, .int (nI k)), (2, .int (nI a)), (3, .int v), (4, .int (nI d))]) dX8_from_43 (q := 45) rfl (Nat.le_of_ble_eq_true rfl) rfl ?_
  refine v_iload h (i := 5) dX8_from_45 (q := 47) rfl 2 rfl ?_
  refine v_lookup h (off := 97) (t := 144) dX8_from_47 (by decide +kernel) (by decide +kernel) (by decide) ?_
  refine v_iload_n h (i := 3) dX8_from_144 (q := 145) rfl rfl 6 rfl ?_
  refine v_aload_n h (i := 0) dX8_from_145 (q := 146) rfl rfl 3 rfl ?_
  refine v_get h (k := 2) (v := .int ((VS σ me (pushT 10 q)) me 2)) cls8 hs.1.1 hs.1.2 (Nat.le_of_ble_eq_true rfl) m198 rfl dX8_from_146 (q := 149) rfl ?_
  rw [show ((VS σ me (pushT 10 q)) me 2 : Int32) = n from (by rw [VS_f (by decide)]; exact hn)]
  refine v_iadd h dX8_from_149 (q := 150) rfl ?_
  exact v_iret h dX8_from_150 ⟨by rw [vE_10], by rw [vE_10]⟩

set_option maxHeartbeats 4000000 in
set_option maxRecDepth 100000 in
theorem c_X8_from_11 {w : bw} {σ : bSt} {me K k a d f : Nat} {n m v : Int32} {q : bQ} (hs : sVoices w me) (hK : σ me 3 = nI K) (hK7 : K < 7) (hn : σ me 2 = n) (hm : σ me 4 = m) (hVF : VF w σ me K n m f) (hk : k < 7) (ha : a < 4) (hB : bdN k a = 11) (hok : okV K (f + 1) 11 = true) (hd : d + (f + 1) ≤ 40) (hq : q.1 ≤ 40) : MV yX8_from cX8_from 8 (some .int) (rmm (4 * f + 8) (100 * f + 200)) w [.ref (b_ad w me), .int (nI k), .int (nI a), .int v, .int (nI d)] (VS σ me q) (pI (vE K n m (f + 1) 11 v q).1 (VS σ me (vE K n m (f + 1) 11 v q).2)) := by
  refine b_met (ls := [(0, .ref (b_ad w me)), (1, .int (nI k)), (2, .int (nI a)), (3, .int v), (4, .int (nI d))]) (by decide) (Nat.le_of_ble_eq_true rfl) rfl (fun x h => ?_)
  rw [okV_11] at hok
  refine v_iload_n h (i := 1) dX8_from_0 (q := 1) rfl rfl 1 rfl ?_
  refine v_iload_n h (i := 2) dX8_from_1 (q := 2) rfl rfl 2 rfl ?_
  refine v_callS h (As := [.int (nI k), .int (nI a)]) (rest := []) ((c_X8_bodyFrom hk ha)) cal_X8_bodyFrom m728 m727 ⟨rfl, rfl, by dsimp only; omega, by dsimp only; omega⟩ rfl rfl (Nat.le_of_ble_eq_true rfl) dX8_from_2 (q := 5) rfl (kI ?_)
  rw [show (nI (bdN k a) : Int32) = 11 from (by rw [hB]; rfl)]
  refine v_istore h (i := 5) (ls1 := [(5, .int 11), (0, .ref (b_ad w me)), (1, .int (nI k)), (2, .int (nI a)), (3, .int v), (4, .int (nI d))]) dX8_from_5 (q := 7) rfl (Nat.le_of_ble_eq_true rfl) rfl ?_
  refine v_iload h (i := 5) dX8_from_7 (q := 9) rfl 0 rfl ?_
  refine v_if_eq h (t := 19) dX8_from_9 (by decide) (q := 12) rfl (fun c => absurd c (by decide)) (fun _ => ?_)
  refine v_iload h (i := 4) dX8_from_12 (q := 14) rfl 5 rfl ?_
  refine v_bipush h (v := 40) dX8_from_14 (q := 16) rfl (by decide) ?_
  refine v_icmp_lt h (t := 21) dX8_from_16 (by decide) (q := 19) rfl (fun c16 => ?_) (fun c16 => absurd (nltl (k := 40) rfl (by omega) (by decide)) c16)
  refine v_aload_n h (i := 0) dX8_from_21 (q := 22) rfl rfl 1 rfl ?_
  refine v_iload h (i := 5) dX8_from_22 (q := 24) rfl 0 rfl ?_
  refine v_callV h (As := [.int 11]) (rest := []) ((c_X8_begin (q := q) (body := 11) hs hq)) cal_X8_begin calV_X8_begin m734 ⟨rfl, rfl, by dsimp only; omega, by dsimp only; omega⟩ rfl hs.1.1 hs.1.2 ⟨_, _, rfl⟩ rfl (Nat.le_of_ble_eq_true rfl) dX8_from_24 (q := 27) rfl (kU ?_)
  refine v_iload h (i := 5) dX8_from_27 (q := 29) rfl 0 rfl ?_
  refine v_bipush h (v := 10) dX8_from_29 (q := 31) rfl (by decide) ?_
  refine v_idiv h dX8_from_31 (q := 32) rfl (by decide) ?_
  refine v_iconst h (v := 1) dX8_from_32 (q := 33) rfl (by decide) ?_
  refine v_isub h dX8_from_33 (q := 34) rfl ?_
  rw [show ((11 / 10) - 1 : Int32) = 0 from (by decide)]
  refine v_callSN h (As := [.int 0]) (rest := []) (c_X9_above (k := 0)) cal_X9_above m373 m733 ⟨rfl, rfl, by dsimp only; omega, by dsimp only; omega⟩ rfl rfl (Nat.le_of_ble_eq_true rfl) dX8_from_34 (q := 37) rfl (kI ?_)
  rw [show (abv 0 : Int32) = -1 from (by decide)]
  refine v_istore h (i := 6) (ls1 := [(6, .int (-1)), (5, .int 11), (0, .ref (b_ad w me)), (1, .int (nI k)), (2, .int (nI a)), (3, .int v), (4, .int (nI d))]) dX8_from_37 (q := 39) rfl (Nat.le_of_ble_eq_true rfl) rfl ?_
  refine v_iload h (i := 4) dX8_from_39 (q := 41) rfl 6 rfl ?_
  refine v_iconst h (v := 1) dX8_from_41 (q := 42) rfl (by decide) ?_
  refine v_iadd h dX8_from_42 (q := 43) rfl ?_
  rw [show ((nI d) + 1 : Int32) = nI (d + 1) from (nI_1 d)]
  refine v_istore h (i := 7) (ls1 := [(7, .int (nI (d + 1))), (6, .int (-1)), (5, .int 11), (0, .ref (b_ad w me)), (1, .int (nI k)), (2, .int (nI a)), (3, .int v), (4, .int (nI d))]) dX8_from_43 (q := 45) rfl (Nat.le_of_ble_eq_true rfl) rfl ?_
  refine v_iload h (i := 5) dX8_from_45 (q := 47) rfl 2 rfl ?_
  refine v_lookup h (off := 104) (t := 151) dX8_from_47 (by decide +kernel) (by decide +kernel) (by decide) ?_
  refine v_aload_n h (i := 0) dX8_from_151 (q := 152) rfl rfl 3 rfl ?_
  refine v_iconst h (v := 0) dX8_from_152 (q := 153) rfl (by decide) ?_
  refine v_iload_n h (i := 3) dX8_from_153 (q := 154) rfl rfl 6 rfl ?_
  refine v_iload h (i := 7) dX8_from_154 (q := 156) rfl 0 rfl ?_
  refine v_callV h (As := [.int 0, .int v, .int (nI (d + 1))]) (rest := []) ((c_X8_own (a := 0) (d := d + 1) (v := v) (q := pushT 11 q) hs hK hK7 hn hm hVF (by decide) hok (by omega) (pushT_le hq))) cal_X8_own calV_X8_own m719 ⟨rfl, rfl, by dsimp only; omega, by dsimp only; omega⟩ rfl hs.1.1 hs.1.2 ⟨_, _, rfl⟩ rfl (Nat.le_of_ble_eq_true rfl) dX8_from_156 (q := 159) rfl (kI ?_)
  refine v_iconst h (v := 2) dX8_from_159 (q := 160) rfl (by decide) ?_
  refine v_imul h dX8_from_160 (q := 161) rfl ?_
  exact v_iret h dX8_from_161 ⟨by rw [vE_11], by rw [vE_11]⟩

set_option maxHeartbeats 4000000 in
set_option maxRecDepth 100000 in
theorem c_X8_from_12 {w : bw} {σ : bSt} {me K k a d f : Nat} {n m v : Int32} {q : bQ} (hs : sVoices w me) (hK : σ me 3 = nI K) (hK7 : K < 7) (hn : σ me 2 = n) (hm : σ me 4 = m) (hVF : VF w σ me K n m f) (hk : k < 7) (ha : a < 4) (hB : bdN k a = 12) (hok : okV K (f + 1) 12 = true) (hd : d + (f + 1) ≤ 40) (hq : q.1 ≤ 40) : MV yX8_from cX8_from 8 (some .int) (rmm (4 * f + 8) (100 * f + 200)) w [.ref (b_ad w me), .int (nI k), .int (nI a), .int v, .int (nI d)] (VS σ me q) (pI (vE K n m (f + 1) 12 v q).1 (VS σ me (vE K n m (f + 1) 12 v q).2)) := by
  refine b_met (ls := [(0, .ref (b_ad w me)), (1, .int (nI k)), (2, .int (nI a)), (3, .int v), (4, .int (nI d))]) (by decide) (Nat.le_of_ble_eq_true rfl) rfl (fun x h => ?_)
  refine v_iload_n h (i := 1) dX8_from_0 (q := 1) rfl rfl 1 rfl ?_
  refine v_iload_n h (i := 2) dX8_from_1 (q := 2) rfl rfl 2 rfl ?_
  refine v_callS h (As := [.int (nI k), .int (nI a)]) (rest := []) ((c_X8_bodyFrom hk ha)) cal_X8_bodyFrom m728 m727 ⟨rfl, rfl, by dsimp only; omega, by dsimp only; omega⟩ rfl rfl (Nat.le_of_ble_eq_true rfl) dX8_from_2 (q := 5) rfl (kI ?_)
  rw [show (nI (bdN k a) : Int32) = 12 from (by rw [hB]; rfl)]
  refine v_istore h (i := 5) (ls1 := [(5, .int 12), (0, .ref (b_ad w me)), (1, .int (nI k)), (2, .int (nI a)), (3, .int v), (4, .int (nI d))]) dX8_from_5 (q := 7) rfl (Nat.le_of_ble_eq_true rfl) rfl ?_
  refine v_iload h (i := 5) dX8_from_7 (q := 9) rfl 0 rfl ?_
  refine v_if_eq h (t := 19) dX8_from_9 (by decide) (q := 12) rfl (fun c => absurd c (by decide)) (fun _ => ?_)
  refine v_iload h (i := 4) dX8_from_12 (q := 14) rfl 5 rfl ?_
  refine v_bipush h (v := 40) dX8_from_14 (q := 16) rfl (by decide) ?_
  refine v_icmp_lt h (t := 21) dX8_from_16 (by decide) (q := 19) rfl (fun c16 => ?_) (fun c16 => absurd (nltl (k := 40) rfl (by omega) (by decide)) c16)
  refine v_aload_n h (i := 0) dX8_from_21 (q := 22) rfl rfl 1 rfl ?_
  refine v_iload h (i := 5) dX8_from_22 (q := 24) rfl 0 rfl ?_
  refine v_callV h (As := [.int 12]) (rest := []) ((c_X8_begin (q := q) (body := 12) hs hq)) cal_X8_begin calV_X8_begin m734 ⟨rfl, rfl, by dsimp only; omega, by dsimp only; omega⟩ rfl hs.1.1 hs.1.2 ⟨_, _, rfl⟩ rfl (Nat.le_of_ble_eq_true rfl) dX8_from_24 (q := 27) rfl (kU ?_)
  refine v_iload h (i := 5) dX8_from_27 (q := 29) rfl 0 rfl ?_
  refine v_bipush h (v := 10) dX8_from_29 (q := 31) rfl (by decide) ?_
  refine v_idiv h dX8_from_31 (q := 32) rfl (by decide) ?_
  refine v_iconst h (v := 1) dX8_from_32 (q := 33) rfl (by decide) ?_
  refine v_isub h dX8_from_33 (q := 34) rfl ?_
  rw [show ((12 / 10) - 1 : Int32) = 0 from (by decide)]
  refine v_callSN h (As := [.int 0]) (rest := []) (c_X9_above (k := 0)) cal_X9_above m373 m733 ⟨rfl, rfl, by dsimp only; omega, by dsimp only; omega⟩ rfl rfl (Nat.le_of_ble_eq_true rfl) dX8_from_34 (q := 37) rfl (kI ?_)
  rw [show (abv 0 : Int32) = -1 from (by decide)]
  refine v_istore h (i := 6) (ls1 := [(6, .int (-1)), (5, .int 12), (0, .ref (b_ad w me)), (1, .int (nI k)), (2, .int (nI a)), (3, .int v), (4, .int (nI d))]) dX8_from_37 (q := 39) rfl (Nat.le_of_ble_eq_true rfl) rfl ?_
  refine v_iload h (i := 4) dX8_from_39 (q := 41) rfl 6 rfl ?_
  refine v_iconst h (v := 1) dX8_from_41 (q := 42) rfl (by decide) ?_
  refine v_iadd h dX8_from_42 (q := 43) rfl ?_
  rw [show ((nI d) + 1 : Int32) = nI (d + 1) from (nI_1 d)]
  refine v_istore h (i := 7) (ls1 := [(7, .int (nI (d + 1))), (6, .int (-1)), (5, .int 12), (0, .ref (b_ad w me)), (1, .int (nI k)), (2, .int (nI a)), (3, .int v), (4, .int (nI d))]) dX8_from_43 (q := 45) rfl (Nat.le_of_ble_eq_true rfl) rfl ?_
  refine v_iload h (i := 5) dX8_from_45 (q := 47) rfl 2 rfl ?_
  refine v_lookup h (off := 115) (t := 162) dX8_from_47 (by decide +kernel) (by decide +kernel) (by decide) ?_
  refine v_iload_n h (i := 3) dX8_from_162 (q := 163) rfl rfl 6 rfl ?_
  refine v_aload_n h (i := 0) dX8_from_163 (q := 164) rfl rfl 3 rfl ?_
  refine v_get h (k := 4) (v := .int ((VS σ me (pushT 12 q)) me 4)) cls8 hs.1.1 hs.1.2 (Nat.le_of_ble_eq_true rfl) m200 rfl dX8_from_164 (q := 167) rfl ?_
  rw [show ((VS σ me (pushT 12 q)) me 4 : Int32) = m from (by rw [VS_f (by decide)]; exact hm)]
  refine v_isub h dX8_from_167 (q := 168) rfl ?_
  exact v_iret h dX8_from_168 ⟨by rw [vE_12], by rw [vE_12]⟩

set_option maxHeartbeats 4000000 in
set_option maxRecDepth 100000 in
theorem c_X8_from_13 {w : bw} {σ : bSt} {me K k a d f : Nat} {n m v : Int32} {q : bQ} (hs : sVoices w me) (hK : σ me 3 = nI K) (hK7 : K < 7) (hn : σ me 2 = n) (hm : σ me 4 = m) (hVF : VF w σ me K n m f) (hk : k < 7) (ha : a < 4) (hB : bdN k a = 13) (hok : okV K (f + 1) 13 = true) (hd : d + (f + 1) ≤ 40) (hq : q.1 ≤ 40) : MV yX8_from cX8_from 8 (some .int) (rmm (4 * f + 8) (100 * f + 200)) w [.ref (b_ad w me), .int (nI k), .int (nI a), .int v, .int (nI d)] (VS σ me q) (pI (vE K n m (f + 1) 13 v q).1 (VS σ me (vE K n m (f + 1) 13 v q).2)) := by
  refine b_met (ls := [(0, .ref (b_ad w me)), (1, .int (nI k)), (2, .int (nI a)), (3, .int v), (4, .int (nI d))]) (by decide) (Nat.le_of_ble_eq_true rfl) rfl (fun x h => ?_)
  rw [okV_13, Bool.and_eq_true] at hok
  refine v_iload_n h (i := 1) dX8_from_0 (q := 1) rfl rfl 1 rfl ?_
  refine v_iload_n h (i := 2) dX8_from_1 (q := 2) rfl rfl 2 rfl ?_
  refine v_callS h (As := [.int (nI k), .int (nI a)]) (rest := []) ((c_X8_bodyFrom hk ha)) cal_X8_bodyFrom m728 m727 ⟨rfl, rfl, by dsimp only; omega, by dsimp only; omega⟩ rfl rfl (Nat.le_of_ble_eq_true rfl) dX8_from_2 (q := 5) rfl (kI ?_)
  rw [show (nI (bdN k a) : Int32) = 13 from (by rw [hB]; rfl)]
  refine v_istore h (i := 5) (ls1 := [(5, .int 13), (0, .ref (b_ad w me)), (1, .int (nI k)), (2, .int (nI a)), (3, .int v), (4, .int (nI d))]) dX8_from_5 (q := 7) rfl (Nat.le_of_ble_eq_true rfl) rfl ?_
  refine v_iload h (i := 5) dX8_from_7 (q := 9) rfl 0 rfl ?_
  refine v_if_eq h (t := 19) dX8_from_9 (by decide) (q := 12) rfl (fun c => absurd c (by decide)) (fun _ => ?_)
  refine v_iload h (i := 4) dX8_from_12 (q := 14) rfl 5 rfl ?_
  refine v_bipush h (v := 40) dX8_from_14 (q := 16) rfl (by decide) ?_
  refine v_icmp_lt h (t := 21) dX8_from_16 (by decide) (q := 19) rfl (fun c16 => ?_) (fun c16 => absurd (nltl (k := 40) rfl (by omega) (by decide)) c16)
  refine v_aload_n h (i := 0) dX8_from_21 (q := 22) rfl rfl 1 rfl ?_
  refine v_iload h (i := 5) dX8_from_22 (q := 24) rfl 0 rfl ?_
  refine v_callV h (As := [.int 13]) (rest := []) ((c_X8_begin (q := q) (body := 13) hs hq)) cal_X8_begin calV_X8_begin m734 ⟨rfl, rfl, by dsimp only; omega, by dsimp only; omega⟩ rfl hs.1.1 hs.1.2 ⟨_, _, rfl⟩ rfl (Nat.le_of_ble_eq_true rfl) dX8_from_24 (q := 27) rfl (kU ?_)
  refine v_iload h (i := 5) dX8_from_27 (q := 29) rfl 0 rfl ?_
  refine v_bipush h (v := 10) dX8_from_29 (q := 31) rfl (by decide) ?_
  refine v_idiv h dX8_from_31 (q := 32) rfl (by decide) ?_
  refine v_iconst h (v := 1) dX8_from_32 (q := 33) rfl (by decide) ?_
  refine v_isub h dX8_from_33 (q := 34) rfl ?_
  rw [show ((13 / 10) - 1 : Int32) = 0 from (by decide)]
  refine v_callSN h (As := [.int 0]) (rest := []) (c_X9_above (k := 0)) cal_X9_above m373 m733 ⟨rfl, rfl, by dsimp only; omega, by dsimp only; omega⟩ rfl rfl (Nat.le_of_ble_eq_true rfl) dX8_from_34 (q := 37) rfl (kI ?_)
  rw [show (abv 0 : Int32) = -1 from (by decide)]
  refine v_istore h (i := 6) (ls1 := [(6, .int (-1)), (5, .int 13), (0, .ref (b_ad w me)), (1, .int (nI k)), (2, .int (nI a)), (3, .int v), (4, .int (nI d))]) dX8_from_37 (q := 39) rfl (Nat.le_of_ble_eq_true rfl) rfl ?_
  refine v_iload h (i := 4) dX8_from_39 (q := 41) rfl 6 rfl ?_
  refine v_iconst h (v := 1) dX8_from_41 (q := 42) rfl (by decide) ?_
  refine v_iadd h dX8_from_42 (q := 43) rfl ?_
  rw [show ((nI d) + 1 : Int32) = nI (d + 1) from (nI_1 d)]
  refine v_istore h (i := 7) (ls1 := [(7, .int (nI (d + 1))), (6, .int (-1)), (5, .int 13), (0, .ref (b_ad w me)), (1, .int (nI k)), (2, .int (nI a)), (3, .int v), (4, .int (nI d))]) dX8_from_43 (q := 45) rfl (Nat.le_of_ble_eq_true rfl) rfl ?_
  refine v_iload h (i := 5) dX8_from_45 (q := 47) rfl 2 rfl ?_
  refine v_lookup h (off := 122) (t := 169) dX8_from_47 (by decide +kernel) (by decide +kernel) (by decide) ?_
  refine v_aload_n h (i := 0) dX8_from_169 (q := 170) rfl rfl 3 rfl ?_
  refine v_iconst h (v := 1) dX8_from_170 (q := 171) rfl (by decide) ?_
  refine v_iload_n h (i := 3) dX8_from_171 (q := 172) rfl rfl 6 rfl ?_
  refine v_iload h (i := 7) dX8_from_172 (q := 174) rfl 0 rfl ?_
  refine v_callV h (As := [.int 1, .int v, .int (nI (d + 1))]) (rest := []) ((c_X8_own (a := 1) (d := d + 1) (v := v) (q := pushT 13 q) hs hK hK7 hn hm hVF (by decide) hok.1 (by omega) (pushT_le hq))) cal_X8_own calV_X8_own m719 ⟨rfl, rfl, by dsimp only; omega, by dsimp only; omega⟩ rfl hs.1.1 hs.1.2 ⟨_, _, rfl⟩ rfl (Nat.le_of_ble_eq_true rfl) dX8_from_174 (q := 177) rfl (kI ?_)
  refine v_aload_n h (i := 0) dX8_from_177 (q := 178) rfl rfl 3 rfl ?_
  refine v_iconst h (v := 2) dX8_from_178 (q := 179) rfl (by decide) ?_
  refine v_iload_n h (i := 3) dX8_from_179 (q := 180) rfl rfl 6 rfl ?_
  refine v_iload h (i := 7) dX8_from_180 (q := 182) rfl 0 rfl ?_
  refine v_callV h (As := [.int 2, .int v, .int (nI (d + 1))]) (rest := [.int ((vE K n m f (bdN K 1) v (pushT 13 q)).1)]) ((c_X8_own (a := 2) (d := d + 1) (v := v) (q := (vE K n m f (bdN K 1) v (pushT 13 q)).2) hs hK hK7 hn hm hVF (by decide) hok.2 (by omega) (vE_le _ _ _ _ _ _ _ (pushT_le hq)))) cal_X8_own calV_X8_own m719 ⟨rfl, rfl, by dsimp only; omega, by dsimp only; omega⟩ rfl hs.1.1 hs.1.2 ⟨_, _, rfl⟩ rfl (Nat.le_of_ble_eq_true rfl) dX8_from_182 (q := 185) rfl (kI ?_)
  refine v_ixor h dX8_from_185 (q := 186) rfl ?_
  exact v_iret h dX8_from_186 ⟨by rw [vE_13], by rw [vE_13]⟩

set_option maxHeartbeats 4000000 in
set_option maxRecDepth 100000 in
theorem c_X8_from_20 {w : bw} {σ : bSt} {me K k a d f : Nat} {n m v : Int32} {q : bQ} (hs : sVoices w me) (hK : σ me 3 = nI K) (hK7 : K < 7) (hn : σ me 2 = n) (hm : σ me 4 = m) (hVF : VF w σ me K n m f) (hk : k < 7) (ha : a < 4) (hB : bdN k a = 20) (hok : okV K (f + 1) 20 = true) (hd : d + (f + 1) ≤ 40) (hq : q.1 ≤ 40) : MV yX8_from cX8_from 8 (some .int) (rmm (4 * f + 8) (100 * f + 200)) w [.ref (b_ad w me), .int (nI k), .int (nI a), .int v, .int (nI d)] (VS σ me q) (pI (vE K n m (f + 1) 20 v q).1 (VS σ me (vE K n m (f + 1) 20 v q).2)) := by
  refine b_met (ls := [(0, .ref (b_ad w me)), (1, .int (nI k)), (2, .int (nI a)), (3, .int v), (4, .int (nI d))]) (by decide) (Nat.le_of_ble_eq_true rfl) rfl (fun x h => ?_)
  rw [okV_20, Bool.and_eq_true] at hok
  refine v_iload_n h (i := 1) dX8_from_0 (q := 1) rfl rfl 1 rfl ?_
  refine v_iload_n h (i := 2) dX8_from_1 (q := 2) rfl rfl 2 rfl ?_
  refine v_callS h (As := [.int (nI k), .int (nI a)]) (rest := []) ((c_X8_bodyFrom hk ha)) cal_X8_bodyFrom m728 m727 ⟨rfl, rfl, by dsimp only; omega, by dsimp only; omega⟩ rfl rfl (Nat.le_of_ble_eq_true rfl) dX8_from_2 (q := 5) rfl (kI ?_)
  rw [show (nI (bdN k a) : Int32) = 20 from (by rw [hB]; rfl)]
  refine v_istore h (i := 5) (ls1 := [(5, .int 20), (0, .ref (b_ad w me)), (1, .int (nI k)), (2, .int (nI a)), (3, .int v), (4, .int (nI d))]) dX8_from_5 (q := 7) rfl (Nat.le_of_ble_eq_true rfl) rfl ?_
  refine v_iload h (i := 5) dX8_from_7 (q := 9) rfl 0 rfl ?_
  refine v_if_eq h (t := 19) dX8_from_9 (by decide) (q := 12) rfl (fun c => absurd c (by decide)) (fun _ => ?_)
  refine v_iload h (i := 4) dX8_from_12 (q := 14) rfl 5 rfl ?_
  refine v_bipush h (v := 40) dX8_from_14 (q := 16) rfl (by decide) ?_
  refine v_icmp_lt h (t := 21) dX8_from_16 (by decide) (q := 19) rfl (fun c16 => ?_) (fun c16 => absurd (nltl (k := 40) rfl (by omega) (by decide)) c16)
  refine v_aload_n h (i := 0) dX8_from_21 (q := 22) rfl rfl 1 rfl ?_
  refine v_iload h (i := 5) dX8_from_22 (q := 24) rfl 0 rfl ?_
  refine v_callV h (As := [.int 20]) (rest := []) ((c_X8_begin (q := q) (body := 20) hs hq)) cal_X8_begin calV_X8_begin m734 ⟨rfl, rfl, by dsimp only; omega, by dsimp only; omega⟩ rfl hs.1.1 hs.1.2 ⟨_, _, rfl⟩ rfl (Nat.le_of_ble_eq_true rfl) dX8_from_24 (q := 27) rfl (kU ?_)
  refine v_iload h (i := 5) dX8_from_27 (q := 29) rfl 0 rfl ?_
  refine v_bipush h (v := 10) dX8_from_29 (q := 31) rfl (by decide) ?_
  refine v_idiv h dX8_from_31 (q := 32) rfl (by decide) ?_
  refine v_iconst h (v := 1) dX8_from_32 (q := 33) rfl (by decide) ?_
  refine v_isub h dX8_from_33 (q := 34) rfl ?_
  rw [show ((20 / 10) - 1 : Int32) = 1 from (by decide)]
  refine v_callSN h (As := [.int 1]) (rest := []) (c_X9_above (k := 1)) cal_X9_above m373 m733 ⟨rfl, rfl, by dsimp only; omega, by dsimp only; omega⟩ rfl rfl (Nat.le_of_ble_eq_true rfl) dX8_from_34 (q := 37) rfl (kI ?_)
  rw [show (abv 1 : Int32) = 0 from (by decide)]
  refine v_istore h (i := 6) (ls1 := [(6, .int 0), (5, .int 20), (0, .ref (b_ad w me)), (1, .int (nI k)), (2, .int (nI a)), (3, .int v), (4, .int (nI d))]) dX8_from_37 (q := 39) rfl (Nat.le_of_ble_eq_true rfl) rfl ?_
  refine v_iload h (i := 4) dX8_from_39 (q := 41) rfl 6 rfl ?_
  refine v_iconst h (v := 1) dX8_from_41 (q := 42) rfl (by decide) ?_
  refine v_iadd h dX8_from_42 (q := 43) rfl ?_
  rw [show ((nI d) + 1 : Int32) = nI (d + 1) from (nI_1 d)]
  refine v_istore h (i := 7) (ls1 := [(7, .int (nI (d + 1))), (6, .int 0), (5, .int 20), (0, .ref (b_ad w me)), (1, .int (nI k)), (2, .int (nI a)), (3, .int v), (4, .int (nI d))]) dX8_from_43 (q := 45) rfl (Nat.le_of_ble_eq_true rfl) rfl ?_
  refine v_iload h (i := 5) dX8_from_45 (q := 47) rfl 2 rfl ?_
  refine v_lookup h (off := 140) (t := 187) dX8_from_47 (by decide +kernel) (by decide +kernel) (by decide) ?_
  refine v_aload_n h (i := 0) dX8_from_187 (q := 188) rfl rfl 3 rfl ?_
  refine v_iload h (i := 6) dX8_from_188 (q := 190) rfl 1 rfl ?_
  refine v_iconst h (v := 1) dX8_from_190 (q := 191) rfl (by decide) ?_
  refine v_iload_n h (i := 3) dX8_from_191 (q := 192) rfl rfl 6 rfl ?_
  refine v_iload h (i := 7) dX8_from_192 (q := 194) rfl 0 rfl ?_
  refine v_callV h (As := [.int 0, .int 1, .int v, .int (nI (d + 1))]) (rest := []) ((hVF 0 1 v (d + 1) (pushT 20 q) (by decide) (by decide) hok.1 (by omega) (pushT_le hq))) cal_X8_from calV_X8_from m723 ⟨rfl, rfl, by dsimp only; omega, by dsimp only; omega⟩ rfl hs.1.1 hs.1.2 ⟨_, _, rfl⟩ rfl (Nat.le_of_ble_eq_true rfl) dX8_from_194 (q := 197) rfl (kI ?_)
  refine v_aload_n h (i := 0) dX8_from_197 (q := 198) rfl rfl 3 rfl ?_
  refine v_iconst h (v := 2) dX8_from_198 (q := 199) rfl (by decide) ?_
  refine v_iconst h (v := 1) dX8_from_199 (q := 200) rfl (by decide) ?_
  refine v_iload h (i := 7) dX8_from_200 (q := 202) rfl 0 rfl ?_
  refine v_callV h (As := [.int 2, .int 1, .int (nI (d + 1))]) (rest := [.int ((vE K n m f (bdN 0 1) v (pushT 20 q)).1)]) ((c_X8_own (a := 2) (d := d + 1) (v := 1) (q := (vE K n m f (bdN 0 1) v (pushT 20 q)).2) hs hK hK7 hn hm hVF (by decide) hok.2 (by omega) (vE_le _ _ _ _ _ _ _ (pushT_le hq)))) cal_X8_own calV_X8_own m719 ⟨rfl, rfl, by dsimp only; omega, by dsimp only; omega⟩ rfl hs.1.1 hs.1.2 ⟨_, _, rfl⟩ rfl (Nat.le_of_ble_eq_true rfl) dX8_from_202 (q := 205) rfl (kI ?_)
  refine v_isub h dX8_from_205 (q := 206) rfl ?_
  exact v_iret h dX8_from_206 ⟨by rw [vE_20], by rw [vE_20]⟩

set_option maxHeartbeats 4000000 in
set_option maxRecDepth 100000 in
theorem c_X8_from_30 {w : bw} {σ : bSt} {me K k a d f : Nat} {n m v : Int32} {q : bQ} (hs : sVoices w me) (hK : σ me 3 = nI K) (hK7 : K < 7) (hn : σ me 2 = n) (hm : σ me 4 = m) (hVF : VF w σ me K n m f) (hk : k < 7) (ha : a < 4) (hB : bdN k a = 30) (hok : okV K (f + 1) 30 = true) (hd : d + (f + 1) ≤ 40) (hq : q.1 ≤ 40) : MV yX8_from cX8_from 8 (some .int) (rmm (4 * f + 8) (100 * f + 200)) w [.ref (b_ad w me), .int (nI k), .int (nI a), .int v, .int (nI d)] (VS σ me q) (pI (vE K n m (f + 1) 30 v q).1 (VS σ me (vE K n m (f + 1) 30 v q).2)) := by
  refine b_met (ls := [(0, .ref (b_ad w me)), (1, .int (nI k)), (2, .int (nI a)), (3, .int v), (4, .int (nI d))]) (by decide) (Nat.le_of_ble_eq_true rfl) rfl (fun x h => ?_)
  rw [okV_30] at hok
  refine v_iload_n h (i := 1) dX8_from_0 (q := 1) rfl rfl 1 rfl ?_
  refine v_iload_n h (i := 2) dX8_from_1 (q := 2) rfl rfl 2 rfl ?_
  refine v_callS h (As := [.int (nI k), .int (nI a)]) (rest := []) ((c_X8_bodyFrom hk ha)) cal_X8_bodyFrom m728 m727 ⟨rfl, rfl, by dsimp only; omega, by dsimp only; omega⟩ rfl rfl (Nat.le_of_ble_eq_true rfl) dX8_from_2 (q := 5) rfl (kI ?_)
  rw [show (nI (bdN k a) : Int32) = 30 from (by rw [hB]; rfl)]
  refine v_istore h (i := 5) (ls1 := [(5, .int 30), (0, .ref (b_ad w me)), (1, .int (nI k)), (2, .int (nI a)), (3, .int v), (4, .int (nI d))]) dX8_from_5 (q := 7) rfl (Nat.le_of_ble_eq_true rfl) rfl ?_
  refine v_iload h (i := 5) dX8_from_7 (q := 9) rfl 0 rfl ?_
  refine v_if_eq h (t := 19) dX8_from_9 (by decide) (q := 12) rfl (fun c => absurd c (by decide)) (fun _ => ?_)
  refine v_iload h (i := 4) dX8_from_12 (q := 14) rfl 5 rfl ?_
  refine v_bipush h (v := 40) dX8_from_14 (q := 16) rfl (by decide) ?_
  refine v_icmp_lt h (t := 21) dX8_from_16 (by decide) (q := 19) rfl (fun c16 => ?_) (fun c16 => absurd (nltl (k := 40) rfl (by omega) (by decide)) c16)
  refine v_aload_n h (i := 0) dX8_from_21 (q := 22) rfl rfl 1 rfl ?_
  refine v_iload h (i := 5) dX8_from_22 (q := 24) rfl 0 rfl ?_
  refine v_callV h (As := [.int 30]) (rest := []) ((c_X8_begin (q := q) (body := 30) hs hq)) cal_X8_begin calV_X8_begin m734 ⟨rfl, rfl, by dsimp only; omega, by dsimp only; omega⟩ rfl hs.1.1 hs.1.2 ⟨_, _, rfl⟩ rfl (Nat.le_of_ble_eq_true rfl) dX8_from_24 (q := 27) rfl (kU ?_)
  refine v_iload h (i := 5) dX8_from_27 (q := 29) rfl 0 rfl ?_
  refine v_bipush h (v := 10) dX8_from_29 (q := 31) rfl (by decide) ?_
  refine v_idiv h dX8_from_31 (q := 32) rfl (by decide) ?_
  refine v_iconst h (v := 1) dX8_from_32 (q := 33) rfl (by decide) ?_
  refine v_isub h dX8_from_33 (q := 34) rfl ?_
  rw [show ((30 / 10) - 1 : Int32) = 2 from (by decide)]
  refine v_callSN h (As := [.int 2]) (rest := []) (c_X9_above (k := 2)) cal_X9_above m373 m733 ⟨rfl, rfl, by dsimp only; omega, by dsimp only; omega⟩ rfl rfl (Nat.le_of_ble_eq_true rfl) dX8_from_34 (q := 37) rfl (kI ?_)
  rw [show (abv 2 : Int32) = 0 from (by decide)]
  refine v_istore h (i := 6) (ls1 := [(6, .int 0), (5, .int 30), (0, .ref (b_ad w me)), (1, .int (nI k)), (2, .int (nI a)), (3, .int v), (4, .int (nI d))]) dX8_from_37 (q := 39) rfl (Nat.le_of_ble_eq_true rfl) rfl ?_
  refine v_iload h (i := 4) dX8_from_39 (q := 41) rfl 6 rfl ?_
  refine v_iconst h (v := 1) dX8_from_41 (q := 42) rfl (by decide) ?_
  refine v_iadd h dX8_from_42 (q := 43) rfl ?_
  rw [show ((nI d) + 1 : Int32) = nI (d + 1) from (nI_1 d)]
  refine v_istore h (i := 7) (ls1 := [(7, .int (nI (d + 1))), (6, .int 0), (5, .int 30), (0, .ref (b_ad w me)), (1, .int (nI k)), (2, .int (nI a)), (3, .int v), (4, .int (nI d))]) dX8_from_43 (q := 45) rfl (Nat.le_of_ble_eq_true rfl) rfl ?_
  refine v_iload h (i := 5) dX8_from_45 (q := 47) rfl 2 rfl ?_
  refine v_lookup h (off := 160) (t := 207) dX8_from_47 (by decide +kernel) (by decide +kernel) (by decide) ?_
  refine v_aload_n h (i := 0) dX8_from_207 (q := 208) rfl rfl 3 rfl ?_
  refine v_iload h (i := 6) dX8_from_208 (q := 210) rfl 1 rfl ?_
  refine v_iconst h (v := 0) dX8_from_210 (q := 211) rfl (by decide) ?_
  refine v_iload_n h (i := 3) dX8_from_211 (q := 212) rfl rfl 6 rfl ?_
  refine v_iload h (i := 7) dX8_from_212 (q := 214) rfl 0 rfl ?_
  refine v_callV h (As := [.int 0, .int 0, .int v, .int (nI (d + 1))]) (rest := []) ((hVF 0 0 v (d + 1) (pushT 30 q) (by decide) (by decide) hok (by omega) (pushT_le hq))) cal_X8_from calV_X8_from m723 ⟨rfl, rfl, by dsimp only; omega, by dsimp only; omega⟩ rfl hs.1.1 hs.1.2 ⟨_, _, rfl⟩ rfl (Nat.le_of_ble_eq_true rfl) dX8_from_214 (q := 217) rfl (kI ?_)
  refine v_iconst h (v := 3) dX8_from_217 (q := 218) rfl (by decide) ?_
  refine v_imul h dX8_from_218 (q := 219) rfl ?_
  exact v_iret h dX8_from_219 ⟨by rw [vE_30], by rw [vE_30]⟩

set_option maxHeartbeats 4000000 in
set_option maxRecDepth 100000 in
theorem c_X8_from_40 {w : bw} {σ : bSt} {me K k a d f : Nat} {n m v : Int32} {q : bQ} (hs : sVoices w me) (hK : σ me 3 = nI K) (hK7 : K < 7) (hn : σ me 2 = n) (hm : σ me 4 = m) (hVF : VF w σ me K n m f) (hk : k < 7) (ha : a < 4) (hB : bdN k a = 40) (hok : okV K (f + 1) 40 = true) (hd : d + (f + 1) ≤ 40) (hq : q.1 ≤ 40) : MV yX8_from cX8_from 8 (some .int) (rmm (4 * f + 8) (100 * f + 200)) w [.ref (b_ad w me), .int (nI k), .int (nI a), .int v, .int (nI d)] (VS σ me q) (pI (vE K n m (f + 1) 40 v q).1 (VS σ me (vE K n m (f + 1) 40 v q).2)) := by
  refine b_met (ls := [(0, .ref (b_ad w me)), (1, .int (nI k)), (2, .int (nI a)), (3, .int v), (4, .int (nI d))]) (by decide) (Nat.le_of_ble_eq_true rfl) rfl (fun x h => ?_)
  rw [okV_40] at hok
  refine v_iload_n h (i := 1) dX8_from_0 (q := 1) rfl rfl 1 rfl ?_
  refine v_iload_n h (i := 2) dX8_from_1 (q := 2) rfl rfl 2 rfl ?_
  refine v_callS h (As := [.int (nI k), .int (nI a)]) (rest := []) ((c_X8_bodyFrom hk ha)) cal_X8_bodyFrom m728 m727 ⟨rfl, rfl, by dsimp only; omega, by dsimp only; omega⟩ rfl rfl (Nat.le_of_ble_eq_true rfl) dX8_from_2 (q := 5) rfl (kI ?_)
  rw [show (nI (bdN k a) : Int32) = 40 from (by rw [hB]; rfl)]
  refine v_istore h (i := 5) (ls1 := [(5, .int 40), (0, .ref (b_ad w me)), (1, .int (nI k)), (2, .int (nI a)), (3, .int v), (4, .int (nI d))]) dX8_from_5 (q := 7) rfl (Nat.le_of_ble_eq_true rfl) rfl ?_
  refine v_iload h (i := 5) dX8_from_7 (q := 9) rfl 0 rfl ?_
  refine v_if_eq h (t := 19) dX8_from_9 (by decide) (q := 12) rfl (fun c => absurd c (by decide)) (fun _ => ?_)
  refine v_iload h (i := 4) dX8_from_12 (q := 14) rfl 5 rfl ?_
  refine v_bipush h (v := 40) dX8_from_14 (q := 16) rfl (by decide) ?_
  refine v_icmp_lt h (t := 21) dX8_from_16 (by decide) (q := 19) rfl (fun c16 => ?_) (fun c16 => absurd (nltl (k := 40) rfl (by omega) (by decide)) c16)
  refine v_aload_n h (i := 0) dX8_from_21 (q := 22) rfl rfl 1 rfl ?_
  refine v_iload h (i := 5) dX8_from_22 (q := 24) rfl 0 rfl ?_
  refine v_callV h (As := [.int 40]) (rest := []) ((c_X8_begin (q := q) (body := 40) hs hq)) cal_X8_begin calV_X8_begin m734 ⟨rfl, rfl, by dsimp only; omega, by dsimp only; omega⟩ rfl hs.1.1 hs.1.2 ⟨_, _, rfl⟩ rfl (Nat.le_of_ble_eq_true rfl) dX8_from_24 (q := 27) rfl (kU ?_)
  refine v_iload h (i := 5) dX8_from_27 (q := 29) rfl 0 rfl ?_
  refine v_bipush h (v := 10) dX8_from_29 (q := 31) rfl (by decide) ?_
  refine v_idiv h dX8_from_31 (q := 32) rfl (by decide) ?_
  refine v_iconst h (v := 1) dX8_from_32 (q := 33) rfl (by decide) ?_
  refine v_isub h dX8_from_33 (q := 34) rfl ?_
  rw [show ((40 / 10) - 1 : Int32) = 3 from (by decide)]
  refine v_callSN h (As := [.int 3]) (rest := []) (c_X9_above (k := 3)) cal_X9_above m373 m733 ⟨rfl, rfl, by dsimp only; omega, by dsimp only; omega⟩ rfl rfl (Nat.le_of_ble_eq_true rfl) dX8_from_34 (q := 37) rfl (kI ?_)
  rw [show (abv 3 : Int32) = 0 from (by decide)]
  refine v_istore h (i := 6) (ls1 := [(6, .int 0), (5, .int 40), (0, .ref (b_ad w me)), (1, .int (nI k)), (2, .int (nI a)), (3, .int v), (4, .int (nI d))]) dX8_from_37 (q := 39) rfl (Nat.le_of_ble_eq_true rfl) rfl ?_
  refine v_iload h (i := 4) dX8_from_39 (q := 41) rfl 6 rfl ?_
  refine v_iconst h (v := 1) dX8_from_41 (q := 42) rfl (by decide) ?_
  refine v_iadd h dX8_from_42 (q := 43) rfl ?_
  rw [show ((nI d) + 1 : Int32) = nI (d + 1) from (nI_1 d)]
  refine v_istore h (i := 7) (ls1 := [(7, .int (nI (d + 1))), (6, .int 0), (5, .int 40), (0, .ref (b_ad w me)), (1, .int (nI k)), (2, .int (nI a)), (3, .int v), (4, .int (nI d))]) dX8_from_43 (q := 45) rfl (Nat.le_of_ble_eq_true rfl) rfl ?_
  refine v_iload h (i := 5) dX8_from_45 (q := 47) rfl 2 rfl ?_
  refine v_lookup h (off := 173) (t := 220) dX8_from_47 (by decide +kernel) (by decide +kernel) (by decide) ?_
  refine v_aload_n h (i := 0) dX8_from_220 (q := 221) rfl rfl 3 rfl ?_
  refine v_iload h (i := 6) dX8_from_221 (q := 223) rfl 1 rfl ?_
  refine v_iconst h (v := 2) dX8_from_223 (q := 224) rfl (by decide) ?_
  refine v_iload_n h (i := 3) dX8_from_224 (q := 225) rfl rfl 6 rfl ?_
  refine v_iload h (i := 7) dX8_from_225 (q := 227) rfl 0 rfl ?_
  refine v_callV h (As := [.int 0, .int 2, .int v, .int (nI (d + 1))]) (rest := []) ((hVF 0 2 v (d + 1) (pushT 40 q) (by decide) (by decide) hok (by omega) (pushT_le hq))) cal_X8_from calV_X8_from m723 ⟨rfl, rfl, by dsimp only; omega, by dsimp only; omega⟩ rfl hs.1.1 hs.1.2 ⟨_, _, rfl⟩ rfl (Nat.le_of_ble_eq_true rfl) dX8_from_227 (q := 230) rfl (kI ?_)
  refine v_ineg h dX8_from_230 (q := 231) rfl ?_
  exact v_iret h dX8_from_231 ⟨by rw [vE_40], by rw [vE_40]⟩

set_option maxHeartbeats 4000000 in
set_option maxRecDepth 100000 in
theorem c_X8_from_50 {w : bw} {σ : bSt} {me K k a d f : Nat} {n m v : Int32} {q : bQ} (hs : sVoices w me) (hK : σ me 3 = nI K) (hK7 : K < 7) (hn : σ me 2 = n) (hm : σ me 4 = m) (hVF : VF w σ me K n m f) (hk : k < 7) (ha : a < 4) (hB : bdN k a = 50) (hok : okV K (f + 1) 50 = true) (hd : d + (f + 1) ≤ 40) (hq : q.1 ≤ 40) : MV yX8_from cX8_from 8 (some .int) (rmm (4 * f + 8) (100 * f + 200)) w [.ref (b_ad w me), .int (nI k), .int (nI a), .int v, .int (nI d)] (VS σ me q) (pI (vE K n m (f + 1) 50 v q).1 (VS σ me (vE K n m (f + 1) 50 v q).2)) := by
  refine b_met (ls := [(0, .ref (b_ad w me)), (1, .int (nI k)), (2, .int (nI a)), (3, .int v), (4, .int (nI d))]) (by decide) (Nat.le_of_ble_eq_true rfl) rfl (fun x h => ?_)
  rw [okV_50] at hok
  refine v_iload_n h (i := 1) dX8_from_0 (q := 1) rfl rfl 1 rfl ?_
  refine v_iload_n h (i := 2) dX8_from_1 (q := 2) rfl rfl 2 rfl ?_
  refine v_callS h (As := [.int (nI k), .int (nI a)]) (rest := []) ((c_X8_bodyFrom hk ha)) cal_X8_bodyFrom m728 m727 ⟨rfl, rfl, by dsimp only; omega, by dsimp only; omega⟩ rfl rfl (Nat.le_of_ble_eq_true rfl) dX8_from_2 (q := 5) rfl (kI ?_)
  rw [show (nI (bdN k a) : Int32) = 50 from (by rw [hB]; rfl)]
  refine v_istore h (i := 5) (ls1 := [(5, .int 50), (0, .ref (b_ad w me)), (1, .int (nI k)), (2, .int (nI a)), (3, .int v), (4, .int (nI d))]) dX8_from_5 (q := 7) rfl (Nat.le_of_ble_eq_true rfl) rfl ?_
  refine v_iload h (i := 5) dX8_from_7 (q := 9) rfl 0 rfl ?_
  refine v_if_eq h (t := 19) dX8_from_9 (by decide) (q := 12) rfl (fun c => absurd c (by decide)) (fun _ => ?_)
  refine v_iload h (i := 4) dX8_from_12 (q := 14) rfl 5 rfl ?_
  refine v_bipush h (v := 40) dX8_from_14 (q := 16) rfl (by decide) ?_
  refine v_icmp_lt h (t := 21) dX8_from_16 (by decide) (q := 19) rfl (fun c16 => ?_) (fun c16 => absurd (nltl (k := 40) rfl (by omega) (by decide)) c16)
  refine v_aload_n h (i := 0) dX8_from_21 (q := 22) rfl rfl 1 rfl ?_
  refine v_iload h (i := 5) dX8_from_22 (q := 24) rfl 0 rfl ?_
  refine v_callV h (As := [.int 50]) (rest := []) ((c_X8_begin (q := q) (body := 50) hs hq)) cal_X8_begin calV_X8_begin m734 ⟨rfl, rfl, by dsimp only; omega, by dsimp only; omega⟩ rfl hs.1.1 hs.1.2 ⟨_, _, rfl⟩ rfl (Nat.le_of_ble_eq_true rfl) dX8_from_24 (q := 27) rfl (kU ?_)
  refine v_iload h (i := 5) dX8_from_27 (q := 29) rfl 0 rfl ?_
  refine v_bipush h (v := 10) dX8_from_29 (q := 31) rfl (by decide) ?_
  refine v_idiv h dX8_from_31 (q := 32) rfl (by decide) ?_
  refine v_iconst h (v := 1) dX8_from_32 (q := 33) rfl (by decide) ?_
  refine v_isub h dX8_from_33 (q := 34) rfl ?_
  rw [show ((50 / 10) - 1 : Int32) = 4 from (by decide)]
  refine v_callSN h (As := [.int 4]) (rest := []) (c_X9_above (k := 4)) cal_X9_above m373 m733 ⟨rfl, rfl, by dsimp only; omega, by dsimp only; omega⟩ rfl rfl (Nat.le_of_ble_eq_true rfl) dX8_from_34 (q := 37) rfl (kI ?_)
  rw [show (abv 4 : Int32) = 1 from (by decide)]
  refine v_istore h (i := 6) (ls1 := [(6, .int 1), (5, .int 50), (0, .ref (b_ad w me)), (1, .int (nI k)), (2, .int (nI a)), (3, .int v), (4, .int (nI d))]) dX8_from_37 (q := 39) rfl (Nat.le_of_ble_eq_true rfl) rfl ?_
  refine v_iload h (i := 4) dX8_from_39 (q := 41) rfl 6 rfl ?_
  refine v_iconst h (v := 1) dX8_from_41 (q := 42) rfl (by decide) ?_
  refine v_iadd h dX8_from_42 (q := 43) rfl ?_
  rw [show ((nI d) + 1 : Int32) = nI (d + 1) from (nI_1 d)]
  refine v_istore h (i := 7) (ls1 := [(7, .int (nI (d + 1))), (6, .int 1), (5, .int 50), (0, .ref (b_ad w me)), (1, .int (nI k)), (2, .int (nI a)), (3, .int v), (4, .int (nI d))]) dX8_from_43 (q := 45) rfl (Nat.le_of_ble_eq_true rfl) rfl ?_
  refine v_iload h (i := 5) dX8_from_45 (q := 47) rfl 2 rfl ?_
  refine v_lookup h (off := 185) (t := 232) dX8_from_47 (by decide +kernel) (by decide +kernel) (by decide) ?_
  refine v_aload_n h (i := 0) dX8_from_232 (q := 233) rfl rfl 3 rfl ?_
  refine v_iload h (i := 6) dX8_from_233 (q := 235) rfl 1 rfl ?_
  refine v_iconst h (v := 1) dX8_from_235 (q := 236) rfl (by decide) ?_
  refine v_iload_n h (i := 3) dX8_from_236 (q := 237) rfl rfl 6 rfl ?_
  refine v_iconst h (v := 1) dX8_from_237 (q := 238) rfl (by decide) ?_
  refine v_iadd h dX8_from_238 (q := 239) rfl ?_
  refine v_iload h (i := 7) dX8_from_239 (q := 241) rfl 0 rfl ?_
  refine v_callV h (As := [.int 1, .int 1, .int (v + 1), .int (nI (d + 1))]) (rest := []) ((hVF 1 1 (v + 1) (d + 1) (pushT 50 q) (by decide) (by decide) hok (by omega) (pushT_le hq))) cal_X8_from calV_X8_from m723 ⟨rfl, rfl, by dsimp only; omega, by dsimp only; omega⟩ rfl hs.1.1 hs.1.2 ⟨_, _, rfl⟩ rfl (Nat.le_of_ble_eq_true rfl) dX8_from_241 (q := 244) rfl (kI ?_)
  exact v_iret h dX8_from_244 ⟨by rw [vE_50], by rw [vE_50]⟩

set_option maxHeartbeats 4000000 in
set_option maxRecDepth 100000 in
theorem c_X8_from_60 {w : bw} {σ : bSt} {me K k a d f : Nat} {n m v : Int32} {q : bQ} (hs : sVoices w me) (hK : σ me 3 = nI K) (hK7 : K < 7) (hn : σ me 2 = n) (hm : σ me 4 = m) (hVF : VF w σ me K n m f) (hk : k < 7) (ha : a < 4) (hB : bdN k a = 60) (hok : okV K (f + 1) 60 = true) (hd : d + (f + 1) ≤ 40) (hq : q.1 ≤ 40) : MV yX8_from cX8_from 8 (some .int) (rmm (4 * f + 8) (100 * f + 200)) w [.ref (b_ad w me), .int (nI k), .int (nI a), .int v, .int (nI d)] (VS σ me q) (pI (vE K n m (f + 1) 60 v q).1 (VS σ me (vE K n m (f + 1) 60 v q).2)) := by
  refine b_met (ls := [(0, .ref (b_ad w me)), (1, .int (nI k)), (2, .int (nI a)), (3, .int v), (4, .int (nI d))]) (by decide) (Nat.le_of_ble_eq_true rfl) rfl (fun x h => ?_)
  rw [okV_60, Bool.and_eq_true] at hok
  refine v_iload_n h (i := 1) dX8_from_0 (q := 1) rfl rfl 1 rfl ?_
  refine v_iload_n h (i := 2) dX8_from_1 (q := 2) rfl rfl 2 rfl ?_
  refine v_callS h (As := [.int (nI k), .int (nI a)]) (rest := []) ((c_X8_bodyFrom hk ha)) cal_X8_bodyFrom m728 m727 ⟨rfl, rfl, by dsimp only; omega, by dsimp only; omega⟩ rfl rfl (Nat.le_of_ble_eq_true rfl) dX8_from_2 (q := 5) rfl (kI ?_)
  rw [show (nI (bdN k a) : Int32) = 60 from (by rw [hB]; rfl)]
  refine v_istore h (i := 5) (ls1 := [(5, .int 60), (0, .ref (b_ad w me)), (1, .int (nI k)), (2, .int (nI a)), (3, .int v), (4, .int (nI d))]) dX8_from_5 (q := 7) rfl (Nat.le_of_ble_eq_true rfl) rfl ?_
  refine v_iload h (i := 5) dX8_from_7 (q := 9) rfl 0 rfl ?_
  refine v_if_eq h (t := 19) dX8_from_9 (by decide) (q := 12) rfl (fun c => absurd c (by decide)) (fun _ => ?_)
  refine v_iload h (i := 4) dX8_from_12 (q := 14) rfl 5 rfl ?_
  refine v_bipush h (v := 40) dX8_from_14 (q := 16) rfl (by decide) ?_
  refine v_icmp_lt h (t := 21) dX8_from_16 (by decide) (q := 19) rfl (fun c16 => ?_) (fun c16 => absurd (nltl (k := 40) rfl (by omega) (by decide)) c16)
  refine v_aload_n h (i := 0) dX8_from_21 (q := 22) rfl rfl 1 rfl ?_
  refine v_iload h (i := 5) dX8_from_22 (q := 24) rfl 0 rfl ?_
  refine v_callV h (As := [.int 60]) (rest := []) ((c_X8_begin (q := q) (body := 60) hs hq)) cal_X8_begin calV_X8_begin m734 ⟨rfl, rfl, by dsimp only; omega, by dsimp only; omega⟩ rfl hs.1.1 hs.1.2 ⟨_, _, rfl⟩ rfl (Nat.le_of_ble_eq_true rfl) dX8_from_24 (q := 27) rfl (kU ?_)
  refine v_iload h (i := 5) dX8_from_27 (q := 29) rfl 0 rfl ?_
  refine v_bipush h (v := 10) dX8_from_29 (q := 31) rfl (by decide) ?_
  refine v_idiv h dX8_from_31 (q := 32) rfl (by decide) ?_
  refine v_iconst h (v := 1) dX8_from_32 (q := 33) rfl (by decide) ?_
  refine v_isub h dX8_from_33 (q := 34) rfl ?_
  rw [show ((60 / 10) - 1 : Int32) = 5 from (by decide)]
  refine v_callSN h (As := [.int 5]) (rest := []) (c_X9_above (k := 5)) cal_X9_above m373 m733 ⟨rfl, rfl, by dsimp only; omega, by dsimp only; omega⟩ rfl rfl (Nat.le_of_ble_eq_true rfl) dX8_from_34 (q := 37) rfl (kI ?_)
  rw [show (abv 5 : Int32) = 2 from (by decide)]
  refine v_istore h (i := 6) (ls1 := [(6, .int 2), (5, .int 60), (0, .ref (b_ad w me)), (1, .int (nI k)), (2, .int (nI a)), (3, .int v), (4, .int (nI d))]) dX8_from_37 (q := 39) rfl (Nat.le_of_ble_eq_true rfl) rfl ?_
  refine v_iload h (i := 4) dX8_from_39 (q := 41) rfl 6 rfl ?_
  refine v_iconst h (v := 1) dX8_from_41 (q := 42) rfl (by decide) ?_
  refine v_iadd h dX8_from_42 (q := 43) rfl ?_
  rw [show ((nI d) + 1 : Int32) = nI (d + 1) from (nI_1 d)]
  refine v_istore h (i := 7) (ls1 := [(7, .int (nI (d + 1))), (6, .int 2), (5, .int 60), (0, .ref (b_ad w me)), (1, .int (nI k)), (2, .int (nI a)), (3, .int v), (4, .int (nI d))]) dX8_from_43 (q := 45) rfl (Nat.le_of_ble_eq_true rfl) rfl ?_
  refine v_iload h (i := 5) dX8_from_45 (q := 47) rfl 2 rfl ?_
  refine v_lookup h (off := 198) (t := 245) dX8_from_47 (by decide +kernel) (by decide +kernel) (by decide) ?_
  refine v_aload_n h (i := 0) dX8_from_245 (q := 246) rfl rfl 3 rfl ?_
  refine v_iload h (i := 6) dX8_from_246 (q := 248) rfl 1 rfl ?_
  refine v_iconst h (v := 3) dX8_from_248 (q := 249) rfl (by decide) ?_
  refine v_iload_n h (i := 3) dX8_from_249 (q := 250) rfl rfl 6 rfl ?_
  refine v_iload h (i := 7) dX8_from_250 (q := 252) rfl 0 rfl ?_
  refine v_callV h (As := [.int 2, .int 3, .int v, .int (nI (d + 1))]) (rest := []) ((hVF 2 3 v (d + 1) (pushT 60 q) (by decide) (by decide) hok.1 (by omega) (pushT_le hq))) cal_X8_from calV_X8_from m723 ⟨rfl, rfl, by dsimp only; omega, by dsimp only; omega⟩ rfl hs.1.1 hs.1.2 ⟨_, _, rfl⟩ rfl (Nat.le_of_ble_eq_true rfl) dX8_from_252 (q := 255) rfl (kI ?_)
  refine v_aload_n h (i := 0) dX8_from_255 (q := 256) rfl rfl 3 rfl ?_
  refine v_iconst h (v := 0) dX8_from_256 (q := 257) rfl (by decide) ?_
  refine v_iconst h (v := 2) dX8_from_257 (q := 258) rfl (by decide) ?_
  refine v_iload h (i := 7) dX8_from_258 (q := 260) rfl 0 rfl ?_
  refine v_callV h (As := [.int 0, .int 2, .int (nI (d + 1))]) (rest := [.int ((vE K n m f (bdN 2 3) v (pushT 60 q)).1)]) ((c_X8_own (a := 0) (d := d + 1) (v := 2) (q := (vE K n m f (bdN 2 3) v (pushT 60 q)).2) hs hK hK7 hn hm hVF (by decide) hok.2 (by omega) (vE_le _ _ _ _ _ _ _ (pushT_le hq)))) cal_X8_own calV_X8_own m719 ⟨rfl, rfl, by dsimp only; omega, by dsimp only; omega⟩ rfl hs.1.1 hs.1.2 ⟨_, _, rfl⟩ rfl (Nat.le_of_ble_eq_true rfl) dX8_from_260 (q := 263) rfl (kI ?_)
  refine v_isub h dX8_from_263 (q := 264) rfl ?_
  exact v_iret h dX8_from_264 ⟨by rw [vE_60], by rw [vE_60]⟩

set_option maxHeartbeats 4000000 in
set_option maxRecDepth 100000 in
theorem c_X8_from_70 {w : bw} {σ : bSt} {me K k a d f : Nat} {n m v : Int32} {q : bQ} (hs : sVoices w me) (hK : σ me 3 = nI K) (hK7 : K < 7) (hn : σ me 2 = n) (hm : σ me 4 = m) (hVF : VF w σ me K n m f) (hk : k < 7) (ha : a < 4) (hB : bdN k a = 70) (hok : okV K (f + 1) 70 = true) (hd : d + (f + 1) ≤ 40) (hq : q.1 ≤ 40) : MV yX8_from cX8_from 8 (some .int) (rmm (4 * f + 8) (100 * f + 200)) w [.ref (b_ad w me), .int (nI k), .int (nI a), .int v, .int (nI d)] (VS σ me q) (pI (vE K n m (f + 1) 70 v q).1 (VS σ me (vE K n m (f + 1) 70 v q).2)) := by
  refine b_met (ls := [(0, .ref (b_ad w me)), (1, .int (nI k)), (2, .int (nI a)), (3, .int v), (4, .int (nI d))]) (by decide) (Nat.le_of_ble_eq_true rfl) rfl (fun x h => ?_)
  rw [okV_70] at hok
  refine v_iload_n h (i := 1) dX8_from_0 (q := 1) rfl rfl 1 rfl ?_
  refine v_iload_n h (i := 2) dX8_from_1 (q := 2) rfl rfl 2 rfl ?_
  refine v_callS h (As := [.int (nI k), .int (nI a)]) (rest := []) ((c_X8_bodyFrom hk ha)) cal_X8_bodyFrom m728 m727 ⟨rfl, rfl, by dsimp only; omega, by dsimp only; omega⟩ rfl rfl (Nat.le_of_ble_eq_true rfl) dX8_from_2 (q := 5) rfl (kI ?_)
  rw [show (nI (bdN k a) : Int32) = 70 from (by rw [hB]; rfl)]
  refine v_istore h (i := 5) (ls1 := [(5, .int 70), (0, .ref (b_ad w me)), (1, .int (nI k)), (2, .int (nI a)), (3, .int v), (4, .int (nI d))]) dX8_from_5 (q := 7) rfl (Nat.le_of_ble_eq_true rfl) rfl ?_
  refine v_iload h (i := 5) dX8_from_7 (q := 9) rfl 0 rfl ?_
  refine v_if_eq h (t := 19) dX8_from_9 (by decide) (q := 12) rfl (fun c => absurd c (by decide)) (fun _ => ?_)
  refine v_iload h (i := 4) dX8_from_12 (q := 14) rfl 5 rfl ?_
  refine v_bipush h (v := 40) dX8_from_14 (q := 16) rfl (by decide) ?_
  refine v_icmp_lt h (t := 21) dX8_from_16 (by decide) (q := 19) rfl (fun c16 => ?_) (fun c16 => absurd (nltl (k := 40) rfl (by omega) (by decide)) c16)
  refine v_aload_n h (i := 0) dX8_from_21 (q := 22) rfl rfl 1 rfl ?_
  refine v_iload h (i := 5) dX8_from_22 (q := 24) rfl 0 rfl ?_
  refine v_callV h (As := [.int 70]) (rest := []) ((c_X8_begin (q := q) (body := 70) hs hq)) cal_X8_begin calV_X8_begin m734 ⟨rfl, rfl, by dsimp only; omega, by dsimp only; omega⟩ rfl hs.1.1 hs.1.2 ⟨_, _, rfl⟩ rfl (Nat.le_of_ble_eq_true rfl) dX8_from_24 (q := 27) rfl (kU ?_)
  refine v_iload h (i := 5) dX8_from_27 (q := 29) rfl 0 rfl ?_
  refine v_bipush h (v := 10) dX8_from_29 (q := 31) rfl (by decide) ?_
  refine v_idiv h dX8_from_31 (q := 32) rfl (by decide) ?_
  refine v_iconst h (v := 1) dX8_from_32 (q := 33) rfl (by decide) ?_
  refine v_isub h dX8_from_33 (q := 34) rfl ?_
  rw [show ((70 / 10) - 1 : Int32) = 6 from (by decide)]
  refine v_callSN h (As := [.int 6]) (rest := []) (c_X9_above (k := 6)) cal_X9_above m373 m733 ⟨rfl, rfl, by dsimp only; omega, by dsimp only; omega⟩ rfl rfl (Nat.le_of_ble_eq_true rfl) dX8_from_34 (q := 37) rfl (kI ?_)
  rw [show (abv 6 : Int32) = 3 from (by decide)]
  refine v_istore h (i := 6) (ls1 := [(6, .int 3), (5, .int 70), (0, .ref (b_ad w me)), (1, .int (nI k)), (2, .int (nI a)), (3, .int v), (4, .int (nI d))]) dX8_from_37 (q := 39) rfl (Nat.le_of_ble_eq_true rfl) rfl ?_
  refine v_iload h (i := 4) dX8_from_39 (q := 41) rfl 6 rfl ?_
  refine v_iconst h (v := 1) dX8_from_41 (q := 42) rfl (by decide) ?_
  refine v_iadd h dX8_from_42 (q := 43) rfl ?_
  rw [show ((nI d) + 1 : Int32) = nI (d + 1) from (nI_1 d)]
  refine v_istore h (i := 7) (ls1 := [(7, .int (nI (d + 1))), (6, .int 3), (5, .int 70), (0, .ref (b_ad w me)), (1, .int (nI k)), (2, .int (nI a)), (3, .int v), (4, .int (nI d))]) dX8_from_43 (q := 45) rfl (Nat.le_of_ble_eq_true rfl) rfl ?_
  refine v_iload h (i := 5) dX8_from_45 (q := 47) rfl 2 rfl ?_
  refine v_lookup h (off := 218) (t := 265) dX8_from_47 (by decide +kernel) (by decide +kernel) (by decide) ?_
  refine v_aload_n h (i := 0) dX8_from_265 (q := 266) rfl rfl 3 rfl ?_
  refine v_iload h (i := 6) dX8_from_266 (q := 268) rfl 1 rfl ?_
  refine v_iconst h (v := 2) dX8_from_268 (q := 269) rfl (by decide) ?_
  refine v_iload_n h (i := 3) dX8_from_269 (q := 270) rfl rfl 6 rfl ?_
  refine v_iload h (i := 7) dX8_from_270 (q := 272) rfl 0 rfl ?_
  refine v_callV h (As := [.int 3, .int 2, .int v, .int (nI (d + 1))]) (rest := []) ((hVF 3 2 v (d + 1) (pushT 70 q) (by decide) (by decide) hok (by omega) (pushT_le hq))) cal_X8_from calV_X8_from m723 ⟨rfl, rfl, by dsimp only; omega, by dsimp only; omega⟩ rfl hs.1.1 hs.1.2 ⟨_, _, rfl⟩ rfl (Nat.le_of_ble_eq_true rfl) dX8_from_272 (q := 275) rfl (kI ?_)
  refine v_aload_n h (i := 0) dX8_from_275 (q := 276) rfl rfl 3 rfl ?_
  refine v_get h (k := 2) (v := .int ((VS σ me (vE K n m f (bdN 3 2) v (pushT 70 q)).2) me 2)) cls8 hs.1.1 hs.1.2 (Nat.le_of_ble_eq_true rfl) m198 rfl dX8_from_276 (q := 279) rfl ?_
  rw [show ((VS σ me (vE K n m f (bdN 3 2) v (pushT 70 q)).2) me 2 : Int32) = n from (by rw [VS_f (by decide)]; exact hn)]
  refine v_ixor h dX8_from_279 (q := 280) rfl ?_
  exact v_iret h dX8_from_280 ⟨by rw [vE_70], by rw [vE_70]⟩

set_option maxHeartbeats 4000000 in
set_option maxRecDepth 100000 in
theorem c_X8_from_71 {w : bw} {σ : bSt} {me K k a d f : Nat} {n m v : Int32} {q : bQ} (hs : sVoices w me) (hK : σ me 3 = nI K) (hK7 : K < 7) (hn : σ me 2 = n) (hm : σ me 4 = m) (hVF : VF w σ me K n m f) (hk : k < 7) (ha : a < 4) (hB : bdN k a = 71) (hok : okV K (f + 1) 71 = true) (hd : d + (f + 1) ≤ 40) (hq : q.1 ≤ 40) : MV yX8_from cX8_from 8 (some .int) (rmm (4 * f + 8) (100 * f + 200)) w [.ref (b_ad w me), .int (nI k), .int (nI a), .int v, .int (nI d)] (VS σ me q) (pI (vE K n m (f + 1) 71 v q).1 (VS σ me (vE K n m (f + 1) 71 v q).2)) := by
  refine b_met (ls := [(0, .ref (b_ad w me)), (1, .int (nI k)), (2, .int (nI a)), (3, .int v), (4, .int (nI d))]) (by decide) (Nat.le_of_ble_eq_true rfl) rfl (fun x h => ?_)
  rw [okV_71, Bool.and_eq_true] at hok
  refine v_iload_n h (i := 1) dX8_from_0 (q := 1) rfl rfl 1 rfl ?_
  refine v_iload_n h (i := 2) dX8_from_1 (q := 2) rfl rfl 2 rfl ?_
  refine v_callS h (As := [.int (nI k), .int (nI a)]) (rest := []) ((c_X8_bodyFrom hk ha)) cal_X8_bodyFrom m728 m727 ⟨rfl, rfl, by dsimp only; omega, by dsimp only; omega⟩ rfl rfl (Nat.le_of_ble_eq_true rfl) dX8_from_2 (q := 5) rfl (kI ?_)
  rw [show (nI (bdN k a) : Int32) = 71 from (by rw [hB]; rfl)]
  refine v_istore h (i := 5) (ls1 := [(5, .int 71), (0, .ref (b_ad w me)), (1, .int (nI k)), (2, .int (nI a)), (3, .int v), (4, .int (nI d))]) dX8_from_5 (q := 7) rfl (Nat.le_of_ble_eq_true rfl) rfl ?_
  refine v_iload h (i := 5) dX8_from_7 (q := 9) rfl 0 rfl ?_
  refine v_if_eq h (t := 19) dX8_from_9 (by decide) (q := 12) rfl (fun c => absurd c (by decide)) (fun _ => ?_)
  refine v_iload h (i := 4) dX8_from_12 (q := 14) rfl 5 rfl ?_
  refine v_bipush h (v := 40) dX8_from_14 (q := 16) rfl (by decide) ?_
  refine v_icmp_lt h (t := 21) dX8_from_16 (by decide) (q := 19) rfl (fun c16 => ?_) (fun c16 => absurd (nltl (k := 40) rfl (by omega) (by decide)) c16)
  refine v_aload_n h (i := 0) dX8_from_21 (q := 22) rfl rfl 1 rfl ?_
  refine v_iload h (i := 5) dX8_from_22 (q := 24) rfl 0 rfl ?_
  refine v_callV h (As := [.int 71]) (rest := []) ((c_X8_begin (q := q) (body := 71) hs hq)) cal_X8_begin calV_X8_begin m734 ⟨rfl, rfl, by dsimp only; omega, by dsimp only; omega⟩ rfl hs.1.1 hs.1.2 ⟨_, _, rfl⟩ rfl (Nat.le_of_ble_eq_true rfl) dX8_from_24 (q := 27) rfl (kU ?_)
  refine v_iload h (i := 5) dX8_from_27 (q := 29) rfl 0 rfl ?_
  refine v_bipush h (v := 10) dX8_from_29 (q := 31) rfl (by decide) ?_
  refine v_idiv h dX8_from_31 (q := 32) rfl (by decide) ?_
  refine v_iconst h (v := 1) dX8_from_32 (q := 33) rfl (by decide) ?_
  refine v_isub h dX8_from_33 (q := 34) rfl ?_
  rw [show ((71 / 10) - 1 : Int32) = 6 from (by decide)]
  refine v_callSN h (As := [.int 6]) (rest := []) (c_X9_above (k := 6)) cal_X9_above m373 m733 ⟨rfl, rfl, by dsimp only; omega, by dsimp only; omega⟩ rfl rfl (Nat.le_of_ble_eq_true rfl) dX8_from_34 (q := 37) rfl (kI ?_)
  rw [show (abv 6 : Int32) = 3 from (by decide)]
  refine v_istore h (i := 6) (ls1 := [(6, .int 3), (5, .int 71), (0, .ref (b_ad w me)), (1, .int (nI k)), (2, .int (nI a)), (3, .int v), (4, .int (nI d))]) dX8_from_37 (q := 39) rfl (Nat.le_of_ble_eq_true rfl) rfl ?_
  refine v_iload h (i := 4) dX8_from_39 (q := 41) rfl 6 rfl ?_
  refine v_iconst h (v := 1) dX8_from_41 (q := 42) rfl (by decide) ?_
  refine v_iadd h dX8_from_42 (q := 43) rfl ?_
  rw [show ((nI d) + 1 : Int32) = nI (d + 1) from (nI_1 d)]
  refine v_istore h (i := 7) (ls1 := [(7, .int (nI (d + 1))), (6, .int 3), (5, .int 71), (0, .ref (b_ad w me)), (1, .int (nI k)), (2, .int (nI a)), (3, .int v), (4, .int (nI d))]) dX8_from_43 (q := 45) rfl (Nat.le_of_ble_eq_true rfl) rfl ?_
  refine v_iload h (i := 5) dX8_from_45 (q := 47) rfl 2 rfl ?_
  refine v_lookup h (off := 234) (t := 281) dX8_from_47 (by decide +kernel) (by decide +kernel) (by decide) ?_
  refine v_aload_n h (i := 0) dX8_from_281 (q := 282) rfl rfl 3 rfl ?_
  refine v_iconst h (v := 1) dX8_from_282 (q := 283) rfl (by decide) ?_
  refine v_iload_n h (i := 3) dX8_from_283 (q := 284) rfl rfl 6 rfl ?_
  refine v_iload h (i := 7) dX8_from_284 (q := 286) rfl 0 rfl ?_
  refine v_callV h (As := [.int 1, .int v, .int (nI (d + 1))]) (rest := []) ((c_X8_own (a := 1) (d := d + 1) (v := v) (q := pushT 71 q) hs hK hK7 hn hm hVF (by decide) hok.1 (by omega) (pushT_le hq))) cal_X8_own calV_X8_own m719 ⟨rfl, rfl, by dsimp only; omega, by dsimp only; omega⟩ rfl hs.1.1 hs.1.2 ⟨_, _, rfl⟩ rfl (Nat.le_of_ble_eq_true rfl) dX8_from_286 (q := 289) rfl (kI ?_)
  refine v_aload_n h (i := 0) dX8_from_289 (q := 290) rfl rfl 3 rfl ?_
  refine v_iload h (i := 6) dX8_from_290 (q := 292) rfl 1 rfl ?_
  refine v_iconst h (v := 3) dX8_from_292 (q := 293) rfl (by decide) ?_
  refine v_iload_n h (i := 3) dX8_from_293 (q := 294) rfl rfl 6 rfl ?_
  refine v_iload h (i := 7) dX8_from_294 (q := 296) rfl 0 rfl ?_
  refine v_callV h (As := [.int 3, .int 3, .int v, .int (nI (d + 1))]) (rest := [.int ((vE K n m f (bdN K 1) v (pushT 71 q)).1)]) ((hVF 3 3 v (d + 1) ((vE K n m f (bdN K 1) v (pushT 71 q)).2) (by decide) (by decide) hok.2 (by omega) (vE_le _ _ _ _ _ _ _ (pushT_le hq)))) cal_X8_from calV_X8_from m723 ⟨rfl, rfl, by dsimp only; omega, by dsimp only; omega⟩ rfl hs.1.1 hs.1.2 ⟨_, _, rfl⟩ rfl (Nat.le_of_ble_eq_true rfl) dX8_from_296 (q := 299) rfl (kI ?_)
  refine v_isub h dX8_from_299 (q := 300) rfl ?_
  exact v_iret h dX8_from_300 ⟨by rw [vE_71], by rw [vE_71]⟩

theorem VF_all {w : bw} {σ : bSt} {me K : Nat} {n m : Int32} (hs : sVoices w me) (hK : σ me 3 = nI K) (hK7 : K < 7) (hn : σ me 2 = n) (hm : σ me 4 = m) : ∀ f, VF w σ me K n m f
  | 0 => fun k a x d q _ _ hok => absurd hok (by simp [okV])
  | f + 1 => by
    have ih := VF_all (K := K) hs hK hK7 hn hm f
    intro k a x d q hk ha hok hd hq
    rcases bd_set k hk a ha with e | e | e | e | e | e | e | e | e | e | e
    · rw [e] at hok ⊢
      exact c_X8_from_10 hs hK hK7 hn hm ih hk ha e hok hd hq
    · rw [e] at hok ⊢
      exact c_X8_from_11 hs hK hK7 hn hm ih hk ha e hok hd hq
    · rw [e] at hok ⊢
      exact c_X8_from_12 hs hK hK7 hn hm ih hk ha e hok hd hq
    · rw [e] at hok ⊢
      exact c_X8_from_13 hs hK hK7 hn hm ih hk ha e hok hd hq
    · rw [e] at hok ⊢
      exact c_X8_from_20 hs hK hK7 hn hm ih hk ha e hok hd hq
    · rw [e] at hok ⊢
      exact c_X8_from_30 hs hK hK7 hn hm ih hk ha e hok hd hq
    · rw [e] at hok ⊢
      exact c_X8_from_40 hs hK hK7 hn hm ih hk ha e hok hd hq
    · rw [e] at hok ⊢
      exact c_X8_from_50 hs hK hK7 hn hm ih hk ha e hok hd hq
    · rw [e] at hok ⊢
      exact c_X8_from_60 hs hK hK7 hn hm ih hk ha e hok hd hq
    · rw [e] at hok ⊢
      exact c_X8_from_70 hs hK hK7 hn hm ih hk ha e hok hd hq
    · rw [e] at hok ⊢
      exact c_X8_from_71 hs hK hK7 hn hm ih hk ha e hok hd hq

theorem bEq_rfl {w : bw} {σ : bSt} : bEq w σ σ := by
  intro j hj
  generalize b_sh w j = s
  rcases s with (n | z) | ⟨ci, N, r⟩
  · exact fun _ _ => rfl
  · exact trivial
  · exact fun _ _ _ => rfl
theorem raise_st {σ : bSt} {me K : Nat} {n m : Int32} : b_up (b_up (b_up (b_up σ me 2 n) me 3 (nI K)) me 4 m) me 1 0 = VS (b_up (b_up (b_up σ me 2 n) me 3 (nI K)) me 4 m) me (0, σ (me + 1)) := by
  unfold VS
  rw [show (b_set (b_up (b_up (b_up σ me 2 n) me 3 (nI K)) me 4 m) (me + 1) (σ (me + 1))) = b_up (b_up (b_up σ me 2 n) me 3 (nI K)) me 4 m from by
    have : σ (me + 1) = b_up (b_up (b_up σ me 2 n) me 3 (nI K)) me 4 m (me + 1) := by rw [b_up_n (by omega), b_up_n (by omega), b_up_n (by omega)]
    rw [this]
    exact b_set_same]
  rfl
theorem raise_K {σ : bSt} {me K : Nat} {n m : Int32} : b_up (b_up (b_up σ me 2 n) me 3 (nI K)) me 4 m me 3 = nI K := by
  rw [b_up_s, upd_n (by decide), b_up_s, upd_s]
theorem raise_n {σ : bSt} {me K : Nat} {n m : Int32} : b_up (b_up (b_up σ me 2 n) me 3 (nI K)) me 4 m me 2 = n := by
  rw [b_up_s, upd_n (by decide), b_up_s, upd_n (by decide), b_up_s, upd_s]
theorem raise_m {σ : bSt} {me K : Nat} {n m : Int32} : b_up (b_up (b_up σ me 2 n) me 3 (nI K)) me 4 m me 4 = m := by
  rw [b_up_s, upd_s]

set_option maxHeartbeats 4000000 in
set_option maxRecDepth 100000 in
theorem c_X8_raise {w : bw} {σ : bSt} {me K a : Nat} {n v m : Int32} (hs : sVoices w me) (hK7 : K < 7) (ha : a < 4) : MV yX8_raise cX8_raise 6 (some .int) (rmm 60 1200) w [.ref (b_ad w me), .int n, .int (nI K), .int m, .int (nI a), .int v] σ (pI (vE K n m 8 (bdN K a) v (0, σ (me + 1))).1 (VS (b_up (b_up (b_up σ me 2 n) me 3 (nI K)) me 4 m) me (vE K n m 8 (bdN K a) v (0, σ (me + 1))).2)) := by
  refine b_met (ls := [(0, .ref (b_ad w me)), (1, .int n), (2, .int (nI K)), (3, .int m), (4, .int (nI a)), (5, .int v)]) (by decide) (Nat.le_of_ble_eq_true rfl) rfl (fun x h => ?_)
  refine v_aload_n h (i := 0) dX8_raise_0 (q := 1) rfl rfl 0 rfl ?_
  refine v_iload_n h (i := 1) dX8_raise_1 (q := 2) rfl rfl 1 rfl ?_
  refine v_put h (k := 2) cls8 hs.1.1 hs.1.2 (Nat.le_of_ble_eq_true rfl) rfl m198 rfl ⟨rfl, rfl⟩ dX8_raise_2 (q := 5) rfl ?_
  refine v_aload_n h (i := 0) dX8_raise_5 (q := 6) rfl rfl 0 rfl ?_
  refine v_iload_n h (i := 2) dX8_raise_6 (q := 7) rfl rfl 2 rfl ?_
  refine v_put h (k := 3) cls8 hs.1.1 hs.1.2 (Nat.le_of_ble_eq_true rfl) rfl m199 rfl ⟨rfl, rfl⟩ dX8_raise_7 (q := 10) rfl ?_
  refine v_aload_n h (i := 0) dX8_raise_10 (q := 11) rfl rfl 0 rfl ?_
  refine v_iload_n h (i := 3) dX8_raise_11 (q := 12) rfl rfl 3 rfl ?_
  refine v_put h (k := 4) cls8 hs.1.1 hs.1.2 (Nat.le_of_ble_eq_true rfl) rfl m200 rfl ⟨rfl, rfl⟩ dX8_raise_12 (q := 15) rfl ?_
  refine v_aload_n h (i := 0) dX8_raise_15 (q := 16) rfl rfl 0 rfl ?_
  refine v_iconst h (v := 0) dX8_raise_16 (q := 17) rfl (by decide) ?_
  refine v_put h (k := 1) cls8 hs.1.1 hs.1.2 (Nat.le_of_ble_eq_true rfl) rfl m196 rfl ⟨rfl, rfl⟩ dX8_raise_17 (q := 20) rfl ?_
  refine v_conv (σ2 := VS (b_up (b_up (b_up σ me 2 n) me 3 (nI K)) me 4 m) me (0, σ (me + 1))) (by rw [raise_st]; exact fun j hj => bEq_rfl j hj) ?_
  refine v_aload_n h (i := 0) dX8_raise_20 (q := 21) rfl rfl 0 rfl ?_
  refine v_iload h (i := 4) dX8_raise_21 (q := 23) rfl 4 rfl ?_
  refine v_iload h (i := 5) dX8_raise_23 (q := 25) rfl 5 rfl ?_
  refine v_iconst h (v := 0) dX8_raise_25 (q := 26) rfl (by decide) ?_
  refine v_callV h (As := [.int (nI a), .int v, .int 0]) (rest := []) ((c_X8_own (K := K) (a := a) (d := 0) (f := 8) (n := n) (m := m) (v := v) (q := (0, σ (me + 1))) hs raise_K hK7 raise_n raise_m (VF_all hs raise_K hK7 raise_n raise_m 8) ha (okV_all K hK7 a ha) (by decide) (by show 0 ≤ 40; decide))) cal_X8_own calV_X8_own m719 ⟨rfl, rfl, Nat.le_of_ble_eq_true rfl, Nat.le_of_ble_eq_true rfl⟩ rfl hs.1.1 hs.1.2 ⟨_, _, rfl⟩ rfl (Nat.le_of_ble_eq_true rfl) dX8_raise_26 (q := 29) rfl (kI ?_)
  exact v_iret h dX8_raise_29 ⟨rfl, rfl⟩
