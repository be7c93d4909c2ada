def offS (me L : Nat) (σ σ' : bSt) : Prop := ∀ j, (j < me ∨ me + 9 ≤ j) → j ≠ L + 4 → j ≠ L + 7 → j ≠ L + 8 → σ' j = σ j
theorem offS_rfl {me L : Nat} {σ : bSt} : offS me L σ σ := fun _ _ _ _ _ => rfl
theorem offS.trans {me L : Nat} {a b c : bSt} (h : offS me L a b) (k : offS me L b c) : offS me L a c := fun j h0 h1 h2 h3 => (k j h0 h1 h2 h3).trans (h j h0 h1 h2 h3)
theorem offS_scr {me L : Nat} {a b : bSt} (h : scr L a b) : offS me L a b := fun j _ h1 h2 h3 => h j h1 h2 h3
theorem offS_up {me L j k : Nat} {v : Int32} {a : bSt} (h : me ≤ j ∧ j < me + 9) : offS me L a (b_up a j k v) := fun i h0 _ _ _ => b_up_n (by omega)
theorem gvS_off {me L : Nat} {σ τ : bSt} (h : offS me L σ τ) (hd : me + 9 ≤ L ∨ L + 9 ≤ me) : gvS τ L = gvS σ L := by
  funext use a b c
  unfold gvS gvF
  rw [h (L + 2) (by omega) (by omega) (by omega) (by omega), h (L + 2 + 1) (by omega) (by omega) (by omega) (by omega), h (L + 5) (by omega) (by omega) (by omega) (by omega), h (L + 5 + 1) (by omega) (by omega) (by omega) (by omega)]
theorem okL_off {me L : Nat} {σ τ : bSt} (h : offS me L σ τ) (hd : me + 9 ≤ L ∨ L + 9 ≤ me) (k : okL σ L) : okL τ L :=
  ⟨okF_at k.1 (h (L + 2) (by omega) (by omega) (by omega) (by omega)) (h (L + 2 + 1) (by omega) (by omega) (by omega) (by omega)), okF_at k.2 (h (L + 5) (by omega) (by omega) (by omega) (by omega)) (h (L + 5 + 1) (by omega) (by omega) (by omega) (by omega))⟩
theorem cache_off {me L : Nat} {σ τ : bSt} (hc : cacheOK σ L) (h : offS me L σ τ) (hd : me + 9 ≤ L ∨ L + 9 ≤ me) (hk : τ (L + 8) = σ (L + 8)) : cacheOK τ L := by
  intro v2 t2 d2 g1 g2 g3 g4
  rw [gvS_off h hd, hk]
  exact hc v2 t2 d2 g1 g2 g3 g4
theorem upd_same {N : bN} {k : Nat} {v : Int32} (h : v = N k) : upd N k v = N := by
  funext j
  unfold upd
  by_cases e : j = k
  · rw [if_pos e, h, e]
  · rw [if_neg e]
theorem lis_fin {N : bN} {g : bG} {heard is coins paid pu it : Int32} {i : Nat} (his : (if togN g N (N (48 + 3 * i)) heard = true then (1 : Int32) else 0) = is) (hc : coins = N (50 + 3 * i)) (hp : paid = imin (g 1 (bcJ heard) is (nI (tN N))) coins) (hpu : pu = N 6) (hit : it = imin 9999 (N (49 + 3 * i) + is)) : upd (upd (upd N (49 + 3 * i) it) (50 + 3 * i) (coins - paid)) 6 (imin 999999 (pu + paid)) = lis1 g N heard i := by
  show _ = upd (upd (upd N (49 + 3 * i) (imin 9999 (N (49 + 3 * i) + (if togN g N (N (48 + 3 * i)) heard = true then (1 : Int32) else 0)))) (50 + 3 * i) (N (50 + 3 * i) - imin (g 1 (bcJ heard) (if togN g N (N (48 + 3 * i)) heard = true then (1 : Int32) else 0) (nI (tN N))) (N (50 + 3 * i)))) 6 (imin 999999 (N 6 + imin (g 1 (bcJ heard) (if togN g N (N (48 + 3 * i)) heard = true then (1 : Int32) else 0) (nI (tN N))) (N (50 + 3 * i))))
  rw [his, ← hc, ← hp, ← hpu, ← hit]
theorem liN_lis {g : bG} {N : bN} {heard : Int32} {n : Nat} : liN (lisN g N heard n) = liN N := by
  unfold liN
  rw [lisN_off (by decide) n (fun l _ => ⟨by omega, by omega⟩)]
theorem tN_lis {g : bG} {N : bN} {heard : Int32} {n : Nat} : tN (lisN g N heard n) = tN N := tN_eq (lisN_off (by decide) n (fun l _ => ⟨by omega, by omega⟩))
theorem lisN_stop {g : bG} {N : bN} {heard : Int32} {i : Nat} (h : ¬ i < liN N) : ∀ k, lisN g N heard (i + k) = lisN g N heard i
  | 0 => rfl
  | k + 1 => by
    show lisN g N heard ((i + k) + 1) = _
    rw [lisN, if_neg (by omega), lisN_stop h k]
theorem mvN_stop {N : bN} {i : Nat} (h : ¬ i < afN N) : ∀ k, mvN N (i + k) = mvN N i
  | 0 => rfl
  | k + 1 => by
    show mvN N ((i + k) + 1) = _
    rw [mvN, if_neg (by omega), mvN_stop h k]
theorem IvN.hcl {σ : bSt} {sc L : Nat} (h : IvN (vw σ sc L)) : ∀ b, b < 9 → ∃ c, c < 64 ∧ σ (sc + 4) b = nI c := by
  intro b hb
  obtain ⟨c, hc, e⟩ := h.cell hb
  rw [vw_c hb] at e
  exact ⟨c, hc, e⟩
theorem blk_in {σ : bSt} {d s n j : Nat} (h1 : d ≤ j) (h2 : j < d + n) : blk σ d s n j = σ (s + (j - d)) := by
  unfold blk
  rw [if_pos ⟨h1, h2⟩]
theorem tog_eq {σ : bSt} {sc L y vn t : Nat} {heard : Int32} (hI : IvN (vw σ sc L)) (ev : vw σ sc L 1 = nI vn) (et : tN (vw σ sc L) = t) : tgP (lagC σ L (sc + 1) (sc + 4) (nI y) (nI vn) (nI t)) heard ↔ togN (gvS σ L) (vw σ sc L) (nI y) heard = true := by
  rw [← ev, ← et]
  exact tog_vw hI
theorem offS_upe {me L j k : Nat} {v : Int32} {a b : bSt} (e : b_up a j k v = b) (h : me ≤ j ∧ j < me + 9) : offS me L a b := e ▸ offS_up h
theorem offS_2 {me L : Nat} {a b : bSt} (h : ∀ j, j ≠ L + 4 → j ≠ L + 7 → b j = a j) : offS me L a b := fun j _ q1 q2 _ => h j q1 q2

set_option maxHeartbeats 4000000 in
set_option maxRecDepth 100000 in
theorem c_X6_copy {w : bw} {σ : bSt} {me o : Nat} (hs : sScene w me) (ht : sScene w o) (hd : me + 9 ≤ o ∨ o + 9 ≤ me) : MV yX6_copy cX6_copy 2 none (rmm 2 61) w [.ref (b_ad w me), .ref (b_ad w o)] σ (pU (blk σ me o 9)) := by
  refine b_met (ls := [(0, .ref (b_ad w me)), (1, .ref (b_ad w o))]) (by decide) (Nat.le_of_ble_eq_true rfl) rfl (fun x h => ?_)
  refine v_aload_n h (i := 0) dX6_copy_0 (q := 1) rfl rfl 0 rfl ?_
  refine v_aload_n h (i := 1) dX6_copy_1 (q := 2) rfl rfl 1 rfl ?_
  refine v_get h (k := 0) (v := .int (σ o 0)) cls6 ht.1.1 ht.1.2 (Nat.le_of_ble_eq_true rfl) m111 rfl dX6_copy_2 (q := 5) rfl ?_
  refine v_put h (k := 0) cls6 hs.1.1 hs.1.2 (Nat.le_of_ble_eq_true rfl) rfl m111 rfl ⟨rfl, rfl⟩ dX6_copy_5 (q := 8) rfl ?_
  refine v_aload_n h (i := 0) dX6_copy_8 (q := 9) rfl rfl 0 rfl ?_
  refine v_aload_n h (i := 1) dX6_copy_9 (q := 10) rfl rfl 1 rfl ?_
  refine v_get h (k := 1) (v := .int ((b_up σ me 0 (σ o 0)) o 1)) cls6 ht.1.1 ht.1.2 (Nat.le_of_ble_eq_true rfl) m114 rfl dX6_copy_10 (q := 13) rfl ?_
  refine v_put h (k := 1) cls6 hs.1.1 hs.1.2 (Nat.le_of_ble_eq_true rfl) rfl m114 rfl ⟨rfl, rfl⟩ dX6_copy_13 (q := 16) rfl ?_
  refine v_aload_n h (i := 0) dX6_copy_16 (q := 17) rfl rfl 0 rfl ?_
  refine v_aload_n h (i := 1) dX6_copy_17 (q := 18) rfl rfl 1 rfl ?_
  refine v_get h (k := 2) (v := .int ((b_up (b_up σ me 0 (σ o 0)) me 1 ((b_up σ me 0 (σ o 0)) o 1)) o 2)) cls6 ht.1.1 ht.1.2 (Nat.le_of_ble_eq_true rfl) m116 rfl dX6_copy_18 (q := 21) rfl ?_
  refine v_put h (k := 2) cls6 hs.1.1 hs.1.2 (Nat.le_of_ble_eq_true rfl) rfl m116 rfl ⟨rfl, rfl⟩ dX6_copy_21 (q := 24) rfl ?_
  refine v_aload_n h (i := 0) dX6_copy_24 (q := 25) rfl rfl 0 rfl ?_
  refine v_get h (k := 3) (v := .ref (b_ad w (me + 1))) cls6 hs.1.1 hs.1.2 (Nat.le_of_ble_eq_true rfl) m118 rfl dX6_copy_25 (q := 28) rfl ?_
  refine v_aload_n h (i := 1) dX6_copy_28 (q := 29) rfl rfl 1 rfl ?_
  refine v_get h (k := 3) (v := .ref (b_ad w (o + 1))) cls6 ht.1.1 ht.1.2 (Nat.le_of_ble_eq_true rfl) m118 rfl dX6_copy_29 (q := 32) rfl ?_
  refine v_callV h (As := [.ref (b_ad w (o + 1))]) (rest := []) (c_X0_copy (me := me + 1) (o := o + 1) (σ := b_up (b_up (b_up σ me 0 (σ o 0)) me 1 ((b_up σ me 0 (σ o 0)) o 1)) me 2 ((b_up (b_up σ me 0 (σ o 0)) me 1 ((b_up σ me 0 (σ o 0)) o 1)) o 2)) hs.2.1 ht.2.1 (by omega)) cal_X0_copy calV_X0_copy m628 ⟨rfl, rfl, Nat.le_of_ble_eq_true rfl, Nat.le_of_ble_eq_true rfl⟩ rfl hs.2.1.1.1 hs.2.1.1.2 ⟨_, _, rfl⟩ rfl (Nat.le_of_ble_eq_true rfl) dX6_copy_32 (q := 35) rfl (kU ?_)
  refine v_aload_n h (i := 0) dX6_copy_35 (q := 36) rfl rfl 0 rfl ?_
  refine v_aload_n h (i := 1) dX6_copy_36 (q := 37) rfl rfl 1 rfl ?_
  refine v_get h (k := 4) (v := .int ((blk (b_up (b_up (b_up σ me 0 (σ o 0)) me 1 ((b_up σ me 0 (σ o 0)) o 1)) me 2 ((b_up (b_up σ me 0 (σ o 0)) me 1 ((b_up σ me 0 (σ o 0)) o 1)) o 2)) (me + 1) (o + 1) 5) o 4)) cls6 ht.1.1 ht.1.2 (Nat.le_of_ble_eq_true rfl) m121 rfl dX6_copy_37 (q := 40) rfl ?_
  refine v_put h (k := 4) cls6 hs.1.1 hs.1.2 (Nat.le_of_ble_eq_true rfl) rfl m121 rfl ⟨rfl, rfl⟩ dX6_copy_40 (q := 43) rfl ?_
  refine v_aload_n h (i := 1) dX6_copy_43 (q := 44) rfl rfl 1 rfl ?_
  refine v_get h (k := 5) (v := .ref (b_ad w (o + 6))) cls6 ht.1.1 ht.1.2 (Nat.le_of_ble_eq_true rfl) m123 rfl dX6_copy_44 (q := 47) rfl ?_
  refine v_iconst h (v := 0) dX6_copy_47 (q := 48) rfl (by decide) ?_
  refine v_aload_n h (i := 0) dX6_copy_48 (q := 49) rfl rfl 0 rfl ?_
  refine v_get h (k := 5) (v := .ref (b_ad w (me + 6))) cls6 hs.1.1 hs.1.2 (Nat.le_of_ble_eq_true rfl) m123 rfl dX6_copy_49 (q := 52) rfl ?_
  refine v_iconst h (v := 0) dX6_copy_52 (q := 53) rfl (by decide) ?_
  refine v_bipush h (v := 6) dX6_copy_53 (q := 55) rfl (by decide) ?_
  refine v_acopyF h ht.2.2.1 hs.2.2.1 m629 m482 m481 m15 rfl rfl (by decide) rfl ⟨Nat.le_of_ble_eq_true rfl, Nat.le_of_ble_eq_true rfl⟩ dX6_copy_55 (q := 58) rfl ?_
  refine v_aload_n h (i := 1) dX6_copy_58 (q := 59) rfl rfl 1 rfl ?_
  refine v_get h (k := 6) (v := .ref (b_ad w (o + 7))) cls6 ht.1.1 ht.1.2 (Nat.le_of_ble_eq_true rfl) m125 rfl dX6_copy_59 (q := 62) rfl ?_
  refine v_iconst h (v := 0) dX6_copy_62 (q := 63) rfl (by decide) ?_
  refine v_aload_n h (i := 0) dX6_copy_63 (q := 64) rfl rfl 0 rfl ?_
  refine v_get h (k := 6) (v := .ref (b_ad w (me + 7))) cls6 hs.1.1 hs.1.2 (Nat.le_of_ble_eq_true rfl) m125 rfl dX6_copy_64 (q := 67) rfl ?_
  refine v_iconst h (v := 0) dX6_copy_67 (q := 68) rfl (by decide) ?_
  refine v_bipush h (v := 6) dX6_copy_68 (q := 70) rfl (by decide) ?_
  refine v_acopyF h ht.2.2.2.1 hs.2.2.2.1 m629 m482 m481 m15 rfl rfl (by decide) rfl ⟨Nat.le_of_ble_eq_true rfl, Nat.le_of_ble_eq_true rfl⟩ dX6_copy_70 (q := 73) rfl ?_
  refine v_aload_n h (i := 1) dX6_copy_73 (q := 74) rfl rfl 1 rfl ?_
  refine v_get h (k := 7) (v := .ref (b_ad w (o + 8))) cls6 ht.1.1 ht.1.2 (Nat.le_of_ble_eq_true rfl) m127 rfl dX6_copy_74 (q := 77) rfl ?_
  refine v_iconst h (v := 0) dX6_copy_77 (q := 78) rfl (by decide) ?_
  refine v_aload_n h (i := 0) dX6_copy_78 (q := 79) rfl rfl 0 rfl ?_
  refine v_get h (k := 7) (v := .ref (b_ad w (me + 8))) cls6 hs.1.1 hs.1.2 (Nat.le_of_ble_eq_true rfl) m127 rfl dX6_copy_79 (q := 82) rfl ?_
  refine v_iconst h (v := 0) dX6_copy_82 (q := 83) rfl (by decide) ?_
  refine v_bipush h (v := 6) dX6_copy_83 (q := 85) rfl (by decide) ?_
  refine v_acopyF h ht.2.2.2.2 hs.2.2.2.2 m629 m482 m481 m15 rfl rfl (by decide) rfl ⟨Nat.le_of_ble_eq_true rfl, Nat.le_of_ble_eq_true rfl⟩ dX6_copy_85 (q := 88) rfl ?_
  refine v_conv (σ2 := blk σ me o 9) (bEq_o (j0 := me) (fun j hj => by
    rcases (show j < me ∨ me + 9 ≤ j ∨ j = me + 1 ∨ j = me + 2 ∨ j = me + 3 ∨ j = me + 4 ∨ j = me + 5 ∨ j = me + 6 ∨ j = me + 7 ∨ j = me + 8 by omega) with e | e | e | e | e | e | e | e | e | e
    all_goals try subst e
    all_goals simp (disch := omega) only [b_set_s, b_set_n, b_up_n, blk_in, blk_out]
    all_goals try (congr 1; omega)) hs.1 (fun k hk hr => by
    rcases rS_n hk hr with rfl | rfl | rfl | rfl
    all_goals simp (disch := omega) only [b_set_s, b_set_n, b_up_n, b_up_s, blk_in, blk_out, upd_s, upd_n, Nat.sub_self, Nat.add_zero])) ?_
  exact v_vret h dX6_copy_88 ⟨rfl, rfl⟩

set_option maxHeartbeats 4000000 in
set_option maxRecDepth 100000 in
theorem c_X6_tellOf {w : bw} {σ : bSt} {me L l : Nat} {what : Int32} (hs : sScene w me) (hsL : sLaws w L) (hok : okL σ L) (hca : cacheOK σ L) (hI : IvN (vw σ me L)) (hd : me + 9 ≤ L ∨ L + 9 ≤ me) (hl : l < liN (vw σ me L)) : MV yX6_tellOf cX6_tellOf 5 (some .int) (rmm 5 127) w [.ref (b_ad w me), .ref (b_ad w L), .int (nI l), .int what] σ (pR (fun r σ' => r = (if what = 0 then σ (me + 6) l else if what = 1 then σ (me + 7) l else if what = 2 then σ (me + 8) l else if togN (gvS σ L) (vw σ me L) (σ (me + 6) l) (sngN (vw σ me L) 9) = true then 1 else 0) ∧ scr L σ σ' ∧ cacheOK σ' L)) := by
  refine b_met (ls := [(0, .ref (b_ad w me)), (1, .ref (b_ad w L)), (2, .int (nI l)), (3, .int what)]) (by decide) (Nat.le_of_ble_eq_true rfl) rfl (fun x h => ?_)
  have hl9 := hI.li.2
  have hl6 : l < 6 := by have := hI.li.2; omega
  have hle : σ me 4 = nI (liN (vw σ me L)) := hI.li.1
  obtain ⟨y, hy, ey⟩ := (hI.2.2.2.2.2.2.2 l hl6).1
  rw [vw_l0 hl6] at ey
  obtain ⟨vn, hv1, hv9, ev⟩ := hI.2.1
  obtain ⟨t, ht⟩ : ∃ t, t = tN (vw σ me L) := ⟨_, rfl⟩
  have ht32 : t < 32 := by rw [ht]; exact hI.t.2
  refine v_aload_n h (i := 0) dX6_tellOf_0 (q := 1) rfl rfl 0 rfl ?_
  refine v_iload_n h (i := 2) dX6_tellOf_1 (q := 2) rfl rfl 2 rfl ?_
  refine v_callV h (As := [.int (nI l)]) (rest := []) (c_X6_seats (me := me) (σ := σ) (l := nI l) hs ) cal_X6_seats calV_X6_seats m438 ⟨rfl, rfl, Nat.le_of_ble_eq_true rfl, Nat.le_of_ble_eq_true rfl⟩ rfl hs.1.1 hs.1.2 ⟨_, _, rfl⟩ rfl (Nat.le_of_ble_eq_true rfl) dX6_tellOf_2 (q := 5) rfl (kB (fun c2 => ?_) (fun c2 => absurd ⟨nI_pos (by omega), by rw [hle]; exact nI_ge hl (by omega), nnle (k := 6) rfl hl6 (by decide)⟩ c2))
  refine v_if_ne h (t := 10) dX6_tellOf_5 (by decide) (q := 8) rfl (fun _ => ?_) (fun c => absurd c (by decide))
  refine v_iload_n h (i := 3) dX6_tellOf_10 (q := 11) rfl rfl 3 rfl ?_
  refine v_if_ne h (t := 21) dX6_tellOf_11 (by decide) (q := 14) rfl (fun c11 => ?_) (fun c11 => ?_)
  · refine v_iload_n h (i := 3) dX6_tellOf_21 (q := 22) rfl rfl 3 rfl ?_
    refine v_iconst h (v := 1) dX6_tellOf_22 (q := 23) rfl (by decide) ?_
    refine v_icmp_ne h (t := 33) dX6_tellOf_23 (by decide) (q := 26) rfl (fun c23 => ?_) (fun c23 => ?_)
    · refine v_iload_n h (i := 3) dX6_tellOf_33 (q := 34) rfl rfl 3 rfl ?_
      refine v_iconst h (v := 2) dX6_tellOf_34 (q := 35) rfl (by decide) ?_
      refine v_icmp_ne h (t := 45) dX6_tellOf_35 (by decide) (q := 38) rfl (fun c35 => ?_) (fun c35 => ?_)
      · refine v_aload_n h (i := 0) dX6_tellOf_45 (q := 46) rfl rfl 0 rfl ?_
        refine v_callV h (As := []) (rest := []) (c_X6_pieceBeat (me := me) (σ := σ) hs ) cal_X6_pieceBeat calV_X6_pieceBeat m439 ⟨rfl, rfl, Nat.le_of_ble_eq_true rfl, Nat.le_of_ble_eq_true rfl⟩ rfl hs.1.1 hs.1.2 ⟨_, _, rfl⟩ rfl (Nat.le_of_ble_eq_true rfl) dX6_tellOf_46 (q := 49) rfl (kI ?_)
        rw [show (σ me 0 &&& 31 : Int32) = nI t from (by rw [ht]; exact hI.t.1)]
        refine v_istore h (i := 4) (ls1 := [(4, .int (nI t)), (0, .ref (b_ad w me)), (1, .ref (b_ad w L)), (2, .int (nI l)), (3, .int what)]) dX6_tellOf_49 (q := 51) rfl (Nat.le_of_ble_eq_true rfl) rfl ?_
        refine v_aload_n h (i := 0) dX6_tellOf_51 (q := 52) rfl rfl 1 rfl ?_
        refine v_get h (k := 3) (v := .ref (b_ad w (me + 1))) cls6 hs.1.1 hs.1.2 (Nat.le_of_ble_eq_true rfl) m118 rfl dX6_tellOf_52 (q := 55) rfl ?_
        refine v_aload_n h (i := 1) dX6_tellOf_55 (q := 56) rfl rfl 2 rfl ?_
        refine v_aload_n h (i := 0) dX6_tellOf_56 (q := 57) rfl rfl 1 rfl ?_
        refine v_get h (k := 3) (v := .ref (b_ad w (me + 1))) cls6 hs.1.1 hs.1.2 (Nat.le_of_ble_eq_true rfl) m118 rfl dX6_tellOf_57 (q := 60) rfl ?_
        refine v_getN h (k := 3) (v := .ref (b_ad w (me + 4))) cls0 hs.2.1.1.1 hs.2.1.1.2 (Nat.le_of_ble_eq_true rfl) m97 rfl dX6_tellOf_60 (q := 63) rfl ?_
        refine v_aload_n h (i := 0) dX6_tellOf_63 (q := 64) rfl rfl 1 rfl ?_
        refine v_get h (k := 5) (v := .ref (b_ad w (me + 6))) cls6 hs.1.1 hs.1.2 (Nat.le_of_ble_eq_true rfl) m123 rfl dX6_tellOf_64 (q := 67) rfl ?_
        refine v_iload_n h (i := 2) dX6_tellOf_67 (q := 68) rfl rfl 3 rfl ?_
        refine v_iald h (k := l) hs.2.2.1.1 hs.2.2.1.2 (vp_in_nI (by omega) (by omega)) (nI_clamp (by omega)) dX6_tellOf_68 (q := 69) rfl ?_
        rw [show (σ (me + 6) l : Int32) = nI y from ey]
        refine v_iload h (i := 4) dX6_tellOf_69 (q := 71) rfl 0 rfl ?_
        refine v_aload_n h (i := 1) dX6_tellOf_71 (q := 72) rfl rfl 2 rfl ?_
        refine v_getN h (k := 0) (v := .int (σ L 0)) cls3 hsL.1.1 hsL.1.2 (Nat.le_of_ble_eq_true rfl) m58 rfl dX6_tellOf_72 (q := 75) rfl ?_
        rw [show (σ L 0 : Int32) = nI vn from ev]
        refine v_aload_n h (i := 0) dX6_tellOf_75 (q := 76) rfl rfl 1 rfl ?_
        refine v_get h (k := 3) (v := .ref (b_ad w (me + 1))) cls6 hs.1.1 hs.1.2 (Nat.le_of_ble_eq_true rfl) m118 rfl dX6_tellOf_76 (q := 79) rfl ?_
        refine v_iload h (i := 4) dX6_tellOf_79 (q := 81) rfl 0 rfl ?_
        refine v_callV h (As := [.int (nI t)]) (rest := [.int (nI vn), .int (nI t), .int (nI y), .ref (b_ad w (me + 4)), .ref (b_ad w L), .ref (b_ad w (me + 1))]) (c_X0_singers (me := me + 1) (σ := σ) (t := nI t) hs.2.1) cal_X0_singers calV_X0_singers m440 ⟨rfl, rfl, Nat.le_of_ble_eq_true rfl, Nat.le_of_ble_eq_true rfl⟩ rfl hs.2.1.1.1 hs.2.1.1.2 ⟨_, _, rfl⟩ rfl (Nat.le_of_ble_eq_true rfl) dX6_tellOf_81 (q := 84) rfl (kI ?_)
        rw [show (sngF σ (me + 1) (nI t) 9 : Int32) = sngN (vw σ me L) 9 from (by rw [ht]; exact sng_vw hI 9 (by omega))]
        refine v_callV h (As := [.ref (b_ad w L), .ref (b_ad w (me + 4)), .int (nI y), .int (nI t), .int (nI vn), .int (sngN (vw σ me L) 9)]) (rest := []) (c_X0_together (me := me + 1) (L := L) (F := me + 4) (y := y) (tn := t) (vn := vn) (heard := sngN (vw σ me L) 9) (σ := σ) hs.2.1 hsL hs.2.1.2.2.2.1 hok hca hv1 hv9 ht32 hy hI.hcl (by omega) ⟨by omega, by omega, by omega⟩) cal_X0_together calV_X0_together m445 ⟨rfl, rfl, Nat.le_of_ble_eq_true rfl, Nat.le_of_ble_eq_true rfl⟩ rfl hs.2.1.1.1 hs.2.1.1.2 ⟨_, _, rfl⟩ rfl (Nat.le_of_ble_eq_true rfl) dX6_tellOf_84 (q := 87) rfl (kZ (fun σ84 h84 c84 => ?_) (fun σ84 h84 c84 => ?_))
        · refine v_if_eq h (t := 94) dX6_tellOf_87 (by decide) (q := 90) rfl (fun c => absurd c (by decide)) (fun _ => ?_)
          refine v_iconst h (v := 1) dX6_tellOf_90 (q := 91) rfl (by decide) ?_
          refine v_goto h (t := 95) dX6_tellOf_91 (by decide) ?_
          exact v_iret h dX6_tellOf_95 ⟨_, rfl, by rw [if_neg c11, if_neg c23, if_neg c35, if_pos ((tog_eq hI ev ht.symm).mp c84)], h84.1, h84.2⟩
        · refine v_if_eq h (t := 94) dX6_tellOf_87 (by decide) (q := 90) rfl (fun _ => ?_) (fun c => absurd (by decide) c)
          refine v_iconst h (v := 0) dX6_tellOf_94 (q := 95) rfl (by decide) ?_
          exact v_iret h dX6_tellOf_95 ⟨_, rfl, by rw [if_neg c11, if_neg c23, if_neg c35, if_neg (fun z => c84 ((tog_eq hI ev ht.symm).mpr z))], h84.1, h84.2⟩
      · refine v_aload_n h (i := 0) dX6_tellOf_38 (q := 39) rfl rfl 0 rfl ?_
        refine v_get h (k := 7) (v := .ref (b_ad w (me + 8))) cls6 hs.1.1 hs.1.2 (Nat.le_of_ble_eq_true rfl) m127 rfl dX6_tellOf_39 (q := 42) rfl ?_
        refine v_iload_n h (i := 2) dX6_tellOf_42 (q := 43) rfl rfl 2 rfl ?_
        refine v_iald h (k := l) hs.2.2.2.2.1 hs.2.2.2.2.2 (vp_in_nI (by omega) (by omega)) (nI_clamp (by omega)) dX6_tellOf_43 (q := 44) rfl ?_
        exact v_iret h dX6_tellOf_44 ⟨_, rfl, by rw [if_neg c11, if_neg c23, if_pos c35], scr_rfl, hca⟩
    · refine v_aload_n h (i := 0) dX6_tellOf_26 (q := 27) rfl rfl 0 rfl ?_
      refine v_get h (k := 6) (v := .ref (b_ad w (me + 7))) cls6 hs.1.1 hs.1.2 (Nat.le_of_ble_eq_true rfl) m125 rfl dX6_tellOf_27 (q := 30) rfl ?_
      refine v_iload_n h (i := 2) dX6_tellOf_30 (q := 31) rfl rfl 2 rfl ?_
      refine v_iald h (k := l) hs.2.2.2.1.1 hs.2.2.2.1.2 (vp_in_nI (by omega) (by omega)) (nI_clamp (by omega)) dX6_tellOf_31 (q := 32) rfl ?_
      exact v_iret h dX6_tellOf_32 ⟨_, rfl, by rw [if_neg c11, if_pos c23], scr_rfl, hca⟩
  · refine v_aload_n h (i := 0) dX6_tellOf_14 (q := 15) rfl rfl 0 rfl ?_
    refine v_get h (k := 5) (v := .ref (b_ad w (me + 6))) cls6 hs.1.1 hs.1.2 (Nat.le_of_ble_eq_true rfl) m123 rfl dX6_tellOf_15 (q := 18) rfl ?_
    refine v_iload_n h (i := 2) dX6_tellOf_18 (q := 19) rfl rfl 2 rfl ?_
    refine v_iald h (k := l) hs.2.2.1.1 hs.2.2.1.2 (vp_in_nI (by omega) (by omega)) (nI_clamp (by omega)) dX6_tellOf_19 (q := 20) rfl ?_
    exact v_iret h dX6_tellOf_20 ⟨_, rfl, by rw [if_pos c11], scr_rfl, hca⟩

set_option maxHeartbeats 4000000 in
set_option maxRecDepth 100000 in
theorem lX6_goBy_185 {w : bw} {σ : bSt} {me L : Nat} {lo : Int32} (hs : sScene w me) (hsL : sLaws w L) (hok : okL σ L) (hca : cacheOK σ L) (hI : IvN (vw σ me L)) (hd : me + 9 ≤ L ∨ L + 9 ≤ me) (hbt : ∃ t, t + 1 < 20000 ∧ σ me 0 = nI t) {x : bX} (h : Cx x w cX6_goBy RX6 9 none (rmm 5 127)) : ∀ (t : Nat) (M : bN) (tide : Int32), IvN M → tN M = t → M 0 = (vw σ me L) 0 → allN M = btN (gvS σ L) (vw σ me L) (decide (¬ lo = 0)) → tide = M (2 + t / 8) → ∀ n b : Nat, b + n = 9 → ∀ τ : bSt, vw τ me L = mvN M b → cacheOK τ L → offS me L σ τ → V x w 9 (pV (fun σ' => vw σ' me L = btN (gvS σ L) (vw σ me L) (decide (¬ lo = 0)) ∧ cacheOK σ' L ∧ offS me L σ σ')) 185 [(6, .int (nI b)), (5, .int tide), (0, .ref (b_ad w me)), (1, .ref (b_ad w L)), (3, .int (nI t))] [] τ := by
  intro t M tide hIM htM hM0 hres etd
  refine b_ind (fun n ih => ?_)
  intro b hbn τ hvτ hct ho
  have hIi : IvN (vw τ me L) := by rw [hvτ]; exact hIM.mv b (by omega)
  have hafM : afN (vw τ me L) = afN M := by rw [hvτ]; exact afN_mv (by omega)
  have hae : τ (me + 1) 0 = nI (afN (vw τ me L)) := hIi.af.1
  have haf9 := hIi.af.2
  have ht32 : t < 32 := by rw [← htM]; exact hIM.t.2
  have htt : tN (vw τ me L) = t := by rw [hvτ, ← htM]; exact tN_eq (mvN_off b (by omega) (by omega))
  refine v_iload h (i := 6) dX6_goBy_185 (q := 187) rfl 0 rfl ?_
  refine v_aload_n h (i := 0) dX6_goBy_187 (q := 188) rfl rfl 2 rfl ?_
  refine v_get h (k := 3) (v := .ref (b_ad w (me + 1))) cls6 hs.1.1 hs.1.2 (Nat.le_of_ble_eq_true rfl) m118 rfl dX6_goBy_188 (q := 191) rfl ?_
  refine v_getN h (k := 0) (v := .int (τ (me + 1) 0)) cls0 hs.2.1.1.1 hs.2.1.1.2 (Nat.le_of_ble_eq_true rfl) m89 rfl dX6_goBy_191 (q := 194) rfl ?_
  refine v_icmp_ge h (t := 242) dX6_goBy_194 (by decide) (q := 197) rfl (fun c194 => ?_) (fun c194 => ?_)
  · have hv9 : vw τ me L = mvN M 9 := by
      rw [hvτ]
      first
      | (have hz := nge (k := afN (vw τ me L)) (by rw [hae, nI_toInt (by omega)]) (by omega) c194; rw [show (9 : Nat) = b + n by omega, mvN_stop (by rw [← hafM]; omega)])
      | (have hz := nge (k := 9) rfl (by omega) c201; rw [show (9 : Nat) = b by omega])
    refine v_aload_n h (i := 0) dX6_goBy_242 (q := 243) rfl rfl 2 rfl ?_
    refine v_dup h dX6_goBy_243 (q := 244) rfl rfl ?_
    refine v_get h (k := 0) (v := .int (τ me 0)) cls6 hs.1.1 hs.1.2 (Nat.le_of_ble_eq_true rfl) m111 rfl dX6_goBy_244 (q := 247) rfl ?_
    refine v_iconst h (v := 1) dX6_goBy_247 (q := 248) rfl (by decide) ?_
    refine v_iadd h dX6_goBy_248 (q := 249) rfl ?_
    refine v_put h (k := 0) cls6 hs.1.1 hs.1.2 (Nat.le_of_ble_eq_true rfl) rfl m111 rfl ⟨rfl, rfl⟩ dX6_goBy_249 (q := 252) rfl ?_
    generalize eσ249 : b_up τ me 0 ((τ me 0) + 1) = σ249
    exact v_vret h dX6_goBy_252 ⟨rfl, by
    rw [← hres, ← eσ249, vw_ups (f := 0) (K := 0) (by omega) hd, hv9]
    unfold allN
    congr 1
    rw [← vw_0 (σ := τ) (sc := me) (L := L), hv9, mvN_off 9 (by omega) (by omega)], cache_off hct (by rw [← eσ249]; exact offS_up (by omega)) hd (by rw [← eσ249, b_up_n (by omega)]), ho.trans (by rw [← eσ249]; exact offS_up (by omega))⟩
  · refine v_iload h (i := 6) dX6_goBy_197 (q := 199) rfl 0 rfl ?_
    refine v_bipush h (v := 9) dX6_goBy_199 (q := 201) rfl (by decide) ?_
    refine v_icmp_ge h (t := 242) dX6_goBy_201 (by decide) (q := 204) rfl (fun c201 => ?_) (fun c201 => ?_)
    · have hv9 : vw τ me L = mvN M 9 := by
        rw [hvτ]
        first
        | (have hz := nge (k := afN (vw τ me L)) (by rw [hae, nI_toInt (by omega)]) (by omega) c194; rw [show (9 : Nat) = b + n by omega, mvN_stop (by rw [← hafM]; omega)])
        | (have hz := nge (k := 9) rfl (by omega) c201; rw [show (9 : Nat) = b by omega])
      refine v_aload_n h (i := 0) dX6_goBy_242 (q := 243) rfl rfl 2 rfl ?_
      refine v_dup h dX6_goBy_243 (q := 244) rfl rfl ?_
      refine v_get h (k := 0) (v := .int (τ me 0)) cls6 hs.1.1 hs.1.2 (Nat.le_of_ble_eq_true rfl) m111 rfl dX6_goBy_244 (q := 247) rfl ?_
      refine v_iconst h (v := 1) dX6_goBy_247 (q := 248) rfl (by decide) ?_
      refine v_iadd h dX6_goBy_248 (q := 249) rfl ?_
      refine v_put h (k := 0) cls6 hs.1.1 hs.1.2 (Nat.le_of_ble_eq_true rfl) rfl m111 rfl ⟨rfl, rfl⟩ dX6_goBy_249 (q := 252) rfl ?_
      generalize eσ249_1 : b_up τ me 0 ((τ me 0) + 1) = σ249_1
      exact v_vret h dX6_goBy_252 ⟨rfl, by
    rw [← hres, ← eσ249_1, vw_ups (f := 0) (K := 0) (by omega) hd, hv9]
    unfold allN
    congr 1
    rw [← vw_0 (σ := τ) (sc := me) (L := L), hv9, mvN_off 9 (by omega) (by omega)], cache_off hct (by rw [← eσ249_1]; exact offS_up (by omega)) hd (by rw [← eσ249_1, b_up_n (by omega)]), ho.trans (by rw [← eσ249_1]; exact offS_up (by omega))⟩
    · have hb9 : b < 9 := nlt rfl (by omega) c201
      have hba : b < afN (vw τ me L) := nlt (by rw [hae, nI_toInt (by omega)]) (by omega) c194
      refine v_aload_n h (i := 0) dX6_goBy_204 (q := 205) rfl rfl 2 rfl ?_
      refine v_get h (k := 3) (v := .ref (b_ad w (me + 1))) cls6 hs.1.1 hs.1.2 (Nat.le_of_ble_eq_true rfl) m118 rfl dX6_goBy_205 (q := 208) rfl ?_
      refine v_getN h (k := 3) (v := .ref (b_ad w (me + 4))) cls0 hs.2.1.1.1 hs.2.1.1.2 (Nat.le_of_ble_eq_true rfl) m97 rfl dX6_goBy_208 (q := 211) rfl ?_
      refine v_iload h (i := 6) dX6_goBy_211 (q := 213) rfl 0 rfl ?_
      refine v_aload_n h (i := 0) dX6_goBy_213 (q := 214) rfl rfl 2 rfl ?_
      refine v_get h (k := 3) (v := .ref (b_ad w (me + 1))) cls6 hs.1.1 hs.1.2 (Nat.le_of_ble_eq_true rfl) m118 rfl dX6_goBy_214 (q := 217) rfl ?_
      refine v_iload h (i := 6) dX6_goBy_217 (q := 219) rfl 0 rfl ?_
      refine v_aload_n h (i := 0) dX6_goBy_219 (q := 220) rfl rfl 2 rfl ?_
      refine v_get h (k := 3) (v := .ref (b_ad w (me + 1))) cls6 hs.1.1 hs.1.2 (Nat.le_of_ble_eq_true rfl) m118 rfl dX6_goBy_220 (q := 223) rfl ?_
      refine v_getN h (k := 3) (v := .ref (b_ad w (me + 4))) cls0 hs.2.1.1.1 hs.2.1.1.2 (Nat.le_of_ble_eq_true rfl) m97 rfl dX6_goBy_223 (q := 226) rfl ?_
      refine v_iload h (i := 6) dX6_goBy_226 (q := 228) rfl 0 rfl ?_
      refine v_iald h (k := b) hs.2.1.2.2.2.1.1 hs.2.1.2.2.2.1.2 (vp_in_nI (by omega) (by omega)) (nI_clamp (by omega)) dX6_goBy_228 (q := 229) rfl ?_
      refine v_iload_n h (i := 3) dX6_goBy_229 (q := 230) rfl rfl 4 rfl ?_
      refine v_iload h (i := 5) dX6_goBy_230 (q := 232) rfl 1 rfl ?_
      refine v_callV h (As := [.int (nI b), .int (τ (me + 4) b), .int (nI t), .int tide]) (rest := [.int (nI b), .ref (b_ad w (me + 4))]) (c_X0_behind (me := me + 1) (σ := τ) (b := nI b) (cell := τ (me + 4) b) (t := nI t) (tide := tide) hs.2.1) cal_X0_behind calV_X0_behind m571 ⟨rfl, rfl, Nat.le_of_ble_eq_true rfl, Nat.le_of_ble_eq_true rfl⟩ rfl hs.2.1.1.1 hs.2.1.1.2 ⟨_, _, rfl⟩ rfl (Nat.le_of_ble_eq_true rfl) dX6_goBy_232 (q := 235) rfl (kI ?_)
      refine v_iast h (k := b) hs.2.1.2.2.2.1.1 hs.2.1.2.2.2.1.2 (vp_in_nI (by omega) (by omega)) (nI_clamp (by omega)) dX6_goBy_235 (q := 236) rfl ?_
      generalize eσ235 : b_up τ (me + 4) b (behB τ (me + 1) (nI b) (τ (me + 4) b) (nI t) tide) = σ235
      refine v_iinc h (p := 0) (u := nI (b + 1)) (ls1 := [(6, .int (nI (b + 1))), (5, .int tide), (0, .ref (b_ad w me)), (1, .ref (b_ad w L)), (3, .int (nI t))]) dX6_goBy_236 (q := 239) rfl rfl (nI_1 b) (Nat.le_of_ble_eq_true rfl) rfl ?_
      refine v_goto h (t := 185) dX6_goBy_239 (by decide) ?_
      refine ih (n - 1) (by omega) (b + 1) (by omega) σ235 ?_ (cache_off hct (by rw [← eσ235]; exact offS_up (by omega)) hd (by rw [← eσ235, b_up_n (by omega)])) (ho.trans (by rw [← eσ235]; exact offS_up (by omega)))
      rw [mvN, if_pos (by rw [← hafM]; exact hba), ← eσ235, vw_upb (f := 2) (by decide) hb9 hd, hvτ]
      congr 1
      have hbv := beh_vw hIi hb9 hba
      rw [htt] at hbv
      rw [show tide = τ (L + 1) (t / 8) by rw [etd, ← vw_t (σ := τ) (sc := me) (L := L) (by omega), hvτ, mvN_off b (by omega) (by omega)], hbv, hvτ]
      exact mv1_mv b hb9 (by rw [htM]; exact ht32)
set_option maxHeartbeats 4000000 in
set_option maxRecDepth 100000 in
theorem lX6_goBy_30 {w : bw} {σ : bSt} {me L : Nat} {lo : Int32} (hs : sScene w me) (hsL : sLaws w L) (hok : okL σ L) (hca : cacheOK σ L) (hI : IvN (vw σ me L)) (hd : me + 9 ≤ L ∨ L + 9 ≤ me) (hbt : ∃ t, t + 1 < 20000 ∧ σ me 0 = nI t) {x : bX} (h : Cx x w cX6_goBy RX6 9 none (rmm 5 127)) : ∀ (t : Nat) (M : bN) (heard : Int32), t = tN (vw σ me L) → IvN M → M 0 = (vw σ me L) 0 → allN (lisN (gvS σ L) M heard 6) = btN (gvS σ L) (vw σ me L) (decide (¬ lo = 0)) → ∀ n i : Nat, i + n = 6 → ∀ τ : bSt, vw τ me L = lisN (gvS σ L) M heard i → cacheOK τ L → offS me L σ τ → V x w 9 (pV (fun σ' => vw σ' me L = btN (gvS σ L) (vw σ me L) (decide (¬ lo = 0)) ∧ cacheOK σ' L ∧ offS me L σ σ')) 30 [(5, .int (nI i)), (4, .int heard), (3, .int (nI t)), (0, .ref (b_ad w me)), (1, .ref (b_ad w L)), (2, .int lo)] [] τ := by
  intro t M heard ht hIM hM0 hres
  have ht32 : t < 32 := by rw [ht]; exact hI.t.2
  refine b_ind (fun n ih => ?_)
  intro i hin τ hvτ hct ho
  have hIi : IvN (vw τ me L) := by rw [hvτ]; exact IvN_lis (gvS_B σ L) hIM i (by omega)
  have hliM : liN (vw τ me L) = liN M := by rw [hvτ]; exact liN_lis
  have hle : τ me 4 = nI (liN (vw τ me L)) := hIi.li.1
  have hli9 := hIi.li.2
  have htt : tN (vw τ me L) = t := by rw [hvτ, tN_lis, ht]; exact tN_eq hM0
  refine v_iload h (i := 5) dX6_goBy_30 (q := 32) rfl 0 rfl ?_
  refine v_aload_n h (i := 0) dX6_goBy_32 (q := 33) rfl rfl 3 rfl ?_
  refine v_get h (k := 4) (v := .int (τ me 4)) cls6 hs.1.1 hs.1.2 (Nat.le_of_ble_eq_true rfl) m121 rfl dX6_goBy_33 (q := 36) rfl ?_
  refine v_icmp_ge h (t := 175) dX6_goBy_36 (by decide) (q := 39) rfl (fun c36 => ?_) (fun c36 => ?_)
  · have hv6 : vw τ me L = lisN (gvS σ L) M heard 6 := by
      rw [hvτ]
      first
      | (have hz := nge (k := liN (vw τ me L)) (by rw [hle, nI_toInt (by omega)]) (by omega) c36; rw [show (6 : Nat) = i + n by omega, lisN_stop (by rw [← hliM]; omega)])
      | (have hz := nge (k := 6) rfl (by omega) c43; rw [show (6 : Nat) = i by omega])
    refine v_aload_n h (i := 1) dX6_goBy_175 (q := 176) rfl rfl 4 rfl ?_
    refine v_iload_n h (i := 3) dX6_goBy_176 (q := 177) rfl rfl 2 rfl ?_
    refine v_callV h (As := [.int (nI t)]) (rest := []) (c_X3_tideIn (me := L) (tn := t) (σ := τ) hsL ht32) cal_X3_tideIn calV_X3_tideIn m567 ⟨rfl, rfl, Nat.le_of_ble_eq_true rfl, Nat.le_of_ble_eq_true rfl⟩ rfl hsL.1.1 hsL.1.2 ⟨_, _, rfl⟩ rfl (Nat.le_of_ble_eq_true rfl) dX6_goBy_177 (q := 180) rfl (kI ?_)
    refine v_istore h (i := 5) (ls1 := [(5, .int (τ (L + 1) (t / 8))), (4, .int heard), (3, .int (nI t)), (0, .ref (b_ad w me)), (1, .ref (b_ad w L)), (2, .int lo)]) dX6_goBy_180 (q := 182) rfl (Nat.le_of_ble_eq_true rfl) rfl ?_
    generalize etide : τ (L + 1) (t / 8) = tide
    refine v_iconst h (v := 0) dX6_goBy_182 (q := 183) rfl (by decide) ?_
    refine v_istore h (i := 6) (ls1 := [(6, .int 0), (5, .int tide), (4, .int heard), (3, .int (nI t)), (0, .ref (b_ad w me)), (1, .ref (b_ad w L)), (2, .int lo)]) dX6_goBy_183 (q := 185) rfl (Nat.le_of_ble_eq_true rfl) rfl ?_
    refine v_ls [0, 1, 4, 5, 3] (ls2 := [(6, .int 0), (5, .int tide), (0, .ref (b_ad w me)), (1, .ref (b_ad w L)), (3, .int (nI t))]) rfl ?_
    exact lX6_goBy_185 hs hsL hok hca hI hd hbt h t (lisN (gvS σ L) M heard 6) tide (IvN_lis (gvS_B σ L) hIM 6 (Nat.le_refl 6)) (by rw [tN_lis, ht]; exact tN_eq hM0) (by rw [lisN_off (by decide) 6 (fun l _ => ⟨by omega, by omega⟩)]; exact hM0) hres (by rw [← etide, ← vw_t (σ := τ) (sc := me) (L := L) (by omega), hv6]) 9 0 rfl τ hv6 hct ho
  · refine v_iload h (i := 5) dX6_goBy_39 (q := 41) rfl 0 rfl ?_
    refine v_bipush h (v := 6) dX6_goBy_41 (q := 43) rfl (by decide) ?_
    refine v_icmp_ge h (t := 175) dX6_goBy_43 (by decide) (q := 46) rfl (fun c43 => ?_) (fun c43 => ?_)
    · have hv6 : vw τ me L = lisN (gvS σ L) M heard 6 := by
        rw [hvτ]
        first
        | (have hz := nge (k := liN (vw τ me L)) (by rw [hle, nI_toInt (by omega)]) (by omega) c36; rw [show (6 : Nat) = i + n by omega, lisN_stop (by rw [← hliM]; omega)])
        | (have hz := nge (k := 6) rfl (by omega) c43; rw [show (6 : Nat) = i by omega])
      refine v_aload_n h (i := 1) dX6_goBy_175 (q := 176) rfl rfl 4 rfl ?_
      refine v_iload_n h (i := 3) dX6_goBy_176 (q := 177) rfl rfl 2 rfl ?_
      refine v_callV h (As := [.int (nI t)]) (rest := []) (c_X3_tideIn (me := L) (tn := t) (σ := τ) hsL ht32) cal_X3_tideIn calV_X3_tideIn m567 ⟨rfl, rfl, Nat.le_of_ble_eq_true rfl, Nat.le_of_ble_eq_true rfl⟩ rfl hsL.1.1 hsL.1.2 ⟨_, _, rfl⟩ rfl (Nat.le_of_ble_eq_true rfl) dX6_goBy_177 (q := 180) rfl (kI ?_)
      refine v_istore h (i := 5) (ls1 := [(5, .int (τ (L + 1) (t / 8))), (4, .int heard), (3, .int (nI t)), (0, .ref (b_ad w me)), (1, .ref (b_ad w L)), (2, .int lo)]) dX6_goBy_180 (q := 182) rfl (Nat.le_of_ble_eq_true rfl) rfl ?_
      generalize etide_1 : τ (L + 1) (t / 8) = tide_1
      refine v_iconst h (v := 0) dX6_goBy_182 (q := 183) rfl (by decide) ?_
      refine v_istore h (i := 6) (ls1 := [(6, .int 0), (5, .int tide_1), (4, .int heard), (3, .int (nI t)), (0, .ref (b_ad w me)), (1, .ref (b_ad w L)), (2, .int lo)]) dX6_goBy_183 (q := 185) rfl (Nat.le_of_ble_eq_true rfl) rfl ?_
      refine v_ls [0, 1, 4, 5, 3] (ls2 := [(6, .int 0), (5, .int tide_1), (0, .ref (b_ad w me)), (1, .ref (b_ad w L)), (3, .int (nI t))]) rfl ?_
      exact lX6_goBy_185 hs hsL hok hca hI hd hbt h t (lisN (gvS σ L) M heard 6) tide_1 (IvN_lis (gvS_B σ L) hIM 6 (Nat.le_refl 6)) (by rw [tN_lis, ht]; exact tN_eq hM0) (by rw [lisN_off (by decide) 6 (fun l _ => ⟨by omega, by omega⟩)]; exact hM0) hres (by rw [← etide_1, ← vw_t (σ := τ) (sc := me) (L := L) (by omega), hv6]) 9 0 rfl τ hv6 hct ho
    · have hi6 : i < 6 := nlt rfl (by omega) c43
      have hli : i < liN (vw τ me L) := nlt (by rw [hle, nI_toInt (by omega)]) (by omega) c36
      obtain ⟨y, hy, ey⟩ := (hIi.2.2.2.2.2.2.2 i hi6).1
      rw [vw_l0 hi6] at ey
      obtain ⟨vn, hv1, hv9, ev⟩ := hIi.2.1
      refine v_aload_n h (i := 0) dX6_goBy_46 (q := 47) rfl rfl 3 rfl ?_
      refine v_get h (k := 3) (v := .ref (b_ad w (me + 1))) cls6 hs.1.1 hs.1.2 (Nat.le_of_ble_eq_true rfl) m118 rfl dX6_goBy_47 (q := 50) rfl ?_
      refine v_aload_n h (i := 1) dX6_goBy_50 (q := 51) rfl rfl 4 rfl ?_
      refine v_aload_n h (i := 0) dX6_goBy_51 (q := 52) rfl rfl 3 rfl ?_
      refine v_get h (k := 3) (v := .ref (b_ad w (me + 1))) cls6 hs.1.1 hs.1.2 (Nat.le_of_ble_eq_true rfl) m118 rfl dX6_goBy_52 (q := 55) rfl ?_
      refine v_getN h (k := 3) (v := .ref (b_ad w (me + 4))) cls0 hs.2.1.1.1 hs.2.1.1.2 (Nat.le_of_ble_eq_true rfl) m97 rfl dX6_goBy_55 (q := 58) rfl ?_
      refine v_aload_n h (i := 0) dX6_goBy_58 (q := 59) rfl rfl 3 rfl ?_
      refine v_get h (k := 5) (v := .ref (b_ad w (me + 6))) cls6 hs.1.1 hs.1.2 (Nat.le_of_ble_eq_true rfl) m123 rfl dX6_goBy_59 (q := 62) rfl ?_
      refine v_iload h (i := 5) dX6_goBy_62 (q := 64) rfl 0 rfl ?_
      refine v_iald h (k := i) hs.2.2.1.1 hs.2.2.1.2 (vp_in_nI (by omega) (by omega)) (nI_clamp (by omega)) dX6_goBy_64 (q := 65) rfl ?_
      rw [show (τ (me + 6) i : Int32) = nI y from ey]
      refine v_iload_n h (i := 3) dX6_goBy_65 (q := 66) rfl rfl 2 rfl ?_
      refine v_aload_n h (i := 1) dX6_goBy_66 (q := 67) rfl rfl 4 rfl ?_
      refine v_getN h (k := 0) (v := .int (τ L 0)) cls3 hsL.1.1 hsL.1.2 (Nat.le_of_ble_eq_true rfl) m58 rfl dX6_goBy_67 (q := 70) rfl ?_
      rw [show (τ L 0 : Int32) = nI vn from ev]
      refine v_iload h (i := 4) dX6_goBy_70 (q := 72) rfl 1 rfl ?_
      refine v_callV h (As := [.ref (b_ad w L), .ref (b_ad w (me + 4)), .int (nI y), .int (nI t), .int (nI vn), .int heard]) (rest := []) (c_X0_together (me := me + 1) (L := L) (F := me + 4) (y := y) (tn := t) (vn := vn) (heard := heard) (σ := τ) hs.2.1 hsL hs.2.1.2.2.2.1 (okL_off ho hd hok) hct hv1 hv9 ht32 hy hIi.hcl (by omega) ⟨by omega, by omega, by omega⟩) cal_X0_together calV_X0_together m445 ⟨rfl, rfl, Nat.le_of_ble_eq_true rfl, Nat.le_of_ble_eq_true rfl⟩ rfl hs.2.1.1.1 hs.2.1.1.2 ⟨_, _, rfl⟩ rfl (Nat.le_of_ble_eq_true rfl) dX6_goBy_72 (q := 75) rfl (kZ (fun σ72 h72 c72 => ?_) (fun σ72 h72 c72 => ?_))
      · refine v_istore h (i := 6) (ls1 := [(6, .int 1), (5, .int (nI i)), (4, .int heard), (3, .int (nI t)), (0, .ref (b_ad w me)), (1, .ref (b_ad w L)), (2, .int lo)]) dX6_goBy_75 (q := 77) rfl (Nat.le_of_ble_eq_true rfl) rfl ?_
        refine v_iload h (i := 6) dX6_goBy_77 (q := 79) rfl 0 rfl ?_
        refine v_if_eq h (t := 104) dX6_goBy_79 (by decide) (q := 82) rfl (fun c => absurd c (by decide)) (fun _ => ?_)
        refine v_aload_n h (i := 0) dX6_goBy_82 (q := 83) rfl rfl 4 rfl ?_
        refine v_get h (k := 6) (v := .ref (b_ad w (me + 7))) cls6 hs.1.1 hs.1.2 (Nat.le_of_ble_eq_true rfl) m125 rfl dX6_goBy_83 (q := 86) rfl ?_
        refine v_iload h (i := 5) dX6_goBy_86 (q := 88) rfl 1 rfl ?_
        refine v_sipush h (v := 9999) dX6_goBy_88 (q := 91) rfl (by decide) ?_
        refine v_aload_n h (i := 0) dX6_goBy_91 (q := 92) rfl rfl 4 rfl ?_
        refine v_get h (k := 6) (v := .ref (b_ad w (me + 7))) cls6 hs.1.1 hs.1.2 (Nat.le_of_ble_eq_true rfl) m125 rfl dX6_goBy_92 (q := 95) rfl ?_
        refine v_iload h (i := 5) dX6_goBy_95 (q := 97) rfl 1 rfl ?_
        refine v_iald h (k := i) hs.2.2.2.1.1 hs.2.2.2.1.2 (vp_in_nI (by omega) (by omega)) (nI_clamp (by omega)) dX6_goBy_97 (q := 98) rfl ?_
        refine v_iconst h (v := 1) dX6_goBy_98 (q := 99) rfl (by decide) ?_
        refine v_iadd h dX6_goBy_99 (q := 100) rfl ?_
        refine v_min h m563 m411 m13 m412 ⟨Nat.le_of_ble_eq_true rfl, Nat.le_of_ble_eq_true rfl⟩ dX6_goBy_100 (q := 103) rfl ?_
        refine v_iast h (k := i) hs.2.2.2.1.1 hs.2.2.2.1.2 (vp_in_nI (by omega) (by omega)) (nI_clamp (by omega)) dX6_goBy_103 (q := 104) rfl ?_
        generalize eσ103 : b_up σ72 (me + 7) i (imin 9999 ((σ72 (me + 7) i) + 1)) = σ103
        have hob := ho.trans (offS_scr h72.1)
        have ho4 : offS me L σ σ103 := hob.trans (by rw [← eσ103]; exact offS_up (by omega))
        have hc4 : cacheOK σ103 L := cache_off h72.2 (by rw [← eσ103]; exact offS_up (by omega)) hd (by rw [← eσ103, b_up_n (by omega)])
        have hw4 : vw σ103 me L = upd (vw τ me L) (49 + 3 * i) (imin 9999 (vw τ me L (49 + 3 * i) + 1)) := by
          rw [← eσ103, vw_upl (f := 1) (by decide) hi6 hd, vw_scr h72.1 hd, vw_l1 hi6, h72.1 (me + 7) (by omega) (by omega) (by omega)]
        have his : (if togN (gvS σ L) (vw τ me L) (vw τ me L (48 + 3 * i)) heard = true then (1 : Int32) else 0) = 1 := if_pos (by rw [vw_l0 hi6, ey, ← gvS_off ho hd]; exact (tog_eq hIi ev htt).mp c72)
        refine v_aload_n h (i := 1) dX6_goBy_104 (q := 105) rfl rfl 5 rfl ?_
        refine v_iconst h (v := 1) dX6_goBy_105 (q := 106) rfl (by decide) ?_
        refine v_iload h (i := 4) dX6_goBy_106 (q := 108) rfl 2 rfl ?_
        refine v_callS h (As := [.int heard]) (rest := [.int 1, .ref (b_ad w L)]) (c_J6_bitCount_0f7a4 (v := heard)) cal_J6_bitCount_0f7a4 m450 m564 ⟨rfl, rfl, Nat.le_of_ble_eq_true rfl, Nat.le_of_ble_eq_true rfl⟩ rfl rfl (Nat.le_of_ble_eq_true rfl) dX6_goBy_108 (q := 111) rfl (kI ?_)
        refine v_iload h (i := 6) dX6_goBy_111 (q := 113) rfl 0 rfl ?_
        refine v_if_eq h (t := 120) dX6_goBy_113 (by decide) (q := 116) rfl (fun c => absurd c (by decide)) (fun _ => ?_)
        refine v_iconst h (v := 1) dX6_goBy_116 (q := 117) rfl (by decide) ?_
        refine v_goto h (t := 121) dX6_goBy_117 (by decide) ?_
        refine v_iload_n h (i := 3) dX6_goBy_121 (q := 122) rfl rfl 3 rfl ?_
        refine v_callV h (As := [.int 1, .int (bcJ heard), .int 1, .int (nI t)]) (rest := []) (c_X3_gives (me := L) (use := 1) (a := bcJ heard) (b := 1) (c := nI t) (σ := σ103) hsL (okL_off ho4 hd hok)) cal_X3_gives calV_X3_gives m565 ⟨rfl, rfl, Nat.le_of_ble_eq_true rfl, Nat.le_of_ble_eq_true rfl⟩ rfl hsL.1.1 hsL.1.2 ⟨_, _, rfl⟩ rfl (Nat.le_of_ble_eq_true rfl) dX6_goBy_122 (q := 125) rfl (kR (fun r122 σ122 h122 => ?_))
        refine v_istore h (i := 7) (ls1 := [(7, .int r122), (6, .int 1), (5, .int (nI i)), (4, .int heard), (3, .int (nI t)), (0, .ref (b_ad w me)), (1, .ref (b_ad w L)), (2, .int lo)]) dX6_goBy_125 (q := 127) rfl (Nat.le_of_ble_eq_true rfl) rfl ?_
        skip
        refine v_iload h (i := 7) dX6_goBy_127 (q := 129) rfl 0 rfl ?_
        refine v_aload_n h (i := 0) dX6_goBy_129 (q := 130) rfl rfl 5 rfl ?_
        refine v_get h (k := 7) (v := .ref (b_ad w (me + 8))) cls6 hs.1.1 hs.1.2 (Nat.le_of_ble_eq_true rfl) m127 rfl dX6_goBy_130 (q := 133) rfl ?_
        refine v_iload h (i := 5) dX6_goBy_133 (q := 135) rfl 2 rfl ?_
        refine v_iald h (k := i) hs.2.2.2.2.1 hs.2.2.2.2.2 (vp_in_nI (by omega) (by omega)) (nI_clamp (by omega)) dX6_goBy_135 (q := 136) rfl ?_
        refine v_min h m563 m411 m13 m412 ⟨Nat.le_of_ble_eq_true rfl, Nat.le_of_ble_eq_true rfl⟩ dX6_goBy_136 (q := 139) rfl ?_
        refine v_istore h (i := 8) (ls1 := [(8, .int (imin r122 (σ122 (me + 8) i))), (7, .int r122), (6, .int 1), (5, .int (nI i)), (4, .int heard), (3, .int (nI t)), (0, .ref (b_ad w me)), (1, .ref (b_ad w L)), (2, .int lo)]) dX6_goBy_139 (q := 141) rfl (Nat.le_of_ble_eq_true rfl) rfl ?_
        generalize epaid : imin r122 (σ122 (me + 8) i) = paid
        refine v_aload_n h (i := 0) dX6_goBy_141 (q := 142) rfl rfl 6 rfl ?_
        refine v_get h (k := 7) (v := .ref (b_ad w (me + 8))) cls6 hs.1.1 hs.1.2 (Nat.le_of_ble_eq_true rfl) m127 rfl dX6_goBy_142 (q := 145) rfl ?_
        refine v_iload h (i := 5) dX6_goBy_145 (q := 147) rfl 3 rfl ?_
        refine v_dup2 h dX6_goBy_147 (q := 148) rfl rfl rfl ?_
        refine v_iald h (k := i) hs.2.2.2.2.1 hs.2.2.2.2.2 (vp_in_nI (by omega) (by omega)) (nI_clamp (by omega)) dX6_goBy_148 (q := 149) rfl ?_
        refine v_iload h (i := 8) dX6_goBy_149 (q := 151) rfl 0 rfl ?_
        refine v_isub h dX6_goBy_151 (q := 152) rfl ?_
        refine v_iast h (k := i) hs.2.2.2.2.1 hs.2.2.2.2.2 (vp_in_nI (by omega) (by omega)) (nI_clamp (by omega)) dX6_goBy_152 (q := 153) rfl ?_
        generalize eσ152 : b_up σ122 (me + 8) i ((σ122 (me + 8) i) - paid) = σ152
        refine v_aload_n h (i := 0) dX6_goBy_153 (q := 154) rfl rfl 6 rfl ?_
        refine v_ldc h (v := 999999) m566 dX6_goBy_154 (q := 156) rfl ?_
        refine v_aload_n h (i := 0) dX6_goBy_156 (q := 157) rfl rfl 6 rfl ?_
        refine v_get h (k := 1) (v := .int (σ152 me 1)) cls6 hs.1.1 hs.1.2 (Nat.le_of_ble_eq_true rfl) m114 rfl dX6_goBy_157 (q := 160) rfl ?_
        refine v_iload h (i := 8) dX6_goBy_160 (q := 162) rfl 0 rfl ?_
        refine v_iadd h dX6_goBy_162 (q := 163) rfl ?_
        refine v_min h m563 m411 m13 m412 ⟨Nat.le_of_ble_eq_true rfl, Nat.le_of_ble_eq_true rfl⟩ dX6_goBy_163 (q := 166) rfl ?_
        refine v_put h (k := 1) cls6 hs.1.1 hs.1.2 (Nat.le_of_ble_eq_true rfl) rfl m114 rfl ⟨rfl, rfl⟩ dX6_goBy_166 (q := 169) rfl ?_
        generalize eσ166 : b_up σ152 me 1 (imin 999999 ((σ152 me 1) + paid)) = σ166
        refine v_iinc h (p := 3) (u := nI (i + 1)) (ls1 := [(5, .int (nI (i + 1))), (8, .int paid), (7, .int r122), (6, .int 1), (4, .int heard), (3, .int (nI t)), (0, .ref (b_ad w me)), (1, .ref (b_ad w L)), (2, .int lo)]) dX6_goBy_169 (q := 172) rfl rfl (nI_1 i) (Nat.le_of_ble_eq_true rfl) rfl ?_
        refine v_goto h (t := 30) dX6_goBy_172 (by decide) ?_
        refine v_ls [0, 4, 5, 6, 7, 8] (ls2 := [(5, .int (nI (i + 1))), (4, .int heard), (3, .int (nI t)), (0, .ref (b_ad w me)), (1, .ref (b_ad w L)), (2, .int lo)]) rfl ?_
        have ho6 : offS me L σ σ122 := ho4.trans (offS_2 h122.2)
        have hw6 : vw σ122 me L = vw σ103 me L := vw_scr (fun j q1 q2 _ => h122.2 j q1 q2) hd
        have hoz : offS me L σ σ166 := (ho6.trans (offS_upe eσ152 (by omega))).trans (offS_upe eσ166 (by omega))
        have hoq : offS me L σ103 σ166 := ((offS_2 h122.2).trans (offS_upe eσ152 (by omega))).trans (offS_upe eσ166 (by omega))
        refine ih (n - 1) (by omega) (i + 1) (by omega) σ166 ?_ (cache_off hc4 hoq hd (by rw [← eσ166, b_up_n (by omega), ← eσ152, b_up_n (by omega), h122.2 (L + 8) (by omega) (by omega)])) hoz
        rw [lisN, if_pos (by rw [← hliM]; exact hli), ← hvτ, ← eσ166, vw_ups (f := 1) (K := 6) (by omega) hd, ← eσ152, vw_upl (f := 2) (by decide) hi6 hd, hw6, hw4]
        have ecn : σ122 (me + 8) i = vw τ me L (50 + 3 * i) := by
          rw [← vw_l2 (σ := σ122) (sc := me) (L := L) hi6, hw6, hw4, upd_n (by omega)]
        refine lis_fin (is := 1) his ecn ?_ ?_ rfl
        · rw [← epaid, h122.1, gvS_off ho4 hd, htt]
        · show b_up σ122 (me + 8) i _ me 1 = _
          rw [b_up_n (by omega), ← vw_6 (σ := σ122) (sc := me) (L := L), hw6, hw4, upd_n (by omega)]
      · refine v_istore h (i := 6) (ls1 := [(6, .int 0), (5, .int (nI i)), (4, .int heard), (3, .int (nI t)), (0, .ref (b_ad w me)), (1, .ref (b_ad w L)), (2, .int lo)]) dX6_goBy_75 (q := 77) rfl (Nat.le_of_ble_eq_true rfl) rfl ?_
        refine v_iload h (i := 6) dX6_goBy_77 (q := 79) rfl 0 rfl ?_
        refine v_if_eq h (t := 104) dX6_goBy_79 (by decide) (q := 82) rfl (fun _ => ?_) (fun c => absurd (by decide) c)
        have ho4 : offS me L σ σ72 := ho.trans (offS_scr h72.1)
        have hc4 := h72.2
        have hw4 : vw σ72 me L = upd (vw τ me L) (49 + 3 * i) (imin 9999 (vw τ me L (49 + 3 * i) + 0)) := by
          rw [vw_scr h72.1 hd, upd_same]
          obtain ⟨it, hit, eit⟩ := (hIi.2.2.2.2.2.2.2 i hi6).2.1
          rw [eit, Int32.add_zero, show (9999 : Int32) = nI 9999 from rfl, imin_nI (by decide) (by omega), Nat.min_eq_right hit]
        have his : (if togN (gvS σ L) (vw τ me L) (vw τ me L (48 + 3 * i)) heard = true then (1 : Int32) else 0) = 0 := if_neg (by rw [vw_l0 hi6, ey, ← gvS_off ho hd]; exact fun z => c72 ((tog_eq hIi ev htt).mpr z))
        refine v_aload_n h (i := 1) dX6_goBy_104 (q := 105) rfl rfl 5 rfl ?_
        refine v_iconst h (v := 1) dX6_goBy_105 (q := 106) rfl (by decide) ?_
        refine v_iload h (i := 4) dX6_goBy_106 (q := 108) rfl 2 rfl ?_
        refine v_callS h (As := [.int heard]) (rest := [.int 1, .ref (b_ad w L)]) (c_J6_bitCount_0f7a4 (v := heard)) cal_J6_bitCount_0f7a4 m450 m564 ⟨rfl, rfl, Nat.le_of_ble_eq_true rfl, Nat.le_of_ble_eq_true rfl⟩ rfl rfl (Nat.le_of_ble_eq_true rfl) dX6_goBy_108 (q := 111) rfl (kI ?_)
        refine v_iload h (i := 6) dX6_goBy_111 (q := 113) rfl 0 rfl ?_
        refine v_if_eq h (t := 120) dX6_goBy_113 (by decide) (q := 116) rfl (fun _ => ?_) (fun c => absurd (by decide) c)
        refine v_iconst h (v := 0) dX6_goBy_120 (q := 121) rfl (by decide) ?_
        refine v_iload_n h (i := 3) dX6_goBy_121 (q := 122) rfl rfl 3 rfl ?_
        refine v_callV h (As := [.int 1, .int (bcJ heard), .int 0, .int (nI t)]) (rest := []) (c_X3_gives (me := L) (use := 1) (a := bcJ heard) (b := 0) (c := nI t) (σ := σ72) hsL (okL_off ho4 hd hok)) cal_X3_gives calV_X3_gives m565 ⟨rfl, rfl, Nat.le_of_ble_eq_true rfl, Nat.le_of_ble_eq_true rfl⟩ rfl hsL.1.1 hsL.1.2 ⟨_, _, rfl⟩ rfl (Nat.le_of_ble_eq_true rfl) dX6_goBy_122 (q := 125) rfl (kR (fun r122_1 σ122_1 h122_1 => ?_))
        refine v_istore h (i := 7) (ls1 := [(7, .int r122_1), (6, .int 0), (5, .int (nI i)), (4, .int heard), (3, .int (nI t)), (0, .ref (b_ad w me)), (1, .ref (b_ad w L)), (2, .int lo)]) dX6_goBy_125 (q := 127) rfl (Nat.le_of_ble_eq_true rfl) rfl ?_
        skip
        refine v_iload h (i := 7) dX6_goBy_127 (q := 129) rfl 0 rfl ?_
        refine v_aload_n h (i := 0) dX6_goBy_129 (q := 130) rfl rfl 5 rfl ?_
        refine v_get h (k := 7) (v := .ref (b_ad w (me + 8))) cls6 hs.1.1 hs.1.2 (Nat.le_of_ble_eq_true rfl) m127 rfl dX6_goBy_130 (q := 133) rfl ?_
        refine v_iload h (i := 5) dX6_goBy_133 (q := 135) rfl 2 rfl ?_
        refine v_iald h (k := i) hs.2.2.2.2.1 hs.2.2.2.2.2 (vp_in_nI (by omega) (by omega)) (nI_clamp (by omega)) dX6_goBy_135 (q := 136) rfl ?_
        refine v_min h m563 m411 m13 m412 ⟨Nat.le_of_ble_eq_true rfl, Nat.le_of_ble_eq_true rfl⟩ dX6_goBy_136 (q := 139) rfl ?_
        refine v_istore h (i := 8) (ls1 := [(8, .int (imin r122_1 (σ122_1 (me + 8) i))), (7, .int r122_1), (6, .int 0), (5, .int (nI i)), (4, .int heard), (3, .int (nI t)), (0, .ref (b_ad w me)), (1, .ref (b_ad w L)), (2, .int lo)]) dX6_goBy_139 (q := 141) rfl (Nat.le_of_ble_eq_true rfl) rfl ?_
        generalize epaid_1 : imin r122_1 (σ122_1 (me + 8) i) = paid_1
        refine v_aload_n h (i := 0) dX6_goBy_141 (q := 142) rfl rfl 6 rfl ?_
        refine v_get h (k := 7) (v := .ref (b_ad w (me + 8))) cls6 hs.1.1 hs.1.2 (Nat.le_of_ble_eq_true rfl) m127 rfl dX6_goBy_142 (q := 145) rfl ?_
        refine v_iload h (i := 5) dX6_goBy_145 (q := 147) rfl 3 rfl ?_
        refine v_dup2 h dX6_goBy_147 (q := 148) rfl rfl rfl ?_
        refine v_iald h (k := i) hs.2.2.2.2.1 hs.2.2.2.2.2 (vp_in_nI (by omega) (by omega)) (nI_clamp (by omega)) dX6_goBy_148 (q := 149) rfl ?_
        refine v_iload h (i := 8) dX6_goBy_149 (q := 151) rfl 0 rfl ?_
        refine v_isub h dX6_goBy_151 (q := 152) rfl ?_
        refine v_iast h (k := i) hs.2.2.2.2.1 hs.2.2.2.2.2 (vp_in_nI (by omega) (by omega)) (nI_clamp (by omega)) dX6_goBy_152 (q := 153) rfl ?_
        generalize eσ152_1 : b_up σ122_1 (me + 8) i ((σ122_1 (me + 8) i) - paid_1) = σ152_1
        refine v_aload_n h (i := 0) dX6_goBy_153 (q := 154) rfl rfl 6 rfl ?_
        refine v_ldc h (v := 999999) m566 dX6_goBy_154 (q := 156) rfl ?_
        refine v_aload_n h (i := 0) dX6_goBy_156 (q := 157) rfl rfl 6 rfl ?_
        refine v_get h (k := 1) (v := .int (σ152_1 me 1)) cls6 hs.1.1 hs.1.2 (Nat.le_of_ble_eq_true rfl) m114 rfl dX6_goBy_157 (q := 160) rfl ?_
        refine v_iload h (i := 8) dX6_goBy_160 (q := 162) rfl 0 rfl ?_
        refine v_iadd h dX6_goBy_162 (q := 163) rfl ?_
        refine v_min h m563 m411 m13 m412 ⟨Nat.le_of_ble_eq_true rfl, Nat.le_of_ble_eq_true rfl⟩ dX6_goBy_163 (q := 166) rfl ?_
        refine v_put h (k := 1) cls6 hs.1.1 hs.1.2 (Nat.le_of_ble_eq_true rfl) rfl m114 rfl ⟨rfl, rfl⟩ dX6_goBy_166 (q := 169) rfl ?_
        generalize eσ166_1 : b_up σ152_1 me 1 (imin 999999 ((σ152_1 me 1) + paid_1)) = σ166_1
        refine v_iinc h (p := 3) (u := nI (i + 1)) (ls1 := [(5, .int (nI (i + 1))), (8, .int paid_1), (7, .int r122_1), (6, .int 0), (4, .int heard), (3, .int (nI t)), (0, .ref (b_ad w me)), (1, .ref (b_ad w L)), (2, .int lo)]) dX6_goBy_169 (q := 172) rfl rfl (nI_1 i) (Nat.le_of_ble_eq_true rfl) rfl ?_
        refine v_goto h (t := 30) dX6_goBy_172 (by decide) ?_
        refine v_ls [0, 4, 5, 6, 7, 8] (ls2 := [(5, .int (nI (i + 1))), (4, .int heard), (3, .int (nI t)), (0, .ref (b_ad w me)), (1, .ref (b_ad w L)), (2, .int lo)]) rfl ?_
        have ho6 : offS me L σ σ122_1 := ho4.trans (offS_2 h122_1.2)
        have hw6 : vw σ122_1 me L = vw σ72 me L := vw_scr (fun j q1 q2 _ => h122_1.2 j q1 q2) hd
        have hoz : offS me L σ σ166_1 := (ho6.trans (offS_upe eσ152_1 (by omega))).trans (offS_upe eσ166_1 (by omega))
        have hoq : offS me L σ72 σ166_1 := ((offS_2 h122_1.2).trans (offS_upe eσ152_1 (by omega))).trans (offS_upe eσ166_1 (by omega))
        refine ih (n - 1) (by omega) (i + 1) (by omega) σ166_1 ?_ (cache_off hc4 hoq hd (by rw [← eσ166_1, b_up_n (by omega), ← eσ152_1, b_up_n (by omega), h122_1.2 (L + 8) (by omega) (by omega)])) hoz
        rw [lisN, if_pos (by rw [← hliM]; exact hli), ← hvτ, ← eσ166_1, vw_ups (f := 1) (K := 6) (by omega) hd, ← eσ152_1, vw_upl (f := 2) (by decide) hi6 hd, hw6, hw4]
        have ecn : σ122_1 (me + 8) i = vw τ me L (50 + 3 * i) := by
          rw [← vw_l2 (σ := σ122_1) (sc := me) (L := L) hi6, hw6, hw4, upd_n (by omega)]
        refine lis_fin (is := 0) his ecn ?_ ?_ rfl
        · rw [← epaid_1, h122_1.1, gvS_off ho4 hd, htt]
        · show b_up σ122_1 (me + 8) i _ me 1 = _
          rw [b_up_n (by omega), ← vw_6 (σ := σ122_1) (sc := me) (L := L), hw6, hw4, upd_n (by omega)]
set_option maxHeartbeats 4000000 in
set_option maxRecDepth 100000 in
theorem c_X6_goBy {w : bw} {σ : bSt} {me L : Nat} {lo : Int32} (hs : sScene w me) (hsL : sLaws w L) (hok : okL σ L) (hca : cacheOK σ L) (hI : IvN (vw σ me L)) (hd : me + 9 ≤ L ∨ L + 9 ≤ me) (hbt : ∃ t, t + 1 < 20000 ∧ σ me 0 = nI t) : MV yX6_goBy cX6_goBy 9 none (rmm 5 127) w [.ref (b_ad w me), .ref (b_ad w L), .int lo] σ (pV (fun σ' => vw σ' me L = btN (gvS σ L) (vw σ me L) (decide (¬ lo = 0)) ∧ cacheOK σ' L ∧ offS me L σ σ')) := by
  refine b_met (ls := [(0, .ref (b_ad w me)), (1, .ref (b_ad w L)), (2, .int lo)]) (by decide) (Nat.le_of_ble_eq_true rfl) rfl (fun x h => ?_)
  obtain ⟨t, ht⟩ : ∃ t, t = tN (vw σ me L) := ⟨_, rfl⟩
  have ht32 : t < 32 := by rw [ht]; exact hI.t.2
  refine v_aload_n h (i := 0) dX6_goBy_0 (q := 1) rfl rfl 0 rfl ?_
  refine v_callV h (As := []) (rest := []) (c_X6_pieceBeat (me := me) (σ := σ) hs ) cal_X6_pieceBeat calV_X6_pieceBeat m439 ⟨rfl, rfl, Nat.le_of_ble_eq_true rfl, Nat.le_of_ble_eq_true rfl⟩ rfl hs.1.1 hs.1.2 ⟨_, _, rfl⟩ rfl (Nat.le_of_ble_eq_true rfl) dX6_goBy_1 (q := 4) rfl (kI ?_)
  rw [show (σ me 0 &&& 31 : Int32) = nI t from (by rw [ht]; exact hI.t.1)]
  refine v_istore_n h (i := 3) (ls1 := [(3, .int (nI t)), (0, .ref (b_ad w me)), (1, .ref (b_ad w L)), (2, .int lo)]) dX6_goBy_4 (q := 5) rfl rfl (Nat.le_of_ble_eq_true rfl) rfl ?_
  refine v_aload_n h (i := 0) dX6_goBy_5 (q := 6) rfl rfl 1 rfl ?_
  refine v_get h (k := 3) (v := .ref (b_ad w (me + 1))) cls6 hs.1.1 hs.1.2 (Nat.le_of_ble_eq_true rfl) m118 rfl dX6_goBy_6 (q := 9) rfl ?_
  refine v_iload_n h (i := 3) dX6_goBy_9 (q := 10) rfl rfl 0 rfl ?_
  refine v_callV h (As := [.int (nI t)]) (rest := []) (c_X0_singers (me := me + 1) (σ := σ) (t := nI t) hs.2.1) cal_X0_singers calV_X0_singers m440 ⟨rfl, rfl, Nat.le_of_ble_eq_true rfl, Nat.le_of_ble_eq_true rfl⟩ rfl hs.2.1.1.1 hs.2.1.1.2 ⟨_, _, rfl⟩ rfl (Nat.le_of_ble_eq_true rfl) dX6_goBy_10 (q := 13) rfl (kI ?_)
  rw [show (sngF σ (me + 1) (nI t) 9 : Int32) = sngN (vw σ me L) 9 from (by rw [ht]; exact sng_vw hI 9 (by omega))]
  refine v_istore h (i := 4) (ls1 := [(4, .int (sngN (vw σ me L) 9)), (3, .int (nI t)), (0, .ref (b_ad w me)), (1, .ref (b_ad w L)), (2, .int lo)]) dX6_goBy_13 (q := 15) rfl (Nat.le_of_ble_eq_true rfl) rfl ?_
  refine v_iload_n h (i := 2) dX6_goBy_15 (q := 16) rfl rfl 4 rfl ?_
  refine v_if_eq h (t := 27) dX6_goBy_16 (by decide) (q := 19) rfl (fun c16 => ?_) (fun c16 => ?_)
  · refine v_iconst h (v := 0) dX6_goBy_27 (q := 28) rfl (by decide) ?_
    refine v_istore h (i := 5) (ls1 := [(5, .int 0), (4, .int (sngN (vw σ me L) 9)), (3, .int (nI t)), (0, .ref (b_ad w me)), (1, .ref (b_ad w L)), (2, .int lo)]) dX6_goBy_28 (q := 30) rfl (Nat.le_of_ble_eq_true rfl) rfl ?_
    exact lX6_goBy_30 hs hsL hok hca hI hd hbt h t (vw σ me L) _ ht hI rfl (by rw [decide_eq_false (fun z => z c16)]; rfl) 6 0 rfl σ rfl hca offS_rfl
  · refine v_aload_n h (i := 0) dX6_goBy_19 (q := 20) rfl rfl 2 rfl ?_
    refine v_iload h (i := 4) dX6_goBy_20 (q := 22) rfl 0 rfl ?_
    refine v_callV h (As := [.int (sngN (vw σ me L) 9)]) (rest := []) (c_X6_leftByFog (me := me) (σ := σ) (heard := sngN (vw σ me L) 9) hs ) cal_X6_leftByFog calV_X6_leftByFog m558 ⟨rfl, rfl, Nat.le_of_ble_eq_true rfl, Nat.le_of_ble_eq_true rfl⟩ rfl hs.1.1 hs.1.2 ⟨_, _, rfl⟩ rfl (Nat.le_of_ble_eq_true rfl) dX6_goBy_22 (q := 25) rfl (kI ?_)
    generalize eσ22 : b_up σ me 2 (fgN (sngN (vw σ me L) 9) (σ me 2) 9).1 = σ22
    refine v_istore h (i := 4) (ls1 := [(4, .int ((fgN (sngN (vw σ me L) 9) (σ me 2) 9).2)), (3, .int (nI t)), (0, .ref (b_ad w me)), (1, .ref (b_ad w L)), (2, .int lo)]) dX6_goBy_25 (q := 27) rfl (Nat.le_of_ble_eq_true rfl) rfl ?_
    refine v_iconst h (v := 0) dX6_goBy_27 (q := 28) rfl (by decide) ?_
    refine v_istore h (i := 5) (ls1 := [(5, .int 0), (4, .int ((fgN (sngN (vw σ me L) 9) (σ me 2) 9).2)), (3, .int (nI t)), (0, .ref (b_ad w me)), (1, .ref (b_ad w L)), (2, .int lo)]) dX6_goBy_28 (q := 30) rfl (Nat.le_of_ble_eq_true rfl) rfl ?_
    exact lX6_goBy_30 hs hsL hok hca hI hd hbt h t (upd (vw σ me L) 11 (fgN (sngN (vw σ me L) 9) (σ me 2) 9).1) _ ht (IvN_upz hI _) (upd_n (by decide)) (by rw [decide_eq_true c16]; rfl) 6 0 rfl σ22 (by rw [← eσ22]; exact vw_ups (f := 2) (K := 11) (by omega) hd) (cache_off hca (by rw [← eσ22]; exact offS_up (by omega)) hd (by rw [← eσ22, b_up_n (by omega)])) (by rw [← eσ22]; exact offS_up (by omega))
