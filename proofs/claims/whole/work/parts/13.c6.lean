def dst (a b : Nat) : Nat := (a - b) + (b - a)
def farN (a b : Nat) : Nat := max (dst (a / 8) (b / 8)) (dst (a % 8) (b % 8))
theorem far_nI0 : ∀ a : Nat, a < 64 → ∀ b : Nat, b < 64 → farC (nI a) (nI b) = nI (farN a b) ∧ farN a b < 8 := by decide +kernel
theorem far_nI {a b : Nat} (ha : a < 64) (hb : b < 64) : farC (nI a) (nI b) = nI (farN a b) := (far_nI0 a ha b hb).1
theorem far_lt {a b : Nat} (ha : a < 64) (hb : b < 64) : farN a b < 8 := (far_nI0 a ha b hb).2
/-- whether all that are heard come with one LAG: the one of the latest, none if two differ -/
def tgR (lagf : Nat → Int32) (heard : Int32) : Nat → Option Int32
  | 0 => some (-1)
  | b + 1 => match tgR lagf heard b with
    | none => none
    | some f => if ushr heard (nI b) &&& 1 = 0 then some f else if 0 ≤ f ∧ ¬ lagf b = f then none else some (lagf b)
theorem tgR_none {lagf : Nat → Int32} {heard : Int32} {b : Nat} (h : tgR lagf heard b = none) : ∀ k, tgR lagf heard (b + k) = none
  | 0 => h
  | k + 1 => by
    show tgR lagf heard ((b + k) + 1) = none
    rw [tgR, tgR_none h k]
def tgP (lagf : Nat → Int32) (heard : Int32) : Prop := (2 : Int32) ≤ bcJ heard ∧ tgR lagf heard 9 ≠ none
/-- by how much later a note of each boat comes, from where `from` says -/
def lagC (σ : bSt) (L me F : Nat) (there speed t : Int32) : Nat → Int32 := fun b => gvS σ L 0 (farC (σ F b) there) speed t + latB σ me (nI b)
theorem latB_eq {σ τ : bSt} {me : Nat} {x : Int32} (h0 : τ me = σ me) (h1 : τ (me + 1) = σ (me + 1)) (h2 : τ (me + 2) = σ (me + 2)) : latB τ me x = latB σ me x := by
  unfold latB hB
  rw [h0, h1, h2]
theorem tg_step0 {lagf : Nat → Int32} {heard f : Int32} {b : Nat} (h : tgR lagf heard b = some f) (c : ushr heard (nI b) &&& 1 = 0) : tgR lagf heard (b + 1) = some f := by
  rw [tgR, h]
  exact if_pos c
theorem tg_step1 {lagf : Nat → Int32} {heard f own : Int32} {b : Nat} (h : tgR lagf heard b = some f) (c : ¬ ushr heard (nI b) &&& 1 = 0) (e : own = lagf b) (c2 : f < 0 ∨ own = f) : tgR lagf heard (b + 1) = some own := by
  rw [tgR, h]
  show (if _ then _ else _) = _
  rw [if_neg c, if_neg, e]
  rintro ⟨h1, h2⟩
  rcases c2 with c2 | c2
  · exact absurd c2 (Int32.not_lt.mpr h1)
  · exact h2 (e ▸ c2)
theorem tg_stepN {lagf : Nat → Int32} {heard f own : Int32} {b : Nat} (h : tgR lagf heard b = some f) (c : ¬ ushr heard (nI b) &&& 1 = 0) (e : own = lagf b) (h1 : ¬ f < 0) (h2 : ¬ own = f) : tgR lagf heard (b + 1) = none := by
  rw [tgR, h]
  show (if _ then _ else _) = _
  rw [if_neg c, if_pos ⟨Int32.not_lt.mp h1, fun z => h2 (e.trans z)⟩]

set_option maxHeartbeats 4000000 in
set_option maxRecDepth 100000 in
theorem c_X0_copy {w : bw} {σ : bSt} {me o : Nat} (hs : sBoats w me) (ht : sBoats w o) (hd : me + 5 ≤ o ∨ o + 5 ≤ me) : MV yX0_copy cX0_copy 2 none (rmm 1 40) w [.ref (b_ad w me), .ref (b_ad w o)] σ (pU (blk σ me o 5)) := by
  refine b_met (ls := [(0, .ref (b_ad w me)), (1, .ref (b_ad w o))]) (by decide) (Nat.le_of_ble_eq_true rfl) rfl (fun x h => ?_)
  refine v_aload_n h (i := 0) dX0_copy_0 (q := 1) rfl rfl 0 rfl ?_
  refine v_aload_n h (i := 1) dX0_copy_1 (q := 2) rfl rfl 1 rfl ?_
  refine v_get h (k := 0) (v := .int (σ o 0)) cls0 ht.1.1 ht.1.2 (Nat.le_of_ble_eq_true rfl) m87 rfl dX0_copy_2 (q := 5) rfl ?_
  refine v_put h (k := 0) cls0 hs.1.1 hs.1.2 (Nat.le_of_ble_eq_true rfl) rfl m87 rfl ⟨rfl, rfl⟩ dX0_copy_5 (q := 8) rfl ?_
  refine v_aload_n h (i := 1) dX0_copy_8 (q := 9) rfl rfl 1 rfl ?_
  refine v_get h (k := 1) (v := .ref (b_ad w (o + 1))) cls0 ht.1.1 ht.1.2 (Nat.le_of_ble_eq_true rfl) m90 rfl dX0_copy_9 (q := 12) rfl ?_
  refine v_iconst h (v := 0) dX0_copy_12 (q := 13) rfl (by decide) ?_
  refine v_aload_n h (i := 0) dX0_copy_13 (q := 14) rfl rfl 0 rfl ?_
  refine v_get h (k := 1) (v := .ref (b_ad w (me + 1))) cls0 hs.1.1 hs.1.2 (Nat.le_of_ble_eq_true rfl) m90 rfl dX0_copy_14 (q := 17) rfl ?_
  refine v_iconst h (v := 0) dX0_copy_17 (q := 18) rfl (by decide) ?_
  refine v_bipush h (v := 9) dX0_copy_18 (q := 20) rfl (by decide) ?_
  refine v_acopyF h ht.2.1 hs.2.1 m604 m482 m481 m15 rfl rfl (by decide) rfl ⟨Nat.le_of_ble_eq_true rfl, Nat.le_of_ble_eq_true rfl⟩ dX0_copy_20 (q := 23) rfl ?_
  refine v_aload_n h (i := 1) dX0_copy_23 (q := 24) rfl rfl 1 rfl ?_
  refine v_get h (k := 2) (v := .ref (b_ad w (o + 2))) cls0 ht.1.1 ht.1.2 (Nat.le_of_ble_eq_true rfl) m92 rfl dX0_copy_24 (q := 27) rfl ?_
  refine v_iconst h (v := 0) dX0_copy_27 (q := 28) rfl (by decide) ?_
  refine v_aload_n h (i := 0) dX0_copy_28 (q := 29) rfl rfl 0 rfl ?_
  refine v_get h (k := 2) (v := .ref (b_ad w (me + 2))) cls0 hs.1.1 hs.1.2 (Nat.le_of_ble_eq_true rfl) m92 rfl dX0_copy_29 (q := 32) rfl ?_
  refine v_iconst h (v := 0) dX0_copy_32 (q := 33) rfl (by decide) ?_
  refine v_bipush h (v := 9) dX0_copy_33 (q := 35) rfl (by decide) ?_
  refine v_acopyF h ht.2.2.1 hs.2.2.1 m604 m482 m481 m15 rfl rfl (by decide) rfl ⟨Nat.le_of_ble_eq_true rfl, Nat.le_of_ble_eq_true rfl⟩ dX0_copy_35 (q := 38) rfl ?_
  refine v_aload_n h (i := 1) dX0_copy_38 (q := 39) rfl rfl 1 rfl ?_
  refine v_get h (k := 3) (v := .ref (b_ad w (o + 3))) cls0 ht.1.1 ht.1.2 (Nat.le_of_ble_eq_true rfl) m94 rfl dX0_copy_39 (q := 42) rfl ?_
  refine v_iconst h (v := 0) dX0_copy_42 (q := 43) rfl (by decide) ?_
  refine v_aload_n h (i := 0) dX0_copy_43 (q := 44) rfl rfl 0 rfl ?_
  refine v_get h (k := 3) (v := .ref (b_ad w (me + 3))) cls0 hs.1.1 hs.1.2 (Nat.le_of_ble_eq_true rfl) m94 rfl dX0_copy_44 (q := 47) rfl ?_
  refine v_iconst h (v := 0) dX0_copy_47 (q := 48) rfl (by decide) ?_
  refine v_bipush h (v := 9) dX0_copy_48 (q := 50) rfl (by decide) ?_
  refine v_acopyF h ht.2.2.2.1 hs.2.2.2.1 m604 m482 m481 m15 rfl rfl (by decide) rfl ⟨Nat.le_of_ble_eq_true rfl, Nat.le_of_ble_eq_true rfl⟩ dX0_copy_50 (q := 53) rfl ?_
  refine v_aload_n h (i := 1) dX0_copy_53 (q := 54) rfl rfl 1 rfl ?_
  refine v_get h (k := 4) (v := .ref (b_ad w (o + 4))) cls0 ht.1.1 ht.1.2 (Nat.le_of_ble_eq_true rfl) m98 rfl dX0_copy_54 (q := 57) rfl ?_
  refine v_iconst h (v := 0) dX0_copy_57 (q := 58) rfl (by decide) ?_
  refine v_aload_n h (i := 0) dX0_copy_58 (q := 59) rfl rfl 0 rfl ?_
  refine v_get h (k := 4) (v := .ref (b_ad w (me + 4))) cls0 hs.1.1 hs.1.2 (Nat.le_of_ble_eq_true rfl) m98 rfl dX0_copy_59 (q := 62) rfl ?_
  refine v_iconst h (v := 0) dX0_copy_62 (q := 63) rfl (by decide) ?_
  refine v_bipush h (v := 9) dX0_copy_63 (q := 65) rfl (by decide) ?_
  refine v_acopyF h ht.2.2.2.2 hs.2.2.2.2 m604 m482 m481 m15 rfl rfl (by decide) rfl ⟨Nat.le_of_ble_eq_true rfl, Nat.le_of_ble_eq_true rfl⟩ dX0_copy_65 (q := 68) rfl ?_
  refine v_conv (σ2 := blk σ me o 5) (bEq_o (j0 := me) (fun j hj => by
    by_cases e4 : j = me + 4
    · subst e4
      rw [b_set_s, b_set_n (by omega), b_set_n (by omega), b_set_n (by omega), b_up_n (by omega), blk_at (by omega)]
    · rw [b_set_n e4]
      by_cases e3 : j = me + 3
      · subst e3
        rw [b_set_s, b_set_n (by omega), b_set_n (by omega), b_up_n (by omega), blk_at (by omega)]
      · rw [b_set_n e3]
        by_cases e2 : j = me + 2
        · subst e2
          rw [b_set_s, b_set_n (by omega), b_up_n (by omega), blk_at (by omega)]
        · rw [b_set_n e2]
          by_cases e1 : j = me + 1
          · subst e1
            rw [b_set_s, b_up_n (by omega), blk_at (by omega)]
          · rw [b_set_n e1, b_up_n hj, blk_out (by omega)]) hs.1 (fun k hk hr => by
    rw [rB_n hk hr, b_set_n (by omega), b_set_n (by omega), b_set_n (by omega), b_set_n (by omega), b_up_s, blk_0 (by omega)]
    exact upd_s)) ?_
  exact v_vret h dX0_copy_68 ⟨rfl, rfl⟩

set_option maxHeartbeats 4000000 in
set_option maxRecDepth 100000 in
theorem c_X0_launch {w : bw} {σ : bSt} {me b : Nat} {km c : Int32} (hs : sBoats w me) (hb : σ me 0 = nI b) (hb9 : b < 9) : MV yX0_launch cX0_launch 4 (some .int) (rmm 0 0) w [.ref (b_ad w me), .int km, .int c] σ (pI (nI b) (b_up (b_up (b_up (b_up (b_up σ (me + 1) b (km / 10)) (me + 2) b (irm km 10)) (me + 3) b c) (me + 4) b 0) me 0 (nI (b + 1)))) := by
  refine b_met (ls := [(0, .ref (b_ad w me)), (1, .int km), (2, .int c)]) (by decide) (Nat.le_of_ble_eq_true rfl) rfl (fun x h => ?_)
  refine v_aload_n h (i := 0) dX0_launch_0 (q := 1) rfl rfl 0 rfl ?_
  refine v_get h (k := 0) (v := .int (σ me 0)) cls0 hs.1.1 hs.1.2 (Nat.le_of_ble_eq_true rfl) m87 rfl dX0_launch_1 (q := 4) rfl ?_
  rw [show (σ me 0 : Int32) = nI b from hb]
  refine v_istore_n h (i := 3) (ls1 := [(3, .int (nI b)), (0, .ref (b_ad w me)), (1, .int km), (2, .int c)]) dX0_launch_4 (q := 5) rfl rfl (Nat.le_of_ble_eq_true rfl) rfl ?_
  refine v_iload_n h (i := 3) dX0_launch_5 (q := 6) rfl rfl 0 rfl ?_
  refine v_if_lt h (t := 15) dX0_launch_6 (by decide) (q := 9) rfl (fun c6 => absurd c6 (nI_pos (by omega))) (fun c6 => ?_)
  refine v_iload_n h (i := 3) dX0_launch_9 (q := 10) rfl rfl 0 rfl ?_
  refine v_bipush h (v := 9) dX0_launch_10 (q := 12) rfl (by decide) ?_
  refine v_icmp_lt h (t := 17) dX0_launch_12 (by decide) (q := 15) rfl (fun c12 => ?_) (fun c12 => absurd (nltl (k := 9) rfl hb9 (by decide)) c12)
  refine v_aload_n h (i := 0) dX0_launch_17 (q := 18) rfl rfl 1 rfl ?_
  refine v_get h (k := 1) (v := .ref (b_ad w (me + 1))) cls0 hs.1.1 hs.1.2 (Nat.le_of_ble_eq_true rfl) m90 rfl dX0_launch_18 (q := 21) rfl ?_
  refine v_iload_n h (i := 3) dX0_launch_21 (q := 22) rfl rfl 0 rfl ?_
  refine v_iload_n h (i := 1) dX0_launch_22 (q := 23) rfl rfl 2 rfl ?_
  refine v_bipush h (v := 10) dX0_launch_23 (q := 25) rfl (by decide) ?_
  refine v_idiv h dX0_launch_25 (q := 26) rfl (by decide) ?_
  refine v_iast h (k := b) hs.2.1.1 hs.2.1.2 (vp_in_nI (by omega) (by omega)) (nI_clamp (by omega)) dX0_launch_26 (q := 27) rfl ?_
  refine v_aload_n h (i := 0) dX0_launch_27 (q := 28) rfl rfl 1 rfl ?_
  refine v_get h (k := 2) (v := .ref (b_ad w (me + 2))) cls0 hs.1.1 hs.1.2 (Nat.le_of_ble_eq_true rfl) m92 rfl dX0_launch_28 (q := 31) rfl ?_
  refine v_iload_n h (i := 3) dX0_launch_31 (q := 32) rfl rfl 0 rfl ?_
  refine v_iload_n h (i := 1) dX0_launch_32 (q := 33) rfl rfl 2 rfl ?_
  refine v_bipush h (v := 10) dX0_launch_33 (q := 35) rfl (by decide) ?_
  refine v_irem h dX0_launch_35 (q := 36) rfl (by decide) ?_
  refine v_iast h (k := b) hs.2.2.1.1 hs.2.2.1.2 (vp_in_nI (by omega) (by omega)) (nI_clamp (by omega)) dX0_launch_36 (q := 37) rfl ?_
  refine v_aload_n h (i := 0) dX0_launch_37 (q := 38) rfl rfl 1 rfl ?_
  refine v_get h (k := 3) (v := .ref (b_ad w (me + 3))) cls0 hs.1.1 hs.1.2 (Nat.le_of_ble_eq_true rfl) m94 rfl dX0_launch_38 (q := 41) rfl ?_
  refine v_iload_n h (i := 3) dX0_launch_41 (q := 42) rfl rfl 0 rfl ?_
  refine v_iload_n h (i := 2) dX0_launch_42 (q := 43) rfl rfl 3 rfl ?_
  refine v_iast h (k := b) hs.2.2.2.1.1 hs.2.2.2.1.2 (vp_in_nI (by omega) (by omega)) (nI_clamp (by omega)) dX0_launch_43 (q := 44) rfl ?_
  refine v_aload_n h (i := 0) dX0_launch_44 (q := 45) rfl rfl 1 rfl ?_
  refine v_get h (k := 4) (v := .ref (b_ad w (me + 4))) cls0 hs.1.1 hs.1.2 (Nat.le_of_ble_eq_true rfl) m98 rfl dX0_launch_45 (q := 48) rfl ?_
  refine v_iload_n h (i := 3) dX0_launch_48 (q := 49) rfl rfl 0 rfl ?_
  refine v_iconst h (v := 0) dX0_launch_49 (q := 50) rfl (by decide) ?_
  refine v_iast h (k := b) hs.2.2.2.2.1 hs.2.2.2.2.2 (vp_in_nI (by omega) (by omega)) (nI_clamp (by omega)) dX0_launch_50 (q := 51) rfl ?_
  refine v_aload_n h (i := 0) dX0_launch_51 (q := 52) rfl rfl 1 rfl ?_
  refine v_dup h dX0_launch_52 (q := 53) rfl rfl ?_
  refine v_get h (k := 0) (v := .int ((b_up (b_up (b_up (b_up σ (me + 1) b (km / 10)) (me + 2) b (km - km / 10 * 10)) (me + 3) b c) (me + 4) b 0) me 0)) cls0 hs.1.1 hs.1.2 (Nat.le_of_ble_eq_true rfl) m87 rfl dX0_launch_53 (q := 56) rfl ?_
  rw [show ((b_up (b_up (b_up (b_up σ (me + 1) b (km / 10)) (me + 2) b (km - km / 10 * 10)) (me + 3) b c) (me + 4) b 0) me 0 : Int32) = nI b from (by rw [b_up_n (by omega), b_up_n (by omega), b_up_n (by omega), b_up_n (by omega)]; exact hb)]
  refine v_iconst h (v := 1) dX0_launch_56 (q := 57) rfl (by decide) ?_
  refine v_iadd h dX0_launch_57 (q := 58) rfl ?_
  rw [show ((nI b) + 1 : Int32) = nI (b + 1) from (nI_1 b)]
  refine v_put h (k := 0) cls0 hs.1.1 hs.1.2 (Nat.le_of_ble_eq_true rfl) rfl m87 rfl ⟨rfl, rfl⟩ dX0_launch_58 (q := 61) rfl ?_
  refine v_iload_n h (i := 3) dX0_launch_61 (q := 62) rfl rfl 0 rfl ?_
  exact v_iret h dX0_launch_62 ⟨rfl, rfl⟩

set_option maxHeartbeats 4000000 in
set_option maxRecDepth 100000 in
theorem lX0_together_17 {w : bw} {σ : bSt} {me L F y tn vn : Nat} {heard : Int32} (hs : sBoats w me) (hsL : sLaws w L) (hsF : sI w F 9) (hok : okL σ L) (hca : cacheOK σ L) (h1 : 1 ≤ vn) (h2 : vn ≤ 9) (h3 : tn < 32) (hy : y < 64) (hcl : ∀ b, b < 9 → ∃ c, c < 64 ∧ σ F b = nI c) (hdm : me + 5 ≤ L ∨ L + 9 ≤ me) (hdF : F ≠ L + 4 ∧ F ≠ L + 7 ∧ F ≠ L + 8) {x : bX} (h : Cx x w cX0_together RX0 10 (some .boolean) (rmm 4 98)) : (2 : Int32) ≤ bcJ heard → ∀ n b : Nat, b + n = 9 → ∀ (f : Int32) (τ : bSt), scr L σ τ → cacheOK τ L → tgR (lagC σ L me F (nI y) (nI vn) (nI tn)) heard b = some f → V x w 10 (pZ (tgP (lagC σ L me F (nI y) (nI vn) (nI tn)) heard) (fun σ' => scr L σ σ' ∧ cacheOK σ' L)) 17 [(8, .int (nI b)), (7, .int f), (0, .ref (b_ad w me)), (1, .ref (b_ad w L)), (2, .ref (b_ad w F)), (3, .int (nI y)), (4, .int (nI tn)), (5, .int (nI vn)), (6, .int heard)] [] τ := by
  intro hbc
  refine b_ind (fun n ih => ?_)
  intro b hbn f τ hsc hct htg
  refine v_iload h (i := 8) dX0_together_17 (q := 19) rfl 0 rfl ?_
  refine v_bipush h (v := 9) dX0_together_19 (q := 21) rfl (by decide) ?_
  refine v_icmp_ge h (t := 93) dX0_together_21 (by decide) (q := 24) rfl (fun c21 => ?_) (fun c21 => ?_)
  · refine v_iconst h (v := 1) dX0_together_93 (q := 94) rfl (by decide) ?_
    exact v_zret h rfl dX0_together_94 (pZ1 ⟨hsc, hct⟩ ⟨hbc, by have := nge (k := 9) rfl (by omega) c21; rw [show (9 : Nat) = b by omega, htg]; exact fun z => nomatch z⟩)
  · have hb9 : b < 9 := nlt rfl (by omega) c21
    refine v_iload h (i := 8) dX0_together_24 (q := 26) rfl 0 rfl ?_
    refine v_aload_n h (i := 2) dX0_together_26 (q := 27) rfl rfl 4 rfl ?_
    refine v_aleni h (v := 9) hsF.1 hsF.2 rfl dX0_together_27 (q := 28) rfl ?_
    refine v_icmp_ge h (t := 93) dX0_together_28 (by decide) (q := 31) rfl (fun c28 => absurd c28 (nnle (k := 9) rfl hb9 (by decide))) (fun c28 => ?_)
    refine v_iload h (i := 6) dX0_together_31 (q := 33) rfl 8 rfl ?_
    refine v_iload h (i := 8) dX0_together_33 (q := 35) rfl 0 rfl ?_
    refine v_iushr h (v := ushr heard (nI b)) dX0_together_35 (q := 36) rfl rfl ?_
    refine v_iconst h (v := 1) dX0_together_36 (q := 37) rfl (by decide) ?_
    refine v_iand h dX0_together_37 (q := 38) rfl ?_
    refine v_if_ne h (t := 44) dX0_together_38 (by decide) (q := 41) rfl (fun c38 => ?_) (fun c38 => ?_)
    · obtain ⟨cb, hcb, ecb⟩ := hcl b hb9
      refine v_aload_n h (i := 1) dX0_together_44 (q := 45) rfl rfl 3 rfl ?_
      refine v_aload_n h (i := 2) dX0_together_45 (q := 46) rfl rfl 4 rfl ?_
      refine v_iload h (i := 8) dX0_together_46 (q := 48) rfl 0 rfl ?_
      refine v_iald h (k := b) hsF.1 hsF.2 (vp_in_nI (by omega) (by omega)) (nI_clamp (by omega)) dX0_together_48 (q := 49) rfl ?_
      refine v_iload_n h (i := 3) dX0_together_49 (q := 50) rfl rfl 5 rfl ?_
      refine v_callSN h (As := [.int (τ F b), .int (nI y)]) (rest := [.ref (b_ad w L)]) (c_X9_far (a := τ F b) (b := nI y)) cal_X9_far m380 m455 ⟨rfl, rfl, Nat.le_of_ble_eq_true rfl, Nat.le_of_ble_eq_true rfl⟩ rfl rfl (Nat.le_of_ble_eq_true rfl) dX0_together_50 (q := 53) rfl (kI ?_)
      rw [show (farC (τ F b) (nI y) : Int32) = nI (farN cb y) from (by rw [hsc F hdF.1 hdF.2.1 hdF.2.2, ecb]; exact far_nI hcb hy)]
      refine v_iload h (i := 5) dX0_together_53 (q := 55) rfl 7 rfl ?_
      refine v_iload h (i := 4) dX0_together_55 (q := 57) rfl 6 rfl ?_
      refine v_callV h (As := [.int (nI (farN cb y)), .int (nI vn), .int (nI tn)]) (rest := []) (c_X3_lagBy (me := L) (vn := vn) (tn := tn) (d := farN cb y) (σ := τ) hsL (okL_scr hsc hok) hct h1 h2 h3 (far_lt hcb hy)) cal_X3_lagBy calV_X3_lagBy m456 ⟨rfl, rfl, Nat.le_of_ble_eq_true rfl, Nat.le_of_ble_eq_true rfl⟩ rfl hsL.1.1 hsL.1.2 ⟨_, _, rfl⟩ rfl (Nat.le_of_ble_eq_true rfl) dX0_together_57 (q := 60) rfl (kR (fun r57 σ57 h57 => ?_))
      refine v_aload_n h (i := 0) dX0_together_60 (q := 61) rfl rfl 2 rfl ?_
      refine v_iload h (i := 8) dX0_together_61 (q := 63) rfl 0 rfl ?_
      refine v_callV h (As := [.int (nI b)]) (rest := [.int r57]) (c_X0_later (me := me) (σ := σ57) (b := nI b) hs) cal_X0_later calV_X0_later m457 ⟨rfl, rfl, Nat.le_of_ble_eq_true rfl, Nat.le_of_ble_eq_true rfl⟩ rfl hs.1.1 hs.1.2 ⟨_, _, rfl⟩ rfl (Nat.le_of_ble_eq_true rfl) dX0_together_63 (q := 66) rfl (kI ?_)
      refine v_iadd h dX0_together_66 (q := 67) rfl ?_
      refine v_istore h (i := 9) (ls1 := [(9, .int (r57 + (latB σ57 me (nI b)))), (8, .int (nI b)), (7, .int f), (0, .ref (b_ad w me)), (1, .ref (b_ad w L)), (2, .ref (b_ad w F)), (3, .int (nI y)), (4, .int (nI tn)), (5, .int (nI vn)), (6, .int heard)]) dX0_together_67 (q := 69) rfl (Nat.le_of_ble_eq_true rfl) rfl ?_
      generalize eown : r57 + (latB σ57 me (nI b)) = own
      have hsc57 := hsc.trans h57.2.1
      have eo : own = (lagC σ L me F (nI y) (nI vn) (nI tn)) b := by
        rw [← eown, h57.1, gvS_scr hsc, latB_eq (σ := σ) (hsc57 me (by omega) (by omega) (by omega)) (hsc57 (me + 1) (by omega) (by omega) (by omega)) (hsc57 (me + 2) (by omega) (by omega) (by omega)), ← far_nI hcb hy, ← ecb]
        rfl
      refine v_iload h (i := 7) dX0_together_69 (q := 71) rfl 2 rfl ?_
      refine v_if_lt h (t := 83) dX0_together_71 (by decide) (q := 74) rfl (fun c71 => ?_) (fun c71 => ?_)
      · refine v_iload h (i := 9) dX0_together_83 (q := 85) rfl 0 rfl ?_
        refine v_istore h (i := 7) (ls1 := [(7, .int own), (9, .int own), (8, .int (nI b)), (0, .ref (b_ad w me)), (1, .ref (b_ad w L)), (2, .ref (b_ad w F)), (3, .int (nI y)), (4, .int (nI tn)), (5, .int (nI vn)), (6, .int heard)]) dX0_together_85 (q := 87) rfl (Nat.le_of_ble_eq_true rfl) rfl ?_
        refine v_iinc h (p := 2) (u := nI (b + 1)) (ls1 := [(8, .int (nI (b + 1))), (7, .int own), (9, .int own), (0, .ref (b_ad w me)), (1, .ref (b_ad w L)), (2, .ref (b_ad w F)), (3, .int (nI y)), (4, .int (nI tn)), (5, .int (nI vn)), (6, .int heard)]) dX0_together_87 (q := 90) rfl rfl (nI_1 b) (Nat.le_of_ble_eq_true rfl) rfl ?_
        refine v_goto h (t := 17) dX0_together_90 (by decide) ?_
        refine v_ls [0, 1, 3, 4, 5, 6, 7, 8, 9] (ls2 := [(8, .int (nI (b + 1))), (7, .int own), (0, .ref (b_ad w me)), (1, .ref (b_ad w L)), (2, .ref (b_ad w F)), (3, .int (nI y)), (4, .int (nI tn)), (5, .int (nI vn)), (6, .int heard)]) rfl ?_
        exact ih (n - 1) (by omega) (b + 1) (by omega) own σ57 hsc57 h57.2.2 (tg_step1 htg c38 eo (by first | exact Or.inl c71 | exact Or.inr c78))
      · refine v_iload h (i := 9) dX0_together_74 (q := 76) rfl 0 rfl ?_
        refine v_iload h (i := 7) dX0_together_76 (q := 78) rfl 2 rfl ?_
        refine v_icmp_eq h (t := 83) dX0_together_78 (by decide) (q := 81) rfl (fun c78 => ?_) (fun c78 => ?_)
        · refine v_iload h (i := 9) dX0_together_83 (q := 85) rfl 0 rfl ?_
          refine v_istore h (i := 7) (ls1 := [(7, .int own), (9, .int own), (8, .int (nI b)), (0, .ref (b_ad w me)), (1, .ref (b_ad w L)), (2, .ref (b_ad w F)), (3, .int (nI y)), (4, .int (nI tn)), (5, .int (nI vn)), (6, .int heard)]) dX0_together_85 (q := 87) rfl (Nat.le_of_ble_eq_true rfl) rfl ?_
          refine v_iinc h (p := 2) (u := nI (b + 1)) (ls1 := [(8, .int (nI (b + 1))), (7, .int own), (9, .int own), (0, .ref (b_ad w me)), (1, .ref (b_ad w L)), (2, .ref (b_ad w F)), (3, .int (nI y)), (4, .int (nI tn)), (5, .int (nI vn)), (6, .int heard)]) dX0_together_87 (q := 90) rfl rfl (nI_1 b) (Nat.le_of_ble_eq_true rfl) rfl ?_
          refine v_goto h (t := 17) dX0_together_90 (by decide) ?_
          refine v_ls [0, 1, 3, 4, 5, 6, 7, 8, 9] (ls2 := [(8, .int (nI (b + 1))), (7, .int own), (0, .ref (b_ad w me)), (1, .ref (b_ad w L)), (2, .ref (b_ad w F)), (3, .int (nI y)), (4, .int (nI tn)), (5, .int (nI vn)), (6, .int heard)]) rfl ?_
          exact ih (n - 1) (by omega) (b + 1) (by omega) own σ57 hsc57 h57.2.2 (tg_step1 htg c38 eo (by first | exact Or.inl c71 | exact Or.inr c78))
        · refine v_iconst h (v := 0) dX0_together_81 (q := 82) rfl (by decide) ?_
          exact v_zret h rfl dX0_together_82 (pZ0 ⟨hsc57, h57.2.2⟩ (fun z => z.2 (by have hn := tgR_none (tg_stepN htg c38 eo c71 c78) (8 - b); rw [show b + 1 + (8 - b) = 9 by omega] at hn; exact hn)))
    · refine v_goto h (t := 87) dX0_together_41 (by decide) ?_
      refine v_iinc h (p := 0) (u := nI (b + 1)) (ls1 := [(8, .int (nI (b + 1))), (7, .int f), (0, .ref (b_ad w me)), (1, .ref (b_ad w L)), (2, .ref (b_ad w F)), (3, .int (nI y)), (4, .int (nI tn)), (5, .int (nI vn)), (6, .int heard)]) dX0_together_87 (q := 90) rfl rfl (nI_1 b) (Nat.le_of_ble_eq_true rfl) rfl ?_
      refine v_goto h (t := 17) dX0_together_90 (by decide) ?_
      exact ih (n - 1) (by omega) (b + 1) (by omega) f τ hsc hct (tg_step0 htg c38)
set_option maxHeartbeats 4000000 in
set_option maxRecDepth 100000 in
theorem c_X0_together {w : bw} {σ : bSt} {me L F y tn vn : Nat} {heard : Int32} (hs : sBoats w me) (hsL : sLaws w L) (hsF : sI w F 9) (hok : okL σ L) (hca : cacheOK σ L) (h1 : 1 ≤ vn) (h2 : vn ≤ 9) (h3 : tn < 32) (hy : y < 64) (hcl : ∀ b, b < 9 → ∃ c, c < 64 ∧ σ F b = nI c) (hdm : me + 5 ≤ L ∨ L + 9 ≤ me) (hdF : F ≠ L + 4 ∧ F ≠ L + 7 ∧ F ≠ L + 8) : MV yX0_together cX0_together 10 (some .boolean) (rmm 4 98) w [.ref (b_ad w me), .ref (b_ad w L), .ref (b_ad w F), .int (nI y), .int (nI tn), .int (nI vn), .int heard] σ (pZ (tgP (lagC σ L me F (nI y) (nI vn) (nI tn)) heard) (fun σ' => scr L σ σ' ∧ cacheOK σ' L)) := by
  refine b_met (ls := [(0, .ref (b_ad w me)), (1, .ref (b_ad w L)), (2, .ref (b_ad w F)), (3, .int (nI y)), (4, .int (nI tn)), (5, .int (nI vn)), (6, .int heard)]) (by decide) (Nat.le_of_ble_eq_true rfl) rfl (fun x h => ?_)
  refine v_iload h (i := 6) dX0_together_0 (q := 2) rfl 6 rfl ?_
  refine v_callS h (As := [.int heard]) (rest := []) (c_J6_bitCount_0f7a4 (v := heard)) cal_J6_bitCount_0f7a4 m450 m449 ⟨rfl, rfl, Nat.le_of_ble_eq_true rfl, Nat.le_of_ble_eq_true rfl⟩ rfl rfl (Nat.le_of_ble_eq_true rfl) dX0_together_2 (q := 5) rfl (kI ?_)
  refine v_iconst h (v := 2) dX0_together_5 (q := 6) rfl (by decide) ?_
  refine v_icmp_ge h (t := 11) dX0_together_6 (by decide) (q := 9) rfl (fun c6 => ?_) (fun c6 => ?_)
  · refine v_iconst h (v := -1) dX0_together_11 (q := 12) rfl (by decide) ?_
    refine v_istore h (i := 7) (ls1 := [(7, .int (-1)), (0, .ref (b_ad w me)), (1, .ref (b_ad w L)), (2, .ref (b_ad w F)), (3, .int (nI y)), (4, .int (nI tn)), (5, .int (nI vn)), (6, .int heard)]) dX0_together_12 (q := 14) rfl (Nat.le_of_ble_eq_true rfl) rfl ?_
    refine v_iconst h (v := 0) dX0_together_14 (q := 15) rfl (by decide) ?_
    refine v_istore h (i := 8) (ls1 := [(8, .int 0), (7, .int (-1)), (0, .ref (b_ad w me)), (1, .ref (b_ad w L)), (2, .ref (b_ad w F)), (3, .int (nI y)), (4, .int (nI tn)), (5, .int (nI vn)), (6, .int heard)]) dX0_together_15 (q := 17) rfl (Nat.le_of_ble_eq_true rfl) rfl ?_
    exact lX0_together_17 hs hsL hsF hok hca h1 h2 h3 hy hcl hdm hdF h c6 9 0 rfl (-1) σ scr_rfl hca rfl
  · refine v_iconst h (v := 0) dX0_together_9 (q := 10) rfl (by decide) ?_
    exact v_zret h rfl dX0_together_10 (pZ0 ⟨scr_rfl, hca⟩ (fun z => c6 z.1))

set_option maxHeartbeats 4000000 in
set_option maxRecDepth 100000 in
theorem c_X3_adopt {w : bw} {σ : bSt} {me o : Nat} {use : Int32} (hs : sLaws w me) (ht : sFormula w o) (hd : o + 3 ≤ me ∨ me + 9 ≤ o) : MV yX3_adopt cX3_adopt 3 none (rmm 2 61) w [.ref (b_ad w me), .int use, .ref (b_ad w o)] σ (pU (if use = 0 then b_set (blk σ (me + 2) o 2) (me + 8) (fun _ => -1) else blk σ (me + 5) o 2)) := by
  refine b_met (ls := [(0, .ref (b_ad w me)), (1, .int use), (2, .ref (b_ad w o))]) (by decide) (Nat.le_of_ble_eq_true rfl) rfl (fun x h => ?_)
  refine v_iload_n h (i := 1) dX3_adopt_0 (q := 1) rfl rfl 1 rfl ?_
  refine v_if_ne h (t := 23) dX3_adopt_1 (by decide) (q := 4) rfl (fun c1 => ?_) (fun c1 => ?_)
  · refine v_aload_n h (i := 0) dX3_adopt_23 (q := 24) rfl rfl 0 rfl ?_
    refine v_get h (k := 3) (v := .ref (b_ad w (me + 5))) cls3 hs.1.1 hs.1.2 (Nat.le_of_ble_eq_true rfl) m62 rfl dX3_adopt_24 (q := 27) rfl ?_
    refine v_aload_n h (i := 2) dX3_adopt_27 (q := 28) rfl rfl 2 rfl ?_
    refine v_callV h (As := [.ref (b_ad w o)]) (rest := []) (c_X2_copy (me := me + 5) (o := o) (σ := σ) hs.2.2.2.1 ht (by omega)) cal_X2_copy calV_X2_copy m536 ⟨rfl, rfl, Nat.le_of_ble_eq_true rfl, Nat.le_of_ble_eq_true rfl⟩ rfl hs.2.2.2.1.1.1 hs.2.2.2.1.1.2 ⟨_, _, rfl⟩ rfl (Nat.le_of_ble_eq_true rfl) dX3_adopt_28 (q := 31) rfl (kU ?_)
    exact v_vret h dX3_adopt_31 ⟨rfl, by simp [*]⟩
  · refine v_aload_n h (i := 0) dX3_adopt_4 (q := 5) rfl rfl 0 rfl ?_
    refine v_get h (k := 2) (v := .ref (b_ad w (me + 2))) cls3 hs.1.1 hs.1.2 (Nat.le_of_ble_eq_true rfl) m61 rfl dX3_adopt_5 (q := 8) rfl ?_
    refine v_aload_n h (i := 2) dX3_adopt_8 (q := 9) rfl rfl 2 rfl ?_
    refine v_callV h (As := [.ref (b_ad w o)]) (rest := []) (c_X2_copy (me := me + 2) (o := o) (σ := σ) hs.2.2.1 ht (by omega)) cal_X2_copy calV_X2_copy m536 ⟨rfl, rfl, Nat.le_of_ble_eq_true rfl, Nat.le_of_ble_eq_true rfl⟩ rfl hs.2.2.1.1.1 hs.2.2.1.1.2 ⟨_, _, rfl⟩ rfl (Nat.le_of_ble_eq_true rfl) dX3_adopt_9 (q := 12) rfl (kU ?_)
    refine v_aload_n h (i := 0) dX3_adopt_12 (q := 13) rfl rfl 0 rfl ?_
    refine v_get h (k := 4) (v := .ref (b_ad w (me + 8))) cls3 hs.1.1 hs.1.2 (Nat.le_of_ble_eq_true rfl) m63 rfl dX3_adopt_13 (q := 16) rfl ?_
    refine v_iconst h (v := -1) dX3_adopt_16 (q := 17) rfl (by decide) ?_
    refine v_callS h (As := [.ref (b_ad w (me + 8)), .int (-1)]) (rest := []) (c_J7_fill_53178 (j := me + 8) (n0 := 2304) (v := -1) (σ := blk σ (me + 2) o 2) hs.2.2.2.2 (by decide)) cal_J7_fill_53178 m54 m53 ⟨rfl, rfl, Nat.le_of_ble_eq_true rfl, Nat.le_of_ble_eq_true rfl⟩ rfl rfl (Nat.le_of_ble_eq_true rfl) dX3_adopt_17 (q := 20) rfl (kU ?_)
    refine v_goto h (t := 31) dX3_adopt_20 (by decide) ?_
    exact v_vret h dX3_adopt_31 ⟨rfl, by simp [*]⟩
