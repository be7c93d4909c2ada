def tkF (word : Int64) (k : Nat) : Int32 := (ushrL word (nI (8 * k))).toInt32 &&& 255
def tpF (tape : Nat → Int32) (f : Nat) (word : Int64) : Nat → Nat → Int32
  | 0 => tape
  | k + 1 => upd (tpF tape f word k) (f + k) (tkF word k)
def dtk (σ : bSt) (me f : Nat) (word : Int64) (k : Nat) : bSt := b_up (b_set σ (me + 1) (tpF (σ (me + 1)) f word k)) me 1 (nI (f + k))
theorem b_set_same {σ : bSt} {j : Nat} : b_set σ j (σ j) = σ := by
  funext a
  unfold b_set
  by_cases e : a = j
  · rw [if_pos e, e]
  · rw [if_neg e]
theorem dtk_0 {σ : bSt} {me f : Nat} {word : Int64} (h : σ me 1 = nI f) : σ = dtk σ me f word 0 := by
  unfold dtk
  rw [show tpF (σ (me + 1)) f word 0 = σ (me + 1) from rfl, b_set_same]
  exact b_up_same h.symm
theorem dtk_s {σ τ τ1 τ2 : bSt} {me f k : Nat} {word : Int64} (h : τ = dtk σ me f word k) (e1 : b_up τ (me + 1) (f + k) (tkF word k) = τ1) (e2 : b_up τ1 me 1 (nI (f + k + 1)) = τ2) : τ2 = dtk σ me f word (k + 1) := by
  subst e2 e1 h
  funext j
  unfold dtk
  by_cases c : j = me
  · subst c
    rw [b_up_s, b_up_s, b_up_n (by omega), b_up_s, b_set_n (by omega), b_set_n (by omega)]
    funext i
    unfold upd
    by_cases c2 : i = 1
    · rw [if_pos c2, if_pos c2]; rfl
    · rw [if_neg c2, if_neg c2, if_neg c2]
  · rw [b_up_n c, b_up_n c]
    by_cases c1 : j = me + 1
    · subst c1
      rw [b_up_s, b_set_s, b_up_n (by omega), b_set_s]
      rfl
    · rw [b_up_n c1, b_set_n c1, b_up_n c, b_set_n c1]
def wrS (bits v : Int32) : Int32 := if bits = 8 then v &&& 255 else if bits = 16 then v &&& 65535 else v
/-- the BEATS that the first k numbers of a row tell -/
def orF (f : Nat → Int32) : Nat → Int32
  | 0 => 0
  | k + 1 => orF f k ||| ((1 : Int32) <<< (f k &&& 31))
/-- how many of the first n numbers stand ahead of the first that is no BEAT -/
def rkF (f : Nat → Int32) : Nat → Nat
  | 0 => 0
  | n + 1 => if rkF f n = n ∧ ¬ f n < 0 ∧ ¬ (31 : Int32) < f n then n + 1 else rkF f n
theorem rkF_stop {f : Nat → Int32} {i : Nat} (h : rkF f i = i) (hb : ¬ wi (f i) 0 31) : ∀ k, rkF f (i + 1 + k) = i
  | 0 => by
    rw [Nat.add_zero, rkF, if_neg (fun z => hb ⟨z.2.1, z.2.2⟩), h]
  | k + 1 => by
    have e := rkF_stop h hb k
    show rkF f ((i + 1 + k) + 1) = i
    rw [rkF, e, if_neg (by omega)]

set_option maxHeartbeats 4000000 in
set_option maxRecDepth 100000 in
theorem c_X1_copy {w : bw} {σ : bSt} {me o : Nat} (hs : sDesk w me) (ht : sDesk w o) (hd : me + 3 ≤ o ∨ o + 3 ≤ me) : MV yX1_copy cX1_copy 2 none (rmm 1 40) w [.ref (b_ad w me), .ref (b_ad w o)] σ (pU (blk σ me o 3)) := by
  refine b_met (ls := [(0, .ref (b_ad w me)), (1, .ref (b_ad w o))]) (by decide) (Nat.le_of_ble_eq_true rfl) rfl (fun x h => ?_)
  refine v_aload_n h (i := 0) dX1_copy_0 (q := 1) rfl rfl 0 rfl ?_
  refine v_aload_n h (i := 1) dX1_copy_1 (q := 2) rfl rfl 1 rfl ?_
  refine v_get h (k := 1) (v := .int (σ o 1)) cls1 ht.1.1 ht.1.2 (Nat.le_of_ble_eq_true rfl) m153 rfl dX1_copy_2 (q := 5) rfl ?_
  refine v_put h (k := 1) cls1 hs.1.1 hs.1.2 (Nat.le_of_ble_eq_true rfl) rfl m153 rfl ⟨rfl, rfl⟩ dX1_copy_5 (q := 8) rfl ?_
  refine v_aload_n h (i := 1) dX1_copy_8 (q := 9) rfl rfl 1 rfl ?_
  refine v_get h (k := 0) (v := .ref (b_ad w (o + 1))) cls1 ht.1.1 ht.1.2 (Nat.le_of_ble_eq_true rfl) m151 rfl dX1_copy_9 (q := 12) rfl ?_
  refine v_iconst h (v := 0) dX1_copy_12 (q := 13) rfl (by decide) ?_
  refine v_aload_n h (i := 0) dX1_copy_13 (q := 14) rfl rfl 0 rfl ?_
  refine v_get h (k := 0) (v := .ref (b_ad w (me + 1))) cls1 hs.1.1 hs.1.2 (Nat.le_of_ble_eq_true rfl) m151 rfl dX1_copy_14 (q := 17) rfl ?_
  refine v_iconst h (v := 0) dX1_copy_17 (q := 18) rfl (by decide) ?_
  refine v_bipush h (v := 50) dX1_copy_18 (q := 20) rfl (by decide) ?_
  refine v_acopyF h ht.2.1 hs.2.1 m809 m482 m481 m15 rfl rfl (by decide) rfl ⟨Nat.le_of_ble_eq_true rfl, Nat.le_of_ble_eq_true rfl⟩ dX1_copy_20 (q := 23) rfl ?_
  refine v_aload_n h (i := 0) dX1_copy_23 (q := 24) rfl rfl 0 rfl ?_
  refine v_aload_n h (i := 1) dX1_copy_24 (q := 25) rfl rfl 1 rfl ?_
  refine v_get h (k := 3) (v := .int ((b_set (b_up σ me 1 (σ o 1)) (me + 1) ((b_up σ me 1 (σ o 1)) (o + 1))) o 3)) cls1 ht.1.1 ht.1.2 (Nat.le_of_ble_eq_true rfl) m157 rfl dX1_copy_25 (q := 28) rfl ?_
  refine v_put h (k := 3) cls1 hs.1.1 hs.1.2 (Nat.le_of_ble_eq_true rfl) rfl m157 rfl ⟨rfl, rfl⟩ dX1_copy_28 (q := 31) rfl ?_
  refine v_aload_n h (i := 1) dX1_copy_31 (q := 32) rfl rfl 1 rfl ?_
  refine v_get h (k := 2) (v := .ref (b_ad w (o + 2))) cls1 ht.1.1 ht.1.2 (Nat.le_of_ble_eq_true rfl) m155 rfl dX1_copy_32 (q := 35) rfl ?_
  refine v_iconst h (v := 0) dX1_copy_35 (q := 36) rfl (by decide) ?_
  refine v_aload_n h (i := 0) dX1_copy_36 (q := 37) rfl rfl 0 rfl ?_
  refine v_get h (k := 2) (v := .ref (b_ad w (me + 2))) cls1 hs.1.1 hs.1.2 (Nat.le_of_ble_eq_true rfl) m155 rfl dX1_copy_37 (q := 40) rfl ?_
  refine v_iconst h (v := 0) dX1_copy_40 (q := 41) rfl (by decide) ?_
  refine v_bipush h (v := 20) dX1_copy_41 (q := 43) rfl (by decide) ?_
  refine v_acopyF h ht.2.2 hs.2.2 m809 m482 m481 m15 rfl rfl (by decide) rfl ⟨Nat.le_of_ble_eq_true rfl, Nat.le_of_ble_eq_true rfl⟩ dX1_copy_43 (q := 46) rfl ?_
  refine v_conv (σ2 := blk σ me o 3) (bEq_o (j0 := me) (fun j hj => by
    rcases (show j < me ∨ me + 3 ≤ j ∨ j = me + 1 ∨ j = me + 2 by omega) with e | e | e | e
    all_goals try subst e
    all_goals simp (disch := omega) only [b_set_s, b_set_n, b_up_n, blk_in, blk_out]
    all_goals try (congr 1; omega)) hs.1 (fun k hk hr => by
    rcases rD_n hk hr with rfl | rfl
    all_goals simp (disch := omega) only [b_set_n, b_up_n, b_up_s, blk_in, blk_out, upd_s, upd_n, Nat.sub_self, Nat.add_zero])) ?_
  exact v_vret h dX1_copy_46 ⟨rfl, rfl⟩

set_option maxHeartbeats 4000000 in
set_option maxRecDepth 100000 in
theorem c_X1_add {w : bw} {σ : bSt} {me u : Nat} {v : Int32} (hs : sDesk w me) (hu : σ me 3 = nI u) (hu2 : u < 20) : MV yX1_add cX1_add 2 (some .int) (rmm 0 0) w [.ref (b_ad w me), .int v] σ (pI (nI (u + 1)) (b_up (b_up σ (me + 2) u v) me 3 (nI (u + 1)))) := by
  refine b_met (ls := [(0, .ref (b_ad w me)), (1, .int v)]) (by decide) (Nat.le_of_ble_eq_true rfl) rfl (fun x h => ?_)
  refine v_aload_n h (i := 0) dX1_add_0 (q := 1) rfl rfl 0 rfl ?_
  refine v_get h (k := 3) (v := .int (σ me 3)) cls1 hs.1.1 hs.1.2 (Nat.le_of_ble_eq_true rfl) m157 rfl dX1_add_1 (q := 4) rfl ?_
  rw [show (σ me 3 : Int32) = nI u from hu]
  refine v_if_lt h (t := 16) dX1_add_4 (by decide) (q := 7) rfl (fun c4 => absurd c4 (nI_pos (by omega))) (fun c4 => ?_)
  refine v_aload_n h (i := 0) dX1_add_7 (q := 8) rfl rfl 0 rfl ?_
  refine v_get h (k := 3) (v := .int (σ me 3)) cls1 hs.1.1 hs.1.2 (Nat.le_of_ble_eq_true rfl) m157 rfl dX1_add_8 (q := 11) rfl ?_
  rw [show (σ me 3 : Int32) = nI u from hu]
  refine v_bipush h (v := 20) dX1_add_11 (q := 13) rfl (by decide) ?_
  refine v_icmp_lt h (t := 21) dX1_add_13 (by decide) (q := 16) rfl (fun c13 => ?_) (fun c13 => absurd (nltl (k := 20) rfl hu2 (by decide)) c13)
  refine v_aload_n h (i := 0) dX1_add_21 (q := 22) rfl rfl 0 rfl ?_
  refine v_get h (k := 2) (v := .ref (b_ad w (me + 2))) cls1 hs.1.1 hs.1.2 (Nat.le_of_ble_eq_true rfl) m155 rfl dX1_add_22 (q := 25) rfl ?_
  refine v_aload_n h (i := 0) dX1_add_25 (q := 26) rfl rfl 0 rfl ?_
  refine v_get h (k := 3) (v := .int (σ me 3)) cls1 hs.1.1 hs.1.2 (Nat.le_of_ble_eq_true rfl) m157 rfl dX1_add_26 (q := 29) rfl ?_
  rw [show (σ me 3 : Int32) = nI u from hu]
  refine v_iload_n h (i := 1) dX1_add_29 (q := 30) rfl rfl 1 rfl ?_
  refine v_iast h (k := u) hs.2.2.1 hs.2.2.2 (vp_in_nI (by omega) (by omega)) (nI_clamp (by omega)) dX1_add_30 (q := 31) rfl ?_
  refine v_aload_n h (i := 0) dX1_add_31 (q := 32) rfl rfl 0 rfl ?_
  refine v_dup h dX1_add_32 (q := 33) rfl rfl ?_
  refine v_get h (k := 3) (v := .int ((b_up σ (me + 2) u v) me 3)) cls1 hs.1.1 hs.1.2 (Nat.le_of_ble_eq_true rfl) m157 rfl dX1_add_33 (q := 36) rfl ?_
  rw [show ((b_up σ (me + 2) u v) me 3 : Int32) = nI u from (by rw [b_up_n (by omega)]; exact hu)]
  refine v_iconst h (v := 1) dX1_add_36 (q := 37) rfl (by decide) ?_
  refine v_iadd h dX1_add_37 (q := 38) rfl ?_
  rw [show ((nI u) + 1 : Int32) = nI (u + 1) from (nI_1 u)]
  refine v_put h (k := 3) cls1 hs.1.1 hs.1.2 (Nat.le_of_ble_eq_true rfl) rfl m157 rfl ⟨rfl, rfl⟩ dX1_add_38 (q := 41) rfl ?_
  refine v_aload_n h (i := 0) dX1_add_41 (q := 42) rfl rfl 0 rfl ?_
  refine v_get h (k := 3) (v := .int ((b_up (b_up σ (me + 2) u v) me 3 (nI (u + 1))) me 3)) cls1 hs.1.1 hs.1.2 (Nat.le_of_ble_eq_true rfl) m157 rfl dX1_add_42 (q := 45) rfl ?_
  rw [show ((b_up (b_up σ (me + 2) u v) me 3 (nI (u + 1))) me 3 : Int32) = nI (u + 1) from (by rw [b_up_s, upd_s])]
  exact v_iret h dX1_add_45 ⟨rfl, rfl⟩

set_option maxHeartbeats 4000000 in
set_option maxRecDepth 100000 in
theorem lX1_take_3 {w : bw} {σ : bSt} {me f n : Nat} {word : Int64} (hs : sDesk w me) (hf : σ me 1 = nI f) (hfn : f + n ≤ 50) {x : bX} (h : Cx x w cX1_take RX1 5 none (rmm 0 0)) : ∀ n2 k : Nat, k + n2 = n → ∀ τ : bSt, τ = dtk σ me f word k → V x w 5 (pU (dtk σ me f word n)) 3 [(4, .int (nI k)), (0, .ref (b_ad w me)), (1, .long word), (3, .int (nI n))] [] τ := by
  refine b_ind (fun n2 ih => ?_)
  intro k hkn τ eτ
  have efd : τ me 1 = nI (f + k) := by rw [eτ]; unfold dtk; rw [b_up_s, upd_s]
  refine v_iload h (i := 4) dX1_take_3 (q := 5) rfl 0 rfl ?_
  refine v_iload_n h (i := 3) dX1_take_5 (q := 6) rfl rfl 3 rfl ?_
  refine v_icmp_ge h (t := 62) dX1_take_6 (by decide) (q := 9) rfl (fun c6 => ?_) (fun c6 => ?_)
  · exact v_vret h dX1_take_62 ⟨rfl, by rw [eτ, show n = k by have := nge (k := n) (nI_toInt (by omega)) (by omega) c6; omega]⟩
  · have hkn2 : k < n := nlt (nI_toInt (by omega)) (by omega) c6
    refine v_aload_n h (i := 0) dX1_take_9 (q := 10) rfl rfl 1 rfl ?_
    refine v_get h (k := 1) (v := .int (τ me 1)) cls1 hs.1.1 hs.1.2 (Nat.le_of_ble_eq_true rfl) m153 rfl dX1_take_10 (q := 13) rfl ?_
    rw [show (τ me 1 : Int32) = nI (f + k) from efd]
    refine v_if_lt h (t := 62) dX1_take_13 (by decide) (q := 16) rfl (fun c13 => absurd c13 (nI_pos (by omega))) (fun c13 => ?_)
    refine v_aload_n h (i := 0) dX1_take_16 (q := 17) rfl rfl 1 rfl ?_
    refine v_get h (k := 1) (v := .int (τ me 1)) cls1 hs.1.1 hs.1.2 (Nat.le_of_ble_eq_true rfl) m153 rfl dX1_take_17 (q := 20) rfl ?_
    rw [show (τ me 1 : Int32) = nI (f + k) from efd]
    refine v_bipush h (v := 50) dX1_take_20 (q := 22) rfl (by decide) ?_
    refine v_icmp_ge h (t := 62) dX1_take_22 (by decide) (q := 25) rfl (fun c22 => absurd c22 (nnle (k := 50) rfl (by omega) (by decide))) (fun c22 => ?_)
    refine v_aload_n h (i := 0) dX1_take_25 (q := 26) rfl rfl 1 rfl ?_
    refine v_get h (k := 0) (v := .ref (b_ad w (me + 1))) cls1 hs.1.1 hs.1.2 (Nat.le_of_ble_eq_true rfl) m151 rfl dX1_take_26 (q := 29) rfl ?_
    refine v_aload_n h (i := 0) dX1_take_29 (q := 30) rfl rfl 1 rfl ?_
    refine v_get h (k := 1) (v := .int (τ me 1)) cls1 hs.1.1 hs.1.2 (Nat.le_of_ble_eq_true rfl) m153 rfl dX1_take_30 (q := 33) rfl ?_
    rw [show (τ me 1 : Int32) = nI (f + k) from efd]
    refine v_lload_n h (i := 1) dX1_take_33 (q := 34) rfl rfl 2 rfl ?_
    refine v_bipush h (v := 8) dX1_take_34 (q := 36) rfl (by decide) ?_
    refine v_iload h (i := 4) dX1_take_36 (q := 38) rfl 0 rfl ?_
    refine v_imul h dX1_take_38 (q := 39) rfl ?_
    rw [show (8 * (nI k) : Int32) = nI (8 * k) from (nI_mulN 8 k)]
    refine v_lushr h (v := ushrL word (nI (8 * k))) dX1_take_39 (q := 40) rfl rfl ?_
    refine v_l2i h (v := (ushrL word (nI (8 * k))).toInt32) dX1_take_40 (q := 41) rfl rfl ?_
    refine v_sipush h (v := 255) dX1_take_41 (q := 44) rfl (by decide) ?_
    refine v_iand h dX1_take_44 (q := 45) rfl ?_
    rw [show (((ushrL word (nI (8 * k))).toInt32) &&& 255 : Int32) = tkF word k from (by rfl)]
    refine v_iast h (k := (f + k)) hs.2.1.1 hs.2.1.2 (vp_in_nI (by omega) (by omega)) (nI_clamp (by omega)) dX1_take_45 (q := 46) rfl ?_
    generalize eσ45 : b_up τ (me + 1) ((f + k)) (tkF word k) = σ45
    refine v_aload_n h (i := 0) dX1_take_46 (q := 47) rfl rfl 1 rfl ?_
    refine v_dup h dX1_take_47 (q := 48) rfl rfl ?_
    refine v_get h (k := 1) (v := .int (σ45 me 1)) cls1 hs.1.1 hs.1.2 (Nat.le_of_ble_eq_true rfl) m153 rfl dX1_take_48 (q := 51) rfl ?_
    rw [show (σ45 me 1 : Int32) = nI (f + k) from (by rw [← eσ45, b_up_n (by omega)]; exact efd)]
    refine v_iconst h (v := 1) dX1_take_51 (q := 52) rfl (by decide) ?_
    refine v_iadd h dX1_take_52 (q := 53) rfl ?_
    rw [show ((nI (f + k)) + 1 : Int32) = nI (f + k + 1) from (nI_1 (f + k))]
    refine v_put h (k := 1) cls1 hs.1.1 hs.1.2 (Nat.le_of_ble_eq_true rfl) rfl m153 rfl ⟨rfl, rfl⟩ dX1_take_53 (q := 56) rfl ?_
    generalize eσ53 : b_up σ45 me 1 (nI (f + k + 1)) = σ53
    refine v_iinc h (p := 0) (u := nI (k + 1)) (ls1 := [(4, .int (nI (k + 1))), (0, .ref (b_ad w me)), (1, .long word), (3, .int (nI n))]) dX1_take_56 (q := 59) rfl rfl (nI_1 k) (Nat.le_of_ble_eq_true rfl) rfl ?_
    refine v_goto h (t := 3) dX1_take_59 (by decide) ?_
    exact ih (n2 - 1) (by omega) (k + 1) (by omega) σ53 (dtk_s eτ eσ45 eσ53)
set_option maxHeartbeats 4000000 in
set_option maxRecDepth 100000 in
theorem c_X1_take {w : bw} {σ : bSt} {me f n : Nat} {word : Int64} (hs : sDesk w me) (hf : σ me 1 = nI f) (hfn : f + n ≤ 50) : MV yX1_take cX1_take 5 none (rmm 0 0) w [.ref (b_ad w me), .long word, .int (nI n)] σ (pU (dtk σ me f word n)) := by
  refine b_met (ls := [(0, .ref (b_ad w me)), (1, .long word), (3, .int (nI n))]) (by decide) (Nat.le_of_ble_eq_true rfl) rfl (fun x h => ?_)
  refine v_iconst h (v := 0) dX1_take_0 (q := 1) rfl (by decide) ?_
  refine v_istore h (i := 4) (ls1 := [(4, .int 0), (0, .ref (b_ad w me)), (1, .long word), (3, .int (nI n))]) dX1_take_1 (q := 3) rfl (Nat.le_of_ble_eq_true rfl) rfl ?_
  exact lX1_take_3 hs hf hfn h n 0 (by omega) σ (dtk_0 hf)

set_option maxHeartbeats 4000000 in
set_option maxRecDepth 100000 in
theorem c_X7_isMissing {w : bw} {σ : bSt} {me : Nat} (hs : sSheet w me) : MV yX7_isMissing cX7_isMissing 1 (some .boolean) (rmm 0 0) w [.ref (b_ad w me)] σ (pB (σ me 0 = 0) σ) := by
  refine b_met (ls := [(0, .ref (b_ad w me))]) (by decide) (Nat.le_of_ble_eq_true rfl) rfl (fun x h => ?_)
  refine v_aload_n h (i := 0) dX7_isMissing_0 (q := 1) rfl rfl 0 rfl ?_
  refine v_get h (k := 0) (v := .int (σ me 0)) cls7 hs.1.1 hs.1.2 (Nat.le_of_ble_eq_true rfl) m175 rfl dX7_isMissing_1 (q := 4) rfl ?_
  refine v_if_ne h (t := 11) dX7_isMissing_4 (by decide) (q := 7) rfl (fun c4 => ?_) (fun c4 => ?_)
  · refine v_iconst h (v := 0) dX7_isMissing_11 (q := 12) rfl (by decide) ?_
    exact v_zret h rfl dX7_isMissing_12 (pB0 (by first | assumption | simp_all))
  · refine v_iconst h (v := 1) dX7_isMissing_7 (q := 8) rfl (by decide) ?_
    refine v_goto h (t := 12) dX7_isMissing_8 (by decide) ?_
    exact v_zret h rfl dX7_isMissing_12 (pB1 (by first | assumption | exact ⟨by assumption, by assumption⟩ | simp_all))

set_option maxHeartbeats 4000000 in
set_option maxRecDepth 100000 in
theorem c_X7_holds {w : bw} {σ : bSt} {me : Nat} {i : Int32} (hs : sSheet w me) : MV yX7_holds cX7_holds 2 (some .boolean) (rmm 0 0) w [.ref (b_ad w me), .int i] σ (pB (¬ i < 0 ∧ ¬ σ me 1 ≤ i ∧ ¬ (40 : Int32) ≤ i) σ) := by
  refine b_met (ls := [(0, .ref (b_ad w me)), (1, .int i)]) (by decide) (Nat.le_of_ble_eq_true rfl) rfl (fun x h => ?_)
  refine v_iload_n h (i := 1) dX7_holds_0 (q := 1) rfl rfl 1 rfl ?_
  refine v_if_lt h (t := 22) dX7_holds_1 (by decide) (q := 4) rfl (fun c1 => ?_) (fun c1 => ?_)
  · refine v_iconst h (v := 0) dX7_holds_22 (q := 23) rfl (by decide) ?_
    exact v_zret h rfl dX7_holds_23 (pB0 (fun z => by first | exact z.1 (by assumption) | exact z.2.1 (by assumption) | exact z.2.2 (by assumption)))
  · refine v_iload_n h (i := 1) dX7_holds_4 (q := 5) rfl rfl 1 rfl ?_
    refine v_aload_n h (i := 0) dX7_holds_5 (q := 6) rfl rfl 0 rfl ?_
    refine v_get h (k := 1) (v := .int (σ me 1)) cls7 hs.1.1 hs.1.2 (Nat.le_of_ble_eq_true rfl) m177 rfl dX7_holds_6 (q := 9) rfl ?_
    refine v_icmp_ge h (t := 22) dX7_holds_9 (by decide) (q := 12) rfl (fun c9 => ?_) (fun c9 => ?_)
    · refine v_iconst h (v := 0) dX7_holds_22 (q := 23) rfl (by decide) ?_
      exact v_zret h rfl dX7_holds_23 (pB0 (fun z => by first | exact z.1 (by assumption) | exact z.2.1 (by assumption) | exact z.2.2 (by assumption)))
    · refine v_iload_n h (i := 1) dX7_holds_12 (q := 13) rfl rfl 1 rfl ?_
      refine v_bipush h (v := 40) dX7_holds_13 (q := 15) rfl (by decide) ?_
      refine v_icmp_ge h (t := 22) dX7_holds_15 (by decide) (q := 18) rfl (fun c15 => ?_) (fun c15 => ?_)
      · refine v_iconst h (v := 0) dX7_holds_22 (q := 23) rfl (by decide) ?_
        exact v_zret h rfl dX7_holds_23 (pB0 (fun z => by first | exact z.1 (by assumption) | exact z.2.1 (by assumption) | exact z.2.2 (by assumption)))
      · refine v_iconst h (v := 1) dX7_holds_18 (q := 19) rfl (by decide) ?_
        refine v_goto h (t := 23) dX7_holds_19 (by decide) ?_
        exact v_zret h rfl dX7_holds_23 (pB1 ⟨by assumption, by assumption, by assumption⟩)

set_option maxHeartbeats 4000000 in
set_option maxRecDepth 100000 in
theorem c_X7_holdsFrom {w : bw} {σ : bSt} {me : Nat} {i n : Int32} (hs : sSheet w me) : MV yX7_holdsFrom cX7_holdsFrom 3 (some .boolean) (rmm 0 0) w [.ref (b_ad w me), .int i, .int n] σ (pB (¬ i < 0 ∧ ¬ n < 0 ∧ ¬ σ me 1 - n < i ∧ ¬ (40 : Int32) < σ me 1) σ) := by
  refine b_met (ls := [(0, .ref (b_ad w me)), (1, .int i), (2, .int n)]) (by decide) (Nat.le_of_ble_eq_true rfl) rfl (fun x h => ?_)
  refine v_iload_n h (i := 1) dX7_holdsFrom_0 (q := 1) rfl rfl 1 rfl ?_
  refine v_if_lt h (t := 31) dX7_holdsFrom_1 (by decide) (q := 4) rfl (fun c1 => ?_) (fun c1 => ?_)
  · refine v_iconst h (v := 0) dX7_holdsFrom_31 (q := 32) rfl (by decide) ?_
    exact v_zret h rfl dX7_holdsFrom_32 (pB0 (fun z => by first | exact z.1 (by assumption) | exact z.2.1 (by assumption) | exact z.2.2.1 (by assumption) | exact z.2.2.2 (by assumption)))
  · refine v_iload_n h (i := 2) dX7_holdsFrom_4 (q := 5) rfl rfl 2 rfl ?_
    refine v_if_lt h (t := 31) dX7_holdsFrom_5 (by decide) (q := 8) rfl (fun c5 => ?_) (fun c5 => ?_)
    · refine v_iconst h (v := 0) dX7_holdsFrom_31 (q := 32) rfl (by decide) ?_
      exact v_zret h rfl dX7_holdsFrom_32 (pB0 (fun z => by first | exact z.1 (by assumption) | exact z.2.1 (by assumption) | exact z.2.2.1 (by assumption) | exact z.2.2.2 (by assumption)))
    · refine v_iload_n h (i := 1) dX7_holdsFrom_8 (q := 9) rfl rfl 1 rfl ?_
      refine v_aload_n h (i := 0) dX7_holdsFrom_9 (q := 10) rfl rfl 0 rfl ?_
      refine v_get h (k := 1) (v := .int (σ me 1)) cls7 hs.1.1 hs.1.2 (Nat.le_of_ble_eq_true rfl) m177 rfl dX7_holdsFrom_10 (q := 13) rfl ?_
      refine v_iload_n h (i := 2) dX7_holdsFrom_13 (q := 14) rfl rfl 2 rfl ?_
      refine v_isub h dX7_holdsFrom_14 (q := 15) rfl ?_
      refine v_icmp_gt h (t := 31) dX7_holdsFrom_15 (by decide) (q := 18) rfl (fun c15 => ?_) (fun c15 => ?_)
      · refine v_iconst h (v := 0) dX7_holdsFrom_31 (q := 32) rfl (by decide) ?_
        exact v_zret h rfl dX7_holdsFrom_32 (pB0 (fun z => by first | exact z.1 (by assumption) | exact z.2.1 (by assumption) | exact z.2.2.1 (by assumption) | exact z.2.2.2 (by assumption)))
      · refine v_aload_n h (i := 0) dX7_holdsFrom_18 (q := 19) rfl rfl 0 rfl ?_
        refine v_get h (k := 1) (v := .int (σ me 1)) cls7 hs.1.1 hs.1.2 (Nat.le_of_ble_eq_true rfl) m177 rfl dX7_holdsFrom_19 (q := 22) rfl ?_
        refine v_bipush h (v := 40) dX7_holdsFrom_22 (q := 24) rfl (by decide) ?_
        refine v_icmp_gt h (t := 31) dX7_holdsFrom_24 (by decide) (q := 27) rfl (fun c24 => ?_) (fun c24 => ?_)
        · refine v_iconst h (v := 0) dX7_holdsFrom_31 (q := 32) rfl (by decide) ?_
          exact v_zret h rfl dX7_holdsFrom_32 (pB0 (fun z => by first | exact z.1 (by assumption) | exact z.2.1 (by assumption) | exact z.2.2.1 (by assumption) | exact z.2.2.2 (by assumption)))
        · refine v_iconst h (v := 1) dX7_holdsFrom_27 (q := 28) rfl (by decide) ?_
          refine v_goto h (t := 32) dX7_holdsFrom_28 (by decide) ?_
          exact v_zret h rfl dX7_holdsFrom_32 (pB1 ⟨by assumption, by assumption, by assumption, by assumption⟩)

set_option maxHeartbeats 4000000 in
set_option maxRecDepth 100000 in
theorem c_X7_lay {w : bw} {σ : bSt} {me : Nat} {b n : Int32} (hs : sSheet w me) : MV yX7_lay cX7_lay 3 none (rmm 1 23) w [.ref (b_ad w me), .int b, .int n] σ (pU (b_set (b_up (b_up σ me 0 b) me 1 n) (me + 1) (fun _ => 0))) := by
  refine b_met (ls := [(0, .ref (b_ad w me)), (1, .int b), (2, .int n)]) (by decide) (Nat.le_of_ble_eq_true rfl) rfl (fun x h => ?_)
  refine v_aload_n h (i := 0) dX7_lay_0 (q := 1) rfl rfl 0 rfl ?_
  refine v_iload_n h (i := 1) dX7_lay_1 (q := 2) rfl rfl 1 rfl ?_
  refine v_put h (k := 0) cls7 hs.1.1 hs.1.2 (Nat.le_of_ble_eq_true rfl) rfl m175 rfl ⟨rfl, rfl⟩ dX7_lay_2 (q := 5) rfl ?_
  refine v_aload_n h (i := 0) dX7_lay_5 (q := 6) rfl rfl 0 rfl ?_
  refine v_iload_n h (i := 2) dX7_lay_6 (q := 7) rfl rfl 2 rfl ?_
  refine v_put h (k := 1) cls7 hs.1.1 hs.1.2 (Nat.le_of_ble_eq_true rfl) rfl m177 rfl ⟨rfl, rfl⟩ dX7_lay_7 (q := 10) rfl ?_
  refine v_aload_n h (i := 0) dX7_lay_10 (q := 11) rfl rfl 0 rfl ?_
  refine v_get h (k := 2) (v := .ref (b_ad w (me + 1))) cls7 hs.1.1 hs.1.2 (Nat.le_of_ble_eq_true rfl) m179 rfl dX7_lay_11 (q := 14) rfl ?_
  refine v_iconst h (v := 0) dX7_lay_14 (q := 15) rfl (by decide) ?_
  refine v_callS h (As := [.ref (b_ad w (me + 1)), .int 0]) (rest := []) (c_J7_fill_53178 (j := me + 1) (n0 := 40) (v := 0) (σ := b_up (b_up σ me 0 b) me 1 n) hs.2 (by decide)) cal_J7_fill_53178 m54 m754 ⟨rfl, rfl, Nat.le_of_ble_eq_true rfl, Nat.le_of_ble_eq_true rfl⟩ rfl rfl (Nat.le_of_ble_eq_true rfl) dX7_lay_15 (q := 18) rfl (kU ?_)
  exact v_vret h dX7_lay_18 ⟨rfl, rfl⟩

set_option maxHeartbeats 4000000 in
set_option maxRecDepth 100000 in
theorem c_X7_write {w : bw} {σ : bSt} {me i : Nat} {v : Int32} (hs : sSheet w me) (hi : ¬ nI i < 0 ∧ ¬ σ me 1 ≤ nI i ∧ ¬ (40 : Int32) ≤ nI i) (hi2 : i < 40) : MV yX7_write cX7_write 3 none (rmm 1 21) w [.ref (b_ad w me), .int (nI i), .int v] σ (pU (b_up σ (me + 1) i (wrS (σ me 0) v))) := by
  refine b_met (ls := [(0, .ref (b_ad w me)), (1, .int (nI i)), (2, .int v)]) (by decide) (Nat.le_of_ble_eq_true rfl) rfl (fun x h => ?_)
  refine v_aload_n h (i := 0) dX7_write_0 (q := 1) rfl rfl 0 rfl ?_
  refine v_iload_n h (i := 1) dX7_write_1 (q := 2) rfl rfl 1 rfl ?_
  refine v_callV h (As := [.int (nI i)]) (rest := []) (c_X7_holds (me := me) (σ := σ) (i := nI i) hs ) cal_X7_holds calV_X7_holds m771 ⟨rfl, rfl, Nat.le_of_ble_eq_true rfl, Nat.le_of_ble_eq_true rfl⟩ rfl hs.1.1 hs.1.2 ⟨_, _, rfl⟩ rfl (Nat.le_of_ble_eq_true rfl) dX7_write_2 (q := 5) rfl (kB (fun c2 => ?_) (fun c2 => absurd hi c2))
  refine v_if_ne h (t := 9) dX7_write_5 (by decide) (q := 8) rfl (fun _ => ?_) (fun c => absurd c (by decide))
  refine v_aload_n h (i := 0) dX7_write_9 (q := 10) rfl rfl 0 rfl ?_
  refine v_get h (k := 2) (v := .ref (b_ad w (me + 1))) cls7 hs.1.1 hs.1.2 (Nat.le_of_ble_eq_true rfl) m179 rfl dX7_write_10 (q := 13) rfl ?_
  refine v_iload_n h (i := 1) dX7_write_13 (q := 14) rfl rfl 1 rfl ?_
  refine v_aload_n h (i := 0) dX7_write_14 (q := 15) rfl rfl 0 rfl ?_
  refine v_get h (k := 0) (v := .int (σ me 0)) cls7 hs.1.1 hs.1.2 (Nat.le_of_ble_eq_true rfl) m175 rfl dX7_write_15 (q := 18) rfl ?_
  refine v_bipush h (v := 8) dX7_write_18 (q := 20) rfl (by decide) ?_
  refine v_icmp_ne h (t := 31) dX7_write_20 (by decide) (q := 23) rfl (fun c20 => ?_) (fun c20 => ?_)
  · refine v_aload_n h (i := 0) dX7_write_31 (q := 32) rfl rfl 0 rfl ?_
    refine v_get h (k := 0) (v := .int (σ me 0)) cls7 hs.1.1 hs.1.2 (Nat.le_of_ble_eq_true rfl) m175 rfl dX7_write_32 (q := 35) rfl ?_
    refine v_bipush h (v := 16) dX7_write_35 (q := 37) rfl (by decide) ?_
    refine v_icmp_ne h (t := 47) dX7_write_37 (by decide) (q := 40) rfl (fun c37 => ?_) (fun c37 => ?_)
    · refine v_iload_n h (i := 2) dX7_write_47 (q := 48) rfl rfl 2 rfl ?_
      refine v_iast h (k := i) hs.2.1 hs.2.2 (vp_in_nI (by omega) (by omega)) (nI_clamp (by omega)) dX7_write_48 (q := 49) rfl ?_
      exact v_vret h dX7_write_49 ⟨rfl, by unfold wrS; simp [*]⟩
    · refine v_iload_n h (i := 2) dX7_write_40 (q := 41) rfl rfl 2 rfl ?_
      refine v_ldc h (v := 65535) m772 dX7_write_41 (q := 43) rfl ?_
      refine v_iand h dX7_write_43 (q := 44) rfl ?_
      refine v_goto h (t := 48) dX7_write_44 (by decide) ?_
      refine v_iast h (k := i) hs.2.1 hs.2.2 (vp_in_nI (by omega) (by omega)) (nI_clamp (by omega)) dX7_write_48 (q := 49) rfl ?_
      exact v_vret h dX7_write_49 ⟨rfl, by unfold wrS; simp [*]⟩
  · refine v_iload_n h (i := 2) dX7_write_23 (q := 24) rfl rfl 2 rfl ?_
    refine v_sipush h (v := 255) dX7_write_24 (q := 27) rfl (by decide) ?_
    refine v_iand h dX7_write_27 (q := 28) rfl ?_
    refine v_goto h (t := 48) dX7_write_28 (by decide) ?_
    refine v_iast h (k := i) hs.2.1 hs.2.2 (vp_in_nI (by omega) (by omega)) (nI_clamp (by omega)) dX7_write_48 (q := 49) rfl ?_
    exact v_vret h dX7_write_49 ⟨rfl, by unfold wrS; simp [*]⟩

set_option maxHeartbeats 4000000 in
set_option maxRecDepth 100000 in
theorem lX7_readPart_4 {w : bw} {σ : bSt} {me n : Nat} (hs : sSheet w me) (hn : σ me 1 = nI n) (hn2 : n ≤ 40) {x : bX} (h : Cx x w cX7_readPart RX7 3 (some .int) (rmm 1 22)) : ∀ n2 i : Nat, i + n2 = n → ∀ s : Int32, s = orF (σ (me + 1)) i → rkF (σ (me + 1)) i = i → V x w 3 (pI (orF (σ (me + 1)) (rkF (σ (me + 1)) n)) σ) 4 [(2, .int (nI i)), (1, .int s), (0, .ref (b_ad w me))] [] σ := by
  refine b_ind (fun n2 ih => ?_)
  intro i hin s es hrk
  refine v_iload_n h (i := 2) dX7_readPart_4 (q := 5) rfl rfl 0 rfl ?_
  refine v_aload_n h (i := 0) dX7_readPart_5 (q := 6) rfl rfl 2 rfl ?_
  refine v_get h (k := 1) (v := .int (σ me 1)) cls7 hs.1.1 hs.1.2 (Nat.le_of_ble_eq_true rfl) m177 rfl dX7_readPart_6 (q := 9) rfl ?_
  rw [show (σ me 1 : Int32) = nI n from hn]
  refine v_icmp_ge h (t := 52) dX7_readPart_9 (by decide) (q := 12) rfl (fun c9 => ?_) (fun c9 => ?_)
  · refine v_iload_n h (i := 1) dX7_readPart_52 (q := 53) rfl rfl 1 rfl ?_
    exact v_iret h dX7_readPart_53 ⟨by rw [es, show n = i by have := nge (k := n) (nI_toInt (by omega)) (by omega) c9; omega, hrk], rfl⟩
  · have hin2 : i < n := nlt (nI_toInt (by omega)) (by omega) c9
    refine v_iload_n h (i := 2) dX7_readPart_12 (q := 13) rfl rfl 0 rfl ?_
    refine v_bipush h (v := 40) dX7_readPart_13 (q := 15) rfl (by decide) ?_
    refine v_icmp_ge h (t := 52) dX7_readPart_15 (by decide) (q := 18) rfl (fun c15 => absurd c15 (nnle (k := 40) rfl (by omega) (by decide))) (fun c15 => ?_)
    refine v_aload_n h (i := 0) dX7_readPart_18 (q := 19) rfl rfl 2 rfl ?_
    refine v_get h (k := 2) (v := .ref (b_ad w (me + 1))) cls7 hs.1.1 hs.1.2 (Nat.le_of_ble_eq_true rfl) m179 rfl dX7_readPart_19 (q := 22) rfl ?_
    refine v_iload_n h (i := 2) dX7_readPart_22 (q := 23) rfl rfl 0 rfl ?_
    refine v_iald h (k := i) hs.2.1 hs.2.2 (vp_in_nI (by omega) (by omega)) (nI_clamp (by omega)) dX7_readPart_23 (q := 24) rfl ?_
    refine v_iconst h (v := 0) dX7_readPart_24 (q := 25) rfl (by decide) ?_
    refine v_bipush h (v := 31) dX7_readPart_25 (q := 27) rfl (by decide) ?_
    refine v_callSN h (As := [.int (σ (me + 1) i), .int 0, .int 31]) (rest := []) (c_X9_within (v := σ (me + 1) i) (l := 0) (m := 31)) cal_X9_within m313 m790 ⟨rfl, rfl, Nat.le_of_ble_eq_true rfl, Nat.le_of_ble_eq_true rfl⟩ rfl rfl (Nat.le_of_ble_eq_true rfl) dX7_readPart_27 (q := 30) rfl (kB (fun c27 => ?_) (fun c27 => ?_))
    · refine v_if_ne h (t := 35) dX7_readPart_30 (by decide) (q := 33) rfl (fun _ => ?_) (fun c => absurd c (by decide))
      refine v_iload_n h (i := 1) dX7_readPart_35 (q := 36) rfl rfl 1 rfl ?_
      refine v_iconst h (v := 1) dX7_readPart_36 (q := 37) rfl (by decide) ?_
      refine v_aload_n h (i := 0) dX7_readPart_37 (q := 38) rfl rfl 2 rfl ?_
      refine v_get h (k := 2) (v := .ref (b_ad w (me + 1))) cls7 hs.1.1 hs.1.2 (Nat.le_of_ble_eq_true rfl) m179 rfl dX7_readPart_38 (q := 41) rfl ?_
      refine v_iload_n h (i := 2) dX7_readPart_41 (q := 42) rfl rfl 0 rfl ?_
      refine v_iald h (k := i) hs.2.1 hs.2.2 (vp_in_nI (by omega) (by omega)) (nI_clamp (by omega)) dX7_readPart_42 (q := 43) rfl ?_
      refine v_ishl h dX7_readPart_43 (q := 44) rfl ?_
      refine v_ior h dX7_readPart_44 (q := 45) rfl ?_
      refine v_istore_n h (i := 1) (ls1 := [(1, .int (s ||| (1 <<< ((σ (me + 1) i) &&& 31)))), (2, .int (nI i)), (0, .ref (b_ad w me))]) dX7_readPart_45 (q := 46) rfl rfl (Nat.le_of_ble_eq_true rfl) rfl ?_
      refine v_iinc h (p := 1) (u := nI (i + 1)) (ls1 := [(2, .int (nI (i + 1))), (1, .int (s ||| (1 <<< ((σ (me + 1) i) &&& 31)))), (0, .ref (b_ad w me))]) dX7_readPart_46 (q := 49) rfl rfl (nI_1 i) (Nat.le_of_ble_eq_true rfl) rfl ?_
      refine v_goto h (t := 4) dX7_readPart_49 (by decide) ?_
      exact ih (n2 - 1) (by omega) (i + 1) (by omega) _ (by rw [orF, es]) (by rw [rkF, if_pos ⟨hrk, c27.1, c27.2⟩])
    · refine v_if_ne h (t := 35) dX7_readPart_30 (by decide) (q := 33) rfl (fun c => absurd (by decide) c) (fun _ => ?_)
      refine v_iload_n h (i := 1) dX7_readPart_33 (q := 34) rfl rfl 1 rfl ?_
      exact v_iret h dX7_readPart_34 ⟨by rw [es]; have hz := rkF_stop hrk c27 (n2 - 1); rw [show i + 1 + (n2 - 1) = n by omega] at hz; rw [hz], rfl⟩
set_option maxHeartbeats 4000000 in
set_option maxRecDepth 100000 in
theorem c_X7_readPart {w : bw} {σ : bSt} {me n : Nat} (hs : sSheet w me) (hn : σ me 1 = nI n) (hn2 : n ≤ 40) : MV yX7_readPart cX7_readPart 3 (some .int) (rmm 1 22) w [.ref (b_ad w me)] σ (pI (orF (σ (me + 1)) (rkF (σ (me + 1)) n)) σ) := by
  refine b_met (ls := [(0, .ref (b_ad w me))]) (by decide) (Nat.le_of_ble_eq_true rfl) rfl (fun x h => ?_)
  refine v_iconst h (v := 0) dX7_readPart_0 (q := 1) rfl (by decide) ?_
  refine v_istore_n h (i := 1) (ls1 := [(1, .int 0), (0, .ref (b_ad w me))]) dX7_readPart_1 (q := 2) rfl rfl (Nat.le_of_ble_eq_true rfl) rfl ?_
  refine v_iconst h (v := 0) dX7_readPart_2 (q := 3) rfl (by decide) ?_
  refine v_istore_n h (i := 2) (ls1 := [(2, .int 0), (1, .int 0), (0, .ref (b_ad w me))]) dX7_readPart_3 (q := 4) rfl rfl (Nat.le_of_ble_eq_true rfl) rfl ?_
  exact lX7_readPart_4 hs hn hn2 h n 0 (by omega) 0 rfl rfl
