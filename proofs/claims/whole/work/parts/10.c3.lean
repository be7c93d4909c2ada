set_option maxHeartbeats 4000000 in
set_option maxRecDepth 100000 in
theorem c_J6_bitCount_0f7a4 {w : bw} {σ : bSt} {v : Int32}  : MV yJ6_bitCount_0f7a4 cJ6_bitCount_0f7a4 1 (some .int) (rmm 0 0) w [.int v] σ (pI (bcJ v) σ) := by
  refine b_met (ls := [(0, .int v)]) (by decide) (Nat.le_of_ble_eq_true rfl) rfl (fun x h => ?_)
  refine v_iload_n h (i := 0) dJ6_bitCount_0f7a4_0 (q := 1) rfl rfl 0 rfl ?_
  refine v_iload_n h (i := 0) dJ6_bitCount_0f7a4_1 (q := 2) rfl rfl 0 rfl ?_
  refine v_iconst h (v := 1) dJ6_bitCount_0f7a4_2 (q := 3) rfl (by decide) ?_
  refine v_iushr h (v := ushr v 1) dJ6_bitCount_0f7a4_3 (q := 4) rfl rfl ?_
  refine v_ldcw h (v := 1431655765) m452 dJ6_bitCount_0f7a4_4 (q := 7) rfl ?_
  refine v_iand h dJ6_bitCount_0f7a4_7 (q := 8) rfl ?_
  refine v_isub h dJ6_bitCount_0f7a4_8 (q := 9) rfl ?_
  generalize eb1 : v - ((ushr v 1) &&& 1431655765) = b1
  refine v_istore_n h (i := 0) (ls1 := [(0, .int b1)]) dJ6_bitCount_0f7a4_9 (q := 10) rfl rfl (Nat.le_of_ble_eq_true rfl) rfl ?_
  refine v_iload_n h (i := 0) dJ6_bitCount_0f7a4_10 (q := 11) rfl rfl 0 rfl ?_
  refine v_ldcw h (v := 858993459) m453 dJ6_bitCount_0f7a4_11 (q := 14) rfl ?_
  refine v_iand h dJ6_bitCount_0f7a4_14 (q := 15) rfl ?_
  refine v_iload_n h (i := 0) dJ6_bitCount_0f7a4_15 (q := 16) rfl rfl 0 rfl ?_
  refine v_iconst h (v := 2) dJ6_bitCount_0f7a4_16 (q := 17) rfl (by decide) ?_
  refine v_iushr h (v := ushr b1 2) dJ6_bitCount_0f7a4_17 (q := 18) rfl rfl ?_
  refine v_ldcw h (v := 858993459) m453 dJ6_bitCount_0f7a4_18 (q := 21) rfl ?_
  refine v_iand h dJ6_bitCount_0f7a4_21 (q := 22) rfl ?_
  refine v_iadd h dJ6_bitCount_0f7a4_22 (q := 23) rfl ?_
  generalize eb2 : (b1 &&& 858993459) + ((ushr b1 2) &&& 858993459) = b2
  refine v_istore_n h (i := 0) (ls1 := [(0, .int b2)]) dJ6_bitCount_0f7a4_23 (q := 24) rfl rfl (Nat.le_of_ble_eq_true rfl) rfl ?_
  refine v_iload_n h (i := 0) dJ6_bitCount_0f7a4_24 (q := 25) rfl rfl 0 rfl ?_
  refine v_iload_n h (i := 0) dJ6_bitCount_0f7a4_25 (q := 26) rfl rfl 0 rfl ?_
  refine v_iconst h (v := 4) dJ6_bitCount_0f7a4_26 (q := 27) rfl (by decide) ?_
  refine v_iushr h (v := ushr b2 4) dJ6_bitCount_0f7a4_27 (q := 28) rfl rfl ?_
  refine v_iadd h dJ6_bitCount_0f7a4_28 (q := 29) rfl ?_
  refine v_ldcw h (v := 252645135) m454 dJ6_bitCount_0f7a4_29 (q := 32) rfl ?_
  refine v_iand h dJ6_bitCount_0f7a4_32 (q := 33) rfl ?_
  generalize eb3 : (b2 + (ushr b2 4)) &&& 252645135 = b3
  refine v_istore_n h (i := 0) (ls1 := [(0, .int b3)]) dJ6_bitCount_0f7a4_33 (q := 34) rfl rfl (Nat.le_of_ble_eq_true rfl) rfl ?_
  refine v_iload_n h (i := 0) dJ6_bitCount_0f7a4_34 (q := 35) rfl rfl 0 rfl ?_
  refine v_iload_n h (i := 0) dJ6_bitCount_0f7a4_35 (q := 36) rfl rfl 0 rfl ?_
  refine v_bipush h (v := 8) dJ6_bitCount_0f7a4_36 (q := 38) rfl (by decide) ?_
  refine v_iushr h (v := ushr b3 8) dJ6_bitCount_0f7a4_38 (q := 39) rfl rfl ?_
  refine v_iadd h dJ6_bitCount_0f7a4_39 (q := 40) rfl ?_
  generalize eb4 : b3 + (ushr b3 8) = b4
  refine v_istore_n h (i := 0) (ls1 := [(0, .int b4)]) dJ6_bitCount_0f7a4_40 (q := 41) rfl rfl (Nat.le_of_ble_eq_true rfl) rfl ?_
  refine v_iload_n h (i := 0) dJ6_bitCount_0f7a4_41 (q := 42) rfl rfl 0 rfl ?_
  refine v_iload_n h (i := 0) dJ6_bitCount_0f7a4_42 (q := 43) rfl rfl 0 rfl ?_
  refine v_bipush h (v := 16) dJ6_bitCount_0f7a4_43 (q := 45) rfl (by decide) ?_
  refine v_iushr h (v := ushr b4 16) dJ6_bitCount_0f7a4_45 (q := 46) rfl rfl ?_
  refine v_iadd h dJ6_bitCount_0f7a4_46 (q := 47) rfl ?_
  refine v_istore_n h (i := 0) (ls1 := [(0, .int (b4 + (ushr b4 16)))]) dJ6_bitCount_0f7a4_47 (q := 48) rfl rfl (Nat.le_of_ble_eq_true rfl) rfl ?_
  refine v_iload_n h (i := 0) dJ6_bitCount_0f7a4_48 (q := 49) rfl rfl 0 rfl ?_
  refine v_bipush h (v := 63) dJ6_bitCount_0f7a4_49 (q := 51) rfl (by decide) ?_
  refine v_iand h dJ6_bitCount_0f7a4_51 (q := 52) rfl ?_
  exact v_iret h dJ6_bitCount_0f7a4_52 ⟨by subst eb4 eb3 eb2 eb1; rfl, rfl⟩

set_option maxHeartbeats 4000000 in
set_option maxRecDepth 100000 in
theorem c_J6_rotateRight_7cf53 {w : bw} {σ : bSt} {v k : Int32}  : MV yJ6_rotateRight_7cf53 cJ6_rotateRight_7cf53 2 (some .int) (rmm 0 0) w [.int v, .int k] σ (pI (rotR v k) σ) := by
  refine b_met (ls := [(0, .int v), (1, .int k)]) (by decide) (Nat.le_of_ble_eq_true rfl) rfl (fun x h => ?_)
  refine v_iload_n h (i := 0) dJ6_rotateRight_7cf53_0 (q := 1) rfl rfl 0 rfl ?_
  refine v_iload_n h (i := 1) dJ6_rotateRight_7cf53_1 (q := 2) rfl rfl 1 rfl ?_
  refine v_iushr h (v := ushr v k) dJ6_rotateRight_7cf53_2 (q := 3) rfl rfl ?_
  refine v_iload_n h (i := 0) dJ6_rotateRight_7cf53_3 (q := 4) rfl rfl 0 rfl ?_
  refine v_iload_n h (i := 1) dJ6_rotateRight_7cf53_4 (q := 5) rfl rfl 1 rfl ?_
  refine v_ineg h dJ6_rotateRight_7cf53_5 (q := 6) rfl ?_
  refine v_ishl h dJ6_rotateRight_7cf53_6 (q := 7) rfl ?_
  refine v_ior h dJ6_rotateRight_7cf53_7 (q := 8) rfl ?_
  exact v_iret h dJ6_rotateRight_7cf53_8 ⟨rfl, rfl⟩

set_option maxHeartbeats 4000000 in
set_option maxRecDepth 100000 in
theorem c_J13_bitCount_95d88 {w : bw} {σ : bSt} {v : Int64}  : MV yJ13_bitCount_95d88 cJ13_bitCount_95d88 2 (some .int) (rmm 0 0) w [.long v] σ (pI (bcL v) σ) := by
  refine b_met (ls := [(0, .long v)]) (by decide) (Nat.le_of_ble_eq_true rfl) rfl (fun x h => ?_)
  refine v_lload_n h (i := 0) dJ13_bitCount_95d88_0 (q := 1) rfl rfl 0 rfl ?_
  refine v_lload_n h (i := 0) dJ13_bitCount_95d88_1 (q := 2) rfl rfl 0 rfl ?_
  refine v_iconst h (v := 1) dJ13_bitCount_95d88_2 (q := 3) rfl (by decide) ?_
  refine v_lushr h (v := ushrL v 1) dJ13_bitCount_95d88_3 (q := 4) rfl rfl ?_
  refine v_ldc2 h (v := 6148914691236517205) m696 dJ13_bitCount_95d88_4 (q := 7) rfl ?_
  refine v_land h dJ13_bitCount_95d88_7 (q := 8) rfl ?_
  refine v_lsub h dJ13_bitCount_95d88_8 (q := 9) rfl ?_
  refine v_lstore_n h (i := 0) (ls1 := [(0, .long (v - ((ushrL v 1) &&& 6148914691236517205)))]) dJ13_bitCount_95d88_9 (q := 10) rfl rfl (Nat.le_of_ble_eq_true rfl) rfl ?_
  generalize eb1 : v - ((ushrL v 1) &&& 6148914691236517205) = b1
  refine v_lload_n h (i := 0) dJ13_bitCount_95d88_10 (q := 11) rfl rfl 0 rfl ?_
  refine v_ldc2 h (v := 3689348814741910323) m697 dJ13_bitCount_95d88_11 (q := 14) rfl ?_
  refine v_land h dJ13_bitCount_95d88_14 (q := 15) rfl ?_
  refine v_lload_n h (i := 0) dJ13_bitCount_95d88_15 (q := 16) rfl rfl 0 rfl ?_
  refine v_iconst h (v := 2) dJ13_bitCount_95d88_16 (q := 17) rfl (by decide) ?_
  refine v_lushr h (v := ushrL b1 2) dJ13_bitCount_95d88_17 (q := 18) rfl rfl ?_
  refine v_ldc2 h (v := 3689348814741910323) m697 dJ13_bitCount_95d88_18 (q := 21) rfl ?_
  refine v_land h dJ13_bitCount_95d88_21 (q := 22) rfl ?_
  refine v_ladd h dJ13_bitCount_95d88_22 (q := 23) rfl ?_
  refine v_lstore_n h (i := 0) (ls1 := [(0, .long ((b1 &&& 3689348814741910323) + ((ushrL b1 2) &&& 3689348814741910323)))]) dJ13_bitCount_95d88_23 (q := 24) rfl rfl (Nat.le_of_ble_eq_true rfl) rfl ?_
  generalize eb2 : (b1 &&& 3689348814741910323) + ((ushrL b1 2) &&& 3689348814741910323) = b2
  refine v_lload_n h (i := 0) dJ13_bitCount_95d88_24 (q := 25) rfl rfl 0 rfl ?_
  refine v_lload_n h (i := 0) dJ13_bitCount_95d88_25 (q := 26) rfl rfl 0 rfl ?_
  refine v_iconst h (v := 4) dJ13_bitCount_95d88_26 (q := 27) rfl (by decide) ?_
  refine v_lushr h (v := ushrL b2 4) dJ13_bitCount_95d88_27 (q := 28) rfl rfl ?_
  refine v_ladd h dJ13_bitCount_95d88_28 (q := 29) rfl ?_
  refine v_ldc2 h (v := 1085102592571150095) m698 dJ13_bitCount_95d88_29 (q := 32) rfl ?_
  refine v_land h dJ13_bitCount_95d88_32 (q := 33) rfl ?_
  refine v_lstore_n h (i := 0) (ls1 := [(0, .long ((b2 + (ushrL b2 4)) &&& 1085102592571150095))]) dJ13_bitCount_95d88_33 (q := 34) rfl rfl (Nat.le_of_ble_eq_true rfl) rfl ?_
  generalize eb3 : (b2 + (ushrL b2 4)) &&& 1085102592571150095 = b3
  refine v_lload_n h (i := 0) dJ13_bitCount_95d88_34 (q := 35) rfl rfl 0 rfl ?_
  refine v_lload_n h (i := 0) dJ13_bitCount_95d88_35 (q := 36) rfl rfl 0 rfl ?_
  refine v_bipush h (v := 8) dJ13_bitCount_95d88_36 (q := 38) rfl (by decide) ?_
  refine v_lushr h (v := ushrL b3 8) dJ13_bitCount_95d88_38 (q := 39) rfl rfl ?_
  refine v_ladd h dJ13_bitCount_95d88_39 (q := 40) rfl ?_
  refine v_lstore_n h (i := 0) (ls1 := [(0, .long (b3 + (ushrL b3 8)))]) dJ13_bitCount_95d88_40 (q := 41) rfl rfl (Nat.le_of_ble_eq_true rfl) rfl ?_
  generalize eb4 : b3 + (ushrL b3 8) = b4
  refine v_lload_n h (i := 0) dJ13_bitCount_95d88_41 (q := 42) rfl rfl 0 rfl ?_
  refine v_lload_n h (i := 0) dJ13_bitCount_95d88_42 (q := 43) rfl rfl 0 rfl ?_
  refine v_bipush h (v := 16) dJ13_bitCount_95d88_43 (q := 45) rfl (by decide) ?_
  refine v_lushr h (v := ushrL b4 16) dJ13_bitCount_95d88_45 (q := 46) rfl rfl ?_
  refine v_ladd h dJ13_bitCount_95d88_46 (q := 47) rfl ?_
  refine v_lstore_n h (i := 0) (ls1 := [(0, .long (b4 + (ushrL b4 16)))]) dJ13_bitCount_95d88_47 (q := 48) rfl rfl (Nat.le_of_ble_eq_true rfl) rfl ?_
  generalize eb5 : b4 + (ushrL b4 16) = b5
  refine v_lload_n h (i := 0) dJ13_bitCount_95d88_48 (q := 49) rfl rfl 0 rfl ?_
  refine v_lload_n h (i := 0) dJ13_bitCount_95d88_49 (q := 50) rfl rfl 0 rfl ?_
  refine v_bipush h (v := 32) dJ13_bitCount_95d88_50 (q := 52) rfl (by decide) ?_
  refine v_lushr h (v := ushrL b5 32) dJ13_bitCount_95d88_52 (q := 53) rfl rfl ?_
  refine v_ladd h dJ13_bitCount_95d88_53 (q := 54) rfl ?_
  refine v_lstore_n h (i := 0) (ls1 := [(0, .long (b5 + (ushrL b5 32)))]) dJ13_bitCount_95d88_54 (q := 55) rfl rfl (Nat.le_of_ble_eq_true rfl) rfl ?_
  generalize eb6 : b5 + (ushrL b5 32) = b6
  refine v_lload_n h (i := 0) dJ13_bitCount_95d88_55 (q := 56) rfl rfl 0 rfl ?_
  refine v_l2i h (v := b6.toInt32) dJ13_bitCount_95d88_56 (q := 57) rfl rfl ?_
  refine v_bipush h (v := 127) dJ13_bitCount_95d88_57 (q := 59) rfl (by decide) ?_
  refine v_iand h dJ13_bitCount_95d88_59 (q := 60) rfl ?_
  exact v_iret h dJ13_bitCount_95d88_60 ⟨by subst eb6 eb5 eb4 eb3 eb2 eb1; rfl, rfl⟩

set_option maxHeartbeats 4000000 in
set_option maxRecDepth 100000 in
theorem lJ7_fill_53178_5 {w : bw} {σ : bSt} {j n0 : Nat} {v : Int32} (ha : sI w j n0) (hn0 : n0 < 2 ^ 31) {x : bX} (h : Cx x w cJ7_fill_53178 RJ7 4 none (rmm 0 0)) : ∀ n i : Nat, i + n = n0 → ∀ τ : bSt, (∀ a, a ≠ j → τ a = σ a) → (∀ k, k < i → τ j k = v) → V x w 4 (pU (b_set σ j (fun _ => v))) 5 [(2, .int (nI i)), (3, .int (nI n0)), (0, .ref (b_ad w j)), (1, .int v)] [] τ := by
  refine b_ind (fun n ih => ?_)
  intro i hin τ ho hk
  refine v_iload_n h (i := 2) dJ7_fill_53178_5 (q := 6) rfl rfl 0 rfl ?_
  refine v_iload_n h (i := 3) dJ7_fill_53178_6 (q := 7) rfl rfl 1 rfl ?_
  refine v_icmp_ge h (t := 20) dJ7_fill_53178_7 (by decide) (q := 10) rfl (fun c7 => ?_) (fun c7 => ?_)
  · have hi9 : n0 ≤ i := nge (nI_toInt hn0) (by omega) c7
    refine v_conv (bEq_i (σ2 := b_set σ j (fun _ => v)) (fun a ha2 => by rw [b_set_n ha2]; exact ho a ha2) ha (fun k hk2 => by rw [b_set_s]; exact hk k (by omega))) ?_
    exact v_vret h dJ7_fill_53178_20 ⟨rfl, rfl⟩
  · have hi9 : i < n0 := nlt (nI_toInt hn0) (by omega) c7
    refine v_aload_n h (i := 0) dJ7_fill_53178_10 (q := 11) rfl rfl 2 rfl ?_
    refine v_iload_n h (i := 2) dJ7_fill_53178_11 (q := 12) rfl rfl 0 rfl ?_
    refine v_iload_n h (i := 1) dJ7_fill_53178_12 (q := 13) rfl rfl 3 rfl ?_
    refine v_iast h (k := i) ha.1 ha.2 (vp_in_nI hi9 hn0) (nI_clamp (by omega)) dJ7_fill_53178_13 (q := 14) rfl ?_
    generalize eσ13 : b_up τ j i v = σ13
    refine v_iinc h (p := 0) (u := nI (i + 1)) (ls1 := [(2, .int (nI (i + 1))), (3, .int (nI n0)), (0, .ref (b_ad w j)), (1, .int v)]) dJ7_fill_53178_14 (q := 17) rfl rfl (nI_1 i) (Nat.le_of_ble_eq_true rfl) rfl ?_
    refine v_goto h (t := 5) dJ7_fill_53178_17 (by decide) ?_
    exact ih (n - 1) (by omega) (i + 1) (by omega) σ13 (fun a ha2 => by rw [← eσ13, b_up_n ha2]; exact ho a ha2) (fun k hk2 => by
      rw [← eσ13, b_up_s]
      by_cases e : k = i
      · rw [e]; exact if_pos rfl
      · exact (if_neg e).trans (hk k (by omega)))
set_option maxHeartbeats 4000000 in
set_option maxRecDepth 100000 in
theorem c_J7_fill_53178 {w : bw} {σ : bSt} {j n0 : Nat} {v : Int32} (ha : sI w j n0) (hn0 : n0 < 2 ^ 31) : MV yJ7_fill_53178 cJ7_fill_53178 4 none (rmm 0 0) w [.ref (b_ad w j), .int v] σ (pU (b_set σ j (fun _ => v))) := by
  refine b_met (ls := [(0, .ref (b_ad w j)), (1, .int v)]) (by decide) (Nat.le_of_ble_eq_true rfl) rfl (fun x h => ?_)
  refine v_iconst h (v := 0) dJ7_fill_53178_0 (q := 1) rfl (by decide) ?_
  refine v_istore_n h (i := 2) (ls1 := [(2, .int 0), (0, .ref (b_ad w j)), (1, .int v)]) dJ7_fill_53178_1 (q := 2) rfl rfl (Nat.le_of_ble_eq_true rfl) rfl ?_
  refine v_aload_n h (i := 0) dJ7_fill_53178_2 (q := 3) rfl rfl 1 rfl ?_
  refine v_aleni h (v := nI n0) ha.1 ha.2 rfl dJ7_fill_53178_3 (q := 4) rfl ?_
  refine v_istore_n h (i := 3) (ls1 := [(3, .int (nI n0)), (2, .int 0), (0, .ref (b_ad w j)), (1, .int v)]) dJ7_fill_53178_4 (q := 5) rfl rfl (Nat.le_of_ble_eq_true rfl) rfl ?_
  refine v_ls [1, 0, 2, 3] (ls2 := [(2, .int 0), (3, .int (nI n0)), (0, .ref (b_ad w j)), (1, .int v)]) rfl ?_
  exact lJ7_fill_53178_5 ha hn0 h n0 0 (by omega) σ (fun _ _ => rfl) (fun k hk => absurd hk (Nat.not_lt_zero k))

set_option maxHeartbeats 4000000 in
set_option maxRecDepth 100000 in
theorem c_X2_isThere {w : bw} {σ : bSt} {me : Nat} (hs : sFormula w me) : MV yX2_isThere cX2_isThere 1 (some .boolean) (rmm 0 0) w [.ref (b_ad w me)] σ (pB (0 < σ me 0) σ) := by
  refine b_met (ls := [(0, .ref (b_ad w me))]) (by decide) (Nat.le_of_ble_eq_true rfl) rfl (fun x h => ?_)
  refine v_aload_n h (i := 0) dX2_isThere_0 (q := 1) rfl rfl 0 rfl ?_
  refine v_get h (k := 0) (v := .int (σ me 0)) cls2 hs.1.1 hs.1.2 (Nat.le_of_ble_eq_true rfl) m41 rfl dX2_isThere_1 (q := 4) rfl ?_
  refine v_if_le h (t := 11) dX2_isThere_4 (by decide) (q := 7) rfl (fun c4 => ?_) (fun c4 => ?_)
  · refine v_iconst h (v := 0) dX2_isThere_11 (q := 12) rfl (by decide) ?_
    exact v_zret h rfl dX2_isThere_12 (pB0 (by first | assumption | simp_all))
  · refine v_iconst h (v := 1) dX2_isThere_7 (q := 8) rfl (by decide) ?_
    refine v_goto h (t := 12) dX2_isThere_8 (by decide) ?_
    exact v_zret h rfl dX2_isThere_12 (pB1 (by first | assumption | exact ⟨by assumption, by assumption⟩ | simp_all))

set_option maxHeartbeats 4000000 in
set_option maxRecDepth 100000 in
theorem c_X2_copy {w : bw} {σ : bSt} {me o : Nat} (hs : sFormula w me) (ht : sFormula w o) (hd : me + 2 ≤ o ∨ o + 2 ≤ me) : MV yX2_copy cX2_copy 2 none (rmm 1 40) w [.ref (b_ad w me), .ref (b_ad w o)] σ (pU (blk σ me o 2)) := by
  refine b_met (ls := [(0, .ref (b_ad w me)), (1, .ref (b_ad w o))]) (by decide) (Nat.le_of_ble_eq_true rfl) rfl (fun x h => ?_)
  refine v_aload_n h (i := 0) dX2_copy_0 (q := 1) rfl rfl 0 rfl ?_
  refine v_aload_n h (i := 1) dX2_copy_1 (q := 2) rfl rfl 1 rfl ?_
  refine v_get h (k := 0) (v := .int (σ o 0)) cls2 ht.1.1 ht.1.2 (Nat.le_of_ble_eq_true rfl) m41 rfl dX2_copy_2 (q := 5) rfl ?_
  refine v_put h (k := 0) cls2 hs.1.1 hs.1.2 (Nat.le_of_ble_eq_true rfl) rfl m41 rfl ⟨rfl, rfl⟩ dX2_copy_5 (q := 8) rfl ?_
  refine v_aload_n h (i := 1) dX2_copy_8 (q := 9) rfl rfl 1 rfl ?_
  refine v_get h (k := 1) (v := .ref (b_ad w (o + 1))) cls2 ht.1.1 ht.1.2 (Nat.le_of_ble_eq_true rfl) m43 rfl dX2_copy_9 (q := 12) rfl ?_
  refine v_iconst h (v := 0) dX2_copy_12 (q := 13) rfl (by decide) ?_
  refine v_aload_n h (i := 0) dX2_copy_13 (q := 14) rfl rfl 0 rfl ?_
  refine v_get h (k := 1) (v := .ref (b_ad w (me + 1))) cls2 hs.1.1 hs.1.2 (Nat.le_of_ble_eq_true rfl) m43 rfl dX2_copy_14 (q := 17) rfl ?_
  refine v_iconst h (v := 0) dX2_copy_17 (q := 18) rfl (by decide) ?_
  refine v_bipush h (v := 50) dX2_copy_18 (q := 20) rfl (by decide) ?_
  refine v_acopyF h ht.2.1 hs.2.1 m540 m482 m481 m15 rfl rfl (by decide) rfl ⟨Nat.le_of_ble_eq_true rfl, Nat.le_of_ble_eq_true rfl⟩ dX2_copy_20 (q := 23) rfl ?_
  refine v_conv (σ2 := blk σ me o 2) (bEq_o (j0 := me) (fun j hj => by
    by_cases e1 : j = me + 1
    · subst e1
      rw [b_set_s, b_up_n (by omega), blk_at (by omega)]
    · rw [b_set_n e1, b_up_n hj, blk_out (by omega)]) hs.1 (fun k hk hr => by
    rw [rF_n hk hr, b_set_n (by omega), b_up_s, blk_0 (by omega)]
    exact upd_s)) ?_
  exact v_vret h dX2_copy_23 ⟨rfl, rfl⟩

set_option maxHeartbeats 4000000 in
set_option maxRecDepth 100000 in
theorem c_X2_joined {w : bw} {σ : bSt} {sign a b : Int32}  : MV yX2_joined cX2_joined 3 (some .int) (rmm 0 0) w [.int sign, .int a, .int b] σ (pI (jnC sign a b) σ) := by
  refine b_met (ls := [(0, .int sign), (1, .int a), (2, .int b)]) (by decide) (Nat.le_of_ble_eq_true rfl) rfl (fun x h => ?_)
  refine v_iload_n h (i := 0) dX2_joined_0 (q := 1) rfl rfl 0 rfl ?_
  by_cases e1_37 : sign = (37 : Int32)
  · refine v_lookup h (off := 176) (t := 177) dX2_joined_1 rfl (by rw [e1_37]; rfl) (by decide) ?_
    refine v_iload_n h (i := 2) dX2_joined_177 (q := 178) rfl rfl 2 rfl ?_
    refine v_if_ne h (t := 185) dX2_joined_178 (by decide) (q := 181) rfl (fun c178 => ?_) (fun c178 => ?_)
    · refine v_iload_n h (i := 1) dX2_joined_185 (q := 186) rfl rfl 1 rfl ?_
      refine v_iload_n h (i := 2) dX2_joined_186 (q := 187) rfl rfl 2 rfl ?_
      refine v_irem h dX2_joined_187 (q := 188) rfl c178 ?_
      exact v_iret h dX2_joined_188 ⟨by unfold jnC; simp [*, irm], rfl⟩
    · refine v_iconst h (v := 0) dX2_joined_181 (q := 182) rfl (by decide) ?_
      refine v_goto h (t := 188) dX2_joined_182 (by decide) ?_
      exact v_iret h dX2_joined_188 ⟨by unfold jnC; simp [*, irm], rfl⟩
  by_cases e1_38 : sign = (38 : Int32)
  · refine v_lookup h (off := 105) (t := 106) dX2_joined_1 rfl (by rw [e1_38]; rfl) (by decide) ?_
    refine v_iload_n h (i := 1) dX2_joined_106 (q := 107) rfl rfl 1 rfl ?_
    refine v_if_eq h (t := 118) dX2_joined_107 (by decide) (q := 110) rfl (fun c107 => ?_) (fun c107 => ?_)
    · refine v_iconst h (v := 0) dX2_joined_118 (q := 119) rfl (by decide) ?_
      exact v_iret h dX2_joined_119 ⟨by unfold jnC; simp [*, irm], rfl⟩
    · refine v_iload_n h (i := 2) dX2_joined_110 (q := 111) rfl rfl 2 rfl ?_
      refine v_if_eq h (t := 118) dX2_joined_111 (by decide) (q := 114) rfl (fun c111 => ?_) (fun c111 => ?_)
      · refine v_iconst h (v := 0) dX2_joined_118 (q := 119) rfl (by decide) ?_
        exact v_iret h dX2_joined_119 ⟨by unfold jnC; simp [*, irm], rfl⟩
      · refine v_iconst h (v := 1) dX2_joined_114 (q := 115) rfl (by decide) ?_
        refine v_goto h (t := 119) dX2_joined_115 (by decide) ?_
        exact v_iret h dX2_joined_119 ⟨by unfold jnC; simp [*, irm], rfl⟩
  by_cases e1_42 : sign = (42 : Int32)
  · refine v_lookup h (off := 160) (t := 161) dX2_joined_1 rfl (by rw [e1_42]; rfl) (by decide) ?_
    refine v_iload_n h (i := 1) dX2_joined_161 (q := 162) rfl rfl 1 rfl ?_
    refine v_iload_n h (i := 2) dX2_joined_162 (q := 163) rfl rfl 2 rfl ?_
    refine v_imul h dX2_joined_163 (q := 164) rfl ?_
    exact v_iret h dX2_joined_164 ⟨by unfold jnC; simp [*, irm], rfl⟩
  by_cases e1_43 : sign = (43 : Int32)
  · refine v_lookup h (off := 152) (t := 153) dX2_joined_1 rfl (by rw [e1_43]; rfl) (by decide) ?_
    refine v_iload_n h (i := 1) dX2_joined_153 (q := 154) rfl rfl 1 rfl ?_
    refine v_iload_n h (i := 2) dX2_joined_154 (q := 155) rfl rfl 2 rfl ?_
    refine v_iadd h dX2_joined_155 (q := 156) rfl ?_
    exact v_iret h dX2_joined_156 ⟨by unfold jnC; simp [*, irm], rfl⟩
  by_cases e1_45 : sign = (45 : Int32)
  · refine v_lookup h (off := 156) (t := 157) dX2_joined_1 rfl (by rw [e1_45]; rfl) (by decide) ?_
    refine v_iload_n h (i := 1) dX2_joined_157 (q := 158) rfl rfl 1 rfl ?_
    refine v_iload_n h (i := 2) dX2_joined_158 (q := 159) rfl rfl 2 rfl ?_
    refine v_isub h dX2_joined_159 (q := 160) rfl ?_
    exact v_iret h dX2_joined_160 ⟨by unfold jnC; simp [*, irm], rfl⟩
  by_cases e1_47 : sign = (47 : Int32)
  · refine v_lookup h (off := 164) (t := 165) dX2_joined_1 rfl (by rw [e1_47]; rfl) (by decide) ?_
    refine v_iload_n h (i := 2) dX2_joined_165 (q := 166) rfl rfl 2 rfl ?_
    refine v_if_ne h (t := 173) dX2_joined_166 (by decide) (q := 169) rfl (fun c166 => ?_) (fun c166 => ?_)
    · refine v_iload_n h (i := 1) dX2_joined_173 (q := 174) rfl rfl 1 rfl ?_
      refine v_iload_n h (i := 2) dX2_joined_174 (q := 175) rfl rfl 2 rfl ?_
      refine v_idiv h dX2_joined_175 (q := 176) rfl c166 ?_
      exact v_iret h dX2_joined_176 ⟨by unfold jnC; simp [*, irm], rfl⟩
    · refine v_iconst h (v := 0) dX2_joined_169 (q := 170) rfl (by decide) ?_
      refine v_goto h (t := 176) dX2_joined_170 (by decide) ?_
      exact v_iret h dX2_joined_176 ⟨by unfold jnC; simp [*, irm], rfl⟩
  by_cases e1_60 : sign = (60 : Int32)
  · refine v_lookup h (off := 119) (t := 120) dX2_joined_1 rfl (by rw [e1_60]; rfl) (by decide) ?_
    refine v_iload_n h (i := 1) dX2_joined_120 (q := 121) rfl rfl 1 rfl ?_
    refine v_iload_n h (i := 2) dX2_joined_121 (q := 122) rfl rfl 2 rfl ?_
    refine v_icmp_ge h (t := 129) dX2_joined_122 (by decide) (q := 125) rfl (fun c122 => ?_) (fun c122 => ?_)
    · refine v_iconst h (v := 0) dX2_joined_129 (q := 130) rfl (by decide) ?_
      exact v_iret h dX2_joined_130 ⟨by unfold jnC; simp [*, irm], rfl⟩
    · refine v_iconst h (v := 1) dX2_joined_125 (q := 126) rfl (by decide) ?_
      refine v_goto h (t := 130) dX2_joined_126 (by decide) ?_
      exact v_iret h dX2_joined_130 ⟨by unfold jnC; simp [*, irm], rfl⟩
  by_cases e1_61 : sign = (61 : Int32)
  · refine v_lookup h (off := 130) (t := 131) dX2_joined_1 rfl (by rw [e1_61]; rfl) (by decide) ?_
    refine v_iload_n h (i := 1) dX2_joined_131 (q := 132) rfl rfl 1 rfl ?_
    refine v_iload_n h (i := 2) dX2_joined_132 (q := 133) rfl rfl 2 rfl ?_
    refine v_icmp_ne h (t := 140) dX2_joined_133 (by decide) (q := 136) rfl (fun c133 => ?_) (fun c133 => ?_)
    · refine v_iconst h (v := 0) dX2_joined_140 (q := 141) rfl (by decide) ?_
      exact v_iret h dX2_joined_141 ⟨by unfold jnC; simp [*, irm], rfl⟩
    · refine v_iconst h (v := 1) dX2_joined_136 (q := 137) rfl (by decide) ?_
      refine v_goto h (t := 141) dX2_joined_137 (by decide) ?_
      exact v_iret h dX2_joined_141 ⟨by unfold jnC; simp [*, irm], rfl⟩
  by_cases e1_62 : sign = (62 : Int32)
  · refine v_lookup h (off := 141) (t := 142) dX2_joined_1 rfl (by rw [e1_62]; rfl) (by decide) ?_
    refine v_iload_n h (i := 1) dX2_joined_142 (q := 143) rfl rfl 1 rfl ?_
    refine v_iload_n h (i := 2) dX2_joined_143 (q := 144) rfl rfl 2 rfl ?_
    refine v_icmp_le h (t := 151) dX2_joined_144 (by decide) (q := 147) rfl (fun c144 => ?_) (fun c144 => ?_)
    · refine v_iconst h (v := 0) dX2_joined_151 (q := 152) rfl (by decide) ?_
      exact v_iret h dX2_joined_152 ⟨by unfold jnC; simp [*, irm], rfl⟩
    · refine v_iconst h (v := 1) dX2_joined_147 (q := 148) rfl (by decide) ?_
      refine v_goto h (t := 152) dX2_joined_148 (by decide) ?_
      exact v_iret h dX2_joined_152 ⟨by unfold jnC; simp [*, irm], rfl⟩
  by_cases e1_124 : sign = (124 : Int32)
  · refine v_lookup h (off := 91) (t := 92) dX2_joined_1 rfl (by rw [e1_124]; rfl) (by decide) ?_
    refine v_iload_n h (i := 1) dX2_joined_92 (q := 93) rfl rfl 1 rfl ?_
    refine v_if_ne h (t := 100) dX2_joined_93 (by decide) (q := 96) rfl (fun c93 => ?_) (fun c93 => ?_)
    · refine v_iconst h (v := 1) dX2_joined_100 (q := 101) rfl (by decide) ?_
      refine v_goto h (t := 105) dX2_joined_101 (by decide) ?_
      exact v_iret h dX2_joined_105 ⟨by unfold jnC; simp [*, irm], rfl⟩
    · refine v_iload_n h (i := 2) dX2_joined_96 (q := 97) rfl rfl 2 rfl ?_
      refine v_if_eq h (t := 104) dX2_joined_97 (by decide) (q := 100) rfl (fun c97 => ?_) (fun c97 => ?_)
      · refine v_iconst h (v := 0) dX2_joined_104 (q := 105) rfl (by decide) ?_
        exact v_iret h dX2_joined_105 ⟨by unfold jnC; simp [*, irm], rfl⟩
      · refine v_iconst h (v := 1) dX2_joined_100 (q := 101) rfl (by decide) ?_
        refine v_goto h (t := 105) dX2_joined_101 (by decide) ?_
        exact v_iret h dX2_joined_105 ⟨by unfold jnC; simp [*, irm], rfl⟩
  have e1_37i := sw_ne e1_37 (z := 37) (by decide)
  have e1_38i := sw_ne e1_38 (z := 38) (by decide)
  have e1_42i := sw_ne e1_42 (z := 42) (by decide)
  have e1_43i := sw_ne e1_43 (z := 43) (by decide)
  have e1_45i := sw_ne e1_45 (z := 45) (by decide)
  have e1_47i := sw_ne e1_47 (z := 47) (by decide)
  have e1_60i := sw_ne e1_60 (z := 60) (by decide)
  have e1_61i := sw_ne e1_61 (z := 61) (by decide)
  have e1_62i := sw_ne e1_62 (z := 62) (by decide)
  have e1_124i := sw_ne e1_124 (z := 124) (by decide)
  refine v_lookup h (off := 188) (t := 189) dX2_joined_1 rfl (by show Op.lookupswitch.offset [(37, 176), (38, 105), (42, 160), (43, 152), (45, 156), (47, 164), (60, 119), (61, 130), (62, 141), (124, 91)] 188 _ = 188; rw [Op.lookupswitch.offset_cons, if_neg (fun q => e1_37i q.symm), Op.lookupswitch.offset_cons, if_neg (fun q => e1_38i q.symm), Op.lookupswitch.offset_cons, if_neg (fun q => e1_42i q.symm), Op.lookupswitch.offset_cons, if_neg (fun q => e1_43i q.symm), Op.lookupswitch.offset_cons, if_neg (fun q => e1_45i q.symm), Op.lookupswitch.offset_cons, if_neg (fun q => e1_47i q.symm), Op.lookupswitch.offset_cons, if_neg (fun q => e1_60i q.symm), Op.lookupswitch.offset_cons, if_neg (fun q => e1_61i q.symm), Op.lookupswitch.offset_cons, if_neg (fun q => e1_62i q.symm), Op.lookupswitch.offset_cons, if_neg (fun q => e1_124i q.symm)]; rfl) (by decide) ?_
  refine v_iconst h (v := 0) dX2_joined_189 (q := 190) rfl (by decide) ?_
  exact v_iret h dX2_joined_190 ⟨by unfold jnC; simp [*, irm], rfl⟩
