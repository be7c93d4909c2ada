theorem len6 {L i : Nat} (hL : L ≤ 3072) (hi : i ≤ L) (h : ¬ Int32.ofNat L - 6 < nI i) : i + 6 ≤ L := by
  rcases Nat.lt_or_ge L 6 with z | z
  · have k : ∀ L : Nat, L < 6 → (Int32.ofNat L - 6).toInt < 0 := by decide +kernel
    refine absurd ?_ h
    rw [i_lt, nI_toInt (by omega)]
    have := k L z
    omega
  · have e : (Int32.ofNat L - 6 : Int32) = nI (L - 6) := nI_sub 6 z
    rw [e, i_lt, nI_toInt (by omega), nI_toInt (by omega)] at h
    omega
set_option maxHeartbeats 4000000 in
set_option maxRecDepth 100000 in
theorem law_loop {x : bX} {u1 u2 : bw} {D : va_G} {kd : Nat → ClassId} {ad : bAd} {B L b : Nat} {xs : Nat → Int32} {C S : Nat} {Q : State → Prop} (h : CL x u1 u2 D kd ad B L b xs C S) (hs : sOpera u1) (hm : sModel u2)
    (hend : ∀ (σ τ : bSt) (ls : List (Nat × Value)), VL x u1 u2 B C S Q 1562 ls [] σ τ) : ∀ n i : Nat, i + n = L → ∀ (σ τ : bSt) (A : bA), RC σ A → RQ τ A → VL x u1 u2 B C S Q 18 [(3, .int (nI i)), (2, .ref (b_ad u2 0)), (1, .ref (b_ad u1 0)), (0, .ref b)] [] σ τ := by
  refine b_ind (fun n ih => ?_)
  intro i hin σ τ A hR hQ
  have hL := h.2.2.2.2.2.2.2.2
  refine l_iload_n h.1 (i := 3) dL_law_18 (q := 19) rfl rfl 0 rfl ?_
  refine l_aload_n h.1 (i := 0) dL_law_19 (q := 20) rfl rfl 3 rfl ?_
  refine l_slen h.1 h.2.2.2.2.1 h.2.2.2.2.2.1 h.2.2.2.2.2.2.1 dL_law_20 (q := 21) rfl ?_
  refine l_bipush h.1 (v := 6) dL_law_21 (q := 23) rfl (by decide) ?_
  refine l_isub h.1 dL_law_23 (q := 24) rfl ?_
  refine l_icmp_gt h.1 (t := 1562) dL_law_24 (by decide) (q := 27) rfl (fun _ => hend σ τ _) (fun c => ?_)
  have hi : i + 6 ≤ L := len6 hL (by omega) c
  have kk : ∀ (σ' τ' : bSt) (A' : bA), RC σ' A' → RQ τ' A' → VL x u1 u2 B C S Q 1556 [(3, .int (nI i)), (2, .ref (b_ad u2 0)), (1, .ref (b_ad u1 0)), (0, .ref b)] [] σ' τ' := fun σ' τ' A' g1 g2 => by
    refine l_iinc h.1 (p := 0) (u := nI (i + 6)) (ls1 := [(3, .int (nI (i + 6))), (2, .ref (b_ad u2 0)), (1, .ref (b_ad u1 0)), (0, .ref b)]) dL_law_1556 (q := 1559) rfl rfl (nI_add i 6) (by decide) rfl ?_
    refine l_goto h.1 (t := 18) dL_law_1559 (by decide) ?_
    exact ih (n - 6) (by omega) (i + 6) (by omega) σ' τ' A' g1 g2
  refine l_aload_n h.1 (i := 0) dL_law_27 (q := 28) rfl rfl 3 rfl ?_
  refine l_iload_n h.1 (i := 3) dL_law_28 (q := 29) rfl rfl 0 rfl ?_
  refine l_sld h.1 (k := i) h.2.2.2.2.1 h.2.2.2.2.2.1 h.2.2.2.2.2.2.1 (vp_in_nI (by omega) (by omega)) (nI_clamp (by omega)) dL_law_29 (q := 30) rfl ?_
  refine l_bipush h.1 (v := 63) dL_law_30 (q := 32) rfl (by decide) ?_
  refine l_iand h.1 dL_law_32 (q := 33) rfl ?_
  generalize xs i &&& 63 = op
  by_cases e0 : op = (0 : Int32)
  · refine l_tableIn h.1 (off := 179) (t := 212) dL_law_33 (by rw [e0]; decide) (by rw [e0]; decide) (by rw [e0]; rfl) (by decide) ?_
    exact law_0 h hs hm hR hQ hi kk
  by_cases e1 : op = (1 : Int32)
  · refine l_tableIn h.1 (off := 212) (t := 245) dL_law_33 (by rw [e1]; decide) (by rw [e1]; decide) (by rw [e1]; rfl) (by decide) ?_
    exact law_1 h hs hm hR hQ hi kk
  by_cases e2 : op = (2 : Int32)
  · refine l_tableIn h.1 (off := 235) (t := 268) dL_law_33 (by rw [e2]; decide) (by rw [e2]; decide) (by rw [e2]; rfl) (by decide) ?_
    exact law_2 h hs hm hR hQ hi kk
  by_cases e3 : op = (3 : Int32)
  · refine l_tableIn h.1 (off := 268) (t := 301) dL_law_33 (by rw [e3]; decide) (by rw [e3]; decide) (by rw [e3]; rfl) (by decide) ?_
    exact law_3 h hs hm hR hQ hi kk
  by_cases e4 : op = (4 : Int32)
  · refine l_tableIn h.1 (off := 301) (t := 334) dL_law_33 (by rw [e4]; decide) (by rw [e4]; decide) (by rw [e4]; rfl) (by decide) ?_
    exact law_4 h hs hm hR hQ hi kk
  by_cases e5 : op = (5 : Int32)
  · refine l_tableIn h.1 (off := 344) (t := 377) dL_law_33 (by rw [e5]; decide) (by rw [e5]; decide) (by rw [e5]; rfl) (by decide) ?_
    exact law_5 h hs hm hR hQ hi kk
  by_cases e6 : op = (6 : Int32)
  · refine l_tableIn h.1 (off := 377) (t := 410) dL_law_33 (by rw [e6]; decide) (by rw [e6]; decide) (by rw [e6]; rfl) (by decide) ?_
    exact law_6 h hs hm hR hQ hi kk
  by_cases e7 : op = (7 : Int32)
  · refine l_tableIn h.1 (off := 410) (t := 443) dL_law_33 (by rw [e7]; decide) (by rw [e7]; decide) (by rw [e7]; rfl) (by decide) ?_
    exact law_7 h hs hm hR hQ hi kk
  by_cases e8 : op = (8 : Int32)
  · refine l_tableIn h.1 (off := 443) (t := 476) dL_law_33 (by rw [e8]; decide) (by rw [e8]; decide) (by rw [e8]; rfl) (by decide) ?_
    exact law_8 h hs hm hR hQ hi kk
  by_cases e9 : op = (9 : Int32)
  · refine l_tableIn h.1 (off := 466) (t := 499) dL_law_33 (by rw [e9]; decide) (by rw [e9]; decide) (by rw [e9]; rfl) (by decide) ?_
    exact law_9 h hs hm hR hQ hi kk
  by_cases e10 : op = (10 : Int32)
  · refine l_tableIn h.1 (off := 499) (t := 532) dL_law_33 (by rw [e10]; decide) (by rw [e10]; decide) (by rw [e10]; rfl) (by decide) ?_
    exact law_10 h hs hm hR hQ hi kk
  by_cases e11 : op = (11 : Int32)
  · refine l_tableIn h.1 (off := 532) (t := 565) dL_law_33 (by rw [e11]; decide) (by rw [e11]; decide) (by rw [e11]; rfl) (by decide) ?_
    exact law_11 h hs hm hR hQ hi kk
  by_cases e12 : op = (12 : Int32)
  · refine l_tableIn h.1 (off := 595) (t := 628) dL_law_33 (by rw [e12]; decide) (by rw [e12]; decide) (by rw [e12]; rfl) (by decide) ?_
    exact law_12 h hs hm hR hQ hi kk
  by_cases e13 : op = (13 : Int32)
  · refine l_tableIn h.1 (off := 618) (t := 651) dL_law_33 (by rw [e13]; decide) (by rw [e13]; decide) (by rw [e13]; rfl) (by decide) ?_
    exact law_13 h hs hm hR hQ hi kk
  by_cases e14 : op = (14 : Int32)
  · refine l_tableIn h.1 (off := 671) (t := 704) dL_law_33 (by rw [e14]; decide) (by rw [e14]; decide) (by rw [e14]; rfl) (by decide) ?_
    exact law_14 h hs hm hR hQ hi kk
  by_cases e15 : op = (15 : Int32)
  · refine l_tableIn h.1 (off := 694) (t := 727) dL_law_33 (by rw [e15]; decide) (by rw [e15]; decide) (by rw [e15]; rfl) (by decide) ?_
    exact law_15 h hs hm hR hQ hi kk
  by_cases e16 : op = (16 : Int32)
  · refine l_tableIn h.1 (off := 717) (t := 750) dL_law_33 (by rw [e16]; decide) (by rw [e16]; decide) (by rw [e16]; rfl) (by decide) ?_
    exact law_16 h hs hm hR hQ hi kk
  by_cases e17 : op = (17 : Int32)
  · refine l_tableIn h.1 (off := 750) (t := 783) dL_law_33 (by rw [e17]; decide) (by rw [e17]; decide) (by rw [e17]; rfl) (by decide) ?_
    exact law_17 h hs hm hR hQ hi kk
  by_cases e18 : op = (18 : Int32)
  · refine l_tableIn h.1 (off := 793) (t := 826) dL_law_33 (by rw [e18]; decide) (by rw [e18]; decide) (by rw [e18]; rfl) (by decide) ?_
    exact law_18 h hs hm hR hQ hi kk
  by_cases e19 : op = (19 : Int32)
  · refine l_tableIn h.1 (off := 826) (t := 859) dL_law_33 (by rw [e19]; decide) (by rw [e19]; decide) (by rw [e19]; rfl) (by decide) ?_
    exact law_19 h hs hm hR hQ hi kk
  by_cases e20 : op = (20 : Int32)
  · refine l_tableIn h.1 (off := 849) (t := 882) dL_law_33 (by rw [e20]; decide) (by rw [e20]; decide) (by rw [e20]; rfl) (by decide) ?_
    exact law_20 h hs hm hR hQ hi kk
  by_cases e21 : op = (21 : Int32)
  · refine l_tableIn h.1 (off := 873) (t := 906) dL_law_33 (by rw [e21]; decide) (by rw [e21]; decide) (by rw [e21]; rfl) (by decide) ?_
    exact law_21 h hs hm hR hQ hi kk
  by_cases e22 : op = (22 : Int32)
  · refine l_tableIn h.1 (off := 916) (t := 949) dL_law_33 (by rw [e22]; decide) (by rw [e22]; decide) (by rw [e22]; rfl) (by decide) ?_
    exact law_22 h hs hm hR hQ hi kk
  by_cases e23 : op = (23 : Int32)
  · refine l_tableIn h.1 (off := 959) (t := 992) dL_law_33 (by rw [e23]; decide) (by rw [e23]; decide) (by rw [e23]; rfl) (by decide) ?_
    exact law_23 h hs hm hR hQ hi kk
  by_cases e24 : op = (24 : Int32)
  · refine l_tableIn h.1 (off := 992) (t := 1025) dL_law_33 (by rw [e24]; decide) (by rw [e24]; decide) (by rw [e24]; rfl) (by decide) ?_
    exact law_24 h hs hm hR hQ hi kk
  by_cases e25 : op = (25 : Int32)
  · refine l_tableIn h.1 (off := 1025) (t := 1058) dL_law_33 (by rw [e25]; decide) (by rw [e25]; decide) (by rw [e25]; rfl) (by decide) ?_
    exact law_25 h hs hm hR hQ hi kk
  by_cases e26 : op = (26 : Int32)
  · refine l_tableIn h.1 (off := 1068) (t := 1101) dL_law_33 (by rw [e26]; decide) (by rw [e26]; decide) (by rw [e26]; rfl) (by decide) ?_
    exact law_26 h hs hm hR hQ hi kk
  by_cases e27 : op = (27 : Int32)
  · refine l_tableIn h.1 (off := 1101) (t := 1134) dL_law_33 (by rw [e27]; decide) (by rw [e27]; decide) (by rw [e27]; rfl) (by decide) ?_
    exact law_27 h hs hm hR hQ hi kk
  by_cases e28 : op = (28 : Int32)
  · refine l_tableIn h.1 (off := 1124) (t := 1157) dL_law_33 (by rw [e28]; decide) (by rw [e28]; decide) (by rw [e28]; rfl) (by decide) ?_
    exact law_28 h hs hm hR hQ hi kk
  by_cases e29 : op = (29 : Int32)
  · refine l_tableIn h.1 (off := 1167) (t := 1200) dL_law_33 (by rw [e29]; decide) (by rw [e29]; decide) (by rw [e29]; rfl) (by decide) ?_
    exact law_29 h hs hm hR hQ hi kk
  by_cases e30 : op = (30 : Int32)
  · refine l_tableIn h.1 (off := 1190) (t := 1223) dL_law_33 (by rw [e30]; decide) (by rw [e30]; decide) (by rw [e30]; rfl) (by decide) ?_
    exact law_30 h hs hm hR hQ hi kk
  by_cases e31 : op = (31 : Int32)
  · refine l_tableIn h.1 (off := 1233) (t := 1266) dL_law_33 (by rw [e31]; decide) (by rw [e31]; decide) (by rw [e31]; rfl) (by decide) ?_
    exact law_31 h hs hm hR hQ hi kk
  by_cases e32 : op = (32 : Int32)
  · refine l_tableIn h.1 (off := 1276) (t := 1309) dL_law_33 (by rw [e32]; decide) (by rw [e32]; decide) (by rw [e32]; rfl) (by decide) ?_
    exact law_32 h hs hm hR hQ hi kk
  by_cases e33 : op = (33 : Int32)
  · refine l_tableIn h.1 (off := 1339) (t := 1372) dL_law_33 (by rw [e33]; decide) (by rw [e33]; decide) (by rw [e33]; rfl) (by decide) ?_
    exact law_33 h hs hm hR hQ hi kk
  by_cases e34 : op = (34 : Int32)
  · refine l_tableIn h.1 (off := 1372) (t := 1405) dL_law_33 (by rw [e34]; decide) (by rw [e34]; decide) (by rw [e34]; rfl) (by decide) ?_
    exact law_34 h hs hm hR hQ hi kk
  by_cases e35 : op = (35 : Int32)
  · refine l_tableIn h.1 (off := 1405) (t := 1438) dL_law_33 (by rw [e35]; decide) (by rw [e35]; decide) (by rw [e35]; rfl) (by decide) ?_
    exact law_35 h hs hm hR hQ hi kk
  by_cases e36 : op = (36 : Int32)
  · refine l_tableIn h.1 (off := 1418) (t := 1451) dL_law_33 (by rw [e36]; decide) (by rw [e36]; decide) (by rw [e36]; rfl) (by decide) ?_
    exact law_36 h hs hm hR hQ hi kk
  by_cases e37 : op = (37 : Int32)
  · refine l_tableIn h.1 (off := 1431) (t := 1464) dL_law_33 (by rw [e37]; decide) (by rw [e37]; decide) (by rw [e37]; rfl) (by decide) ?_
    exact law_37 h hs hm hR hQ hi kk
  by_cases e38 : op = (38 : Int32)
  · refine l_tableIn h.1 (off := 1454) (t := 1487) dL_law_33 (by rw [e38]; decide) (by rw [e38]; decide) (by rw [e38]; rfl) (by decide) ?_
    exact law_38 h hs hm hR hQ hi kk
  by_cases e39 : op = (39 : Int32)
  · refine l_tableIn h.1 (off := 1477) (t := 1510) dL_law_33 (by rw [e39]; decide) (by rw [e39]; decide) (by rw [e39]; rfl) (by decide) ?_
    exact law_39 h hs hm hR hQ hi kk
  by_cases e40 : op = (40 : Int32)
  · refine l_tableIn h.1 (off := 1500) (t := 1533) dL_law_33 (by rw [e40]; decide) (by rw [e40]; decide) (by rw [e40]; rfl) (by decide) ?_
    exact law_40 h hs hm hR hQ hi kk
  have i0 := sw_ne e0 (z := 0) (by decide)
  have i1 := sw_ne e1 (z := 1) (by decide)
  have i2 := sw_ne e2 (z := 2) (by decide)
  have i3 := sw_ne e3 (z := 3) (by decide)
  have i4 := sw_ne e4 (z := 4) (by decide)
  have i5 := sw_ne e5 (z := 5) (by decide)
  have i6 := sw_ne e6 (z := 6) (by decide)
  have i7 := sw_ne e7 (z := 7) (by decide)
  have i8 := sw_ne e8 (z := 8) (by decide)
  have i9 := sw_ne e9 (z := 9) (by decide)
  have i10 := sw_ne e10 (z := 10) (by decide)
  have i11 := sw_ne e11 (z := 11) (by decide)
  have i12 := sw_ne e12 (z := 12) (by decide)
  have i13 := sw_ne e13 (z := 13) (by decide)
  have i14 := sw_ne e14 (z := 14) (by decide)
  have i15 := sw_ne e15 (z := 15) (by decide)
  have i16 := sw_ne e16 (z := 16) (by decide)
  have i17 := sw_ne e17 (z := 17) (by decide)
  have i18 := sw_ne e18 (z := 18) (by decide)
  have i19 := sw_ne e19 (z := 19) (by decide)
  have i20 := sw_ne e20 (z := 20) (by decide)
  have i21 := sw_ne e21 (z := 21) (by decide)
  have i22 := sw_ne e22 (z := 22) (by decide)
  have i23 := sw_ne e23 (z := 23) (by decide)
  have i24 := sw_ne e24 (z := 24) (by decide)
  have i25 := sw_ne e25 (z := 25) (by decide)
  have i26 := sw_ne e26 (z := 26) (by decide)
  have i27 := sw_ne e27 (z := 27) (by decide)
  have i28 := sw_ne e28 (z := 28) (by decide)
  have i29 := sw_ne e29 (z := 29) (by decide)
  have i30 := sw_ne e30 (z := 30) (by decide)
  have i31 := sw_ne e31 (z := 31) (by decide)
  have i32 := sw_ne e32 (z := 32) (by decide)
  have i33 := sw_ne e33 (z := 33) (by decide)
  have i34 := sw_ne e34 (z := 34) (by decide)
  have i35 := sw_ne e35 (z := 35) (by decide)
  have i36 := sw_ne e36 (z := 36) (by decide)
  have i37 := sw_ne e37 (z := 37) (by decide)
  have i38 := sw_ne e38 (z := 38) (by decide)
  have i39 := sw_ne e39 (z := 39) (by decide)
  have i40 := sw_ne e40 (z := 40) (by decide)
  refine l_tableOut h.1 (t := 1556) dL_law_33 (by omega) (by decide) ?_
  exact kk σ τ A hR hQ
theorem l_end {x : bX} {u1 u2 : bw} {B C S : Nat} {below : List Frame} {s : State} {b : Nat} {Z : State → Prop}
    (hx : x.1.tables.exec = Jvm.exec) (hb : x.2.2.2.2.2.2.2.2.2.code = cL_law) (hB : x.2.2.2.2.1.heap.size ≤ B) (hC : C ≤ 600000) (hS0 : S ≤ 7302250)
    (hz : ∀ (H : Heap) (lo : Array Slot), W x.1 x.2.1 x.2.2.1 x.2.2.2.1 x.2.2.2.2.1 x.2.2.2.2.2.1 x.2.2.2.2.2.2.1 x.2.2.2.2.2.2.2.1 x.2.2.2.2.2.2.2.2.1 x.2.2.2.2.2.2.2.2.2 H [] 600000 7302250 Z (F0 x.2.2.2.2.2.1 1563 lo [.int 1])) (σ τ : bSt) (ls : List (Nat × Value)) : VL x u1 u2 B C S Z 1562 ls [] σ τ := fun H locs lo p1 p2 hS hL =>
  lv_iconst hx hb dL_law_1562 (v := 1) (by decide) (va_forget (fun q hq => Nat.le_trans hB (hS.2.2 q hq)) (W.widen (k := 600000) (n := 7302250) hC hS0 (hz H lo)))
