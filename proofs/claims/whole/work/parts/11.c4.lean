theorem nnle {m : Int32} {k b : Nat} (hm : m.toInt = k) (hb : b < k) (hk : k < 2 ^ 31) : ¬ m ≤ nI b := by
  rw [i_le, hm, nI_toInt (by omega)]
  omega
theorem nltl {m : Int32} {k b : Nat} (hm : m.toInt = k) (hb : b < k) (hk : k < 2 ^ 31) : nI b < m := by
  rw [i_lt, hm, nI_toInt (by omega)]
  omega
theorem nlel {m : Int32} {k b : Nat} (hm : m.toInt = k) (hb : b ≤ k) (hk : k < 2 ^ 31) : nI b ≤ m := by
  rw [i_le, hm, nI_toInt (by omega)]
  omega
theorem nnltl {m : Int32} {k b : Nat} (hm : m.toInt = k) (hb : k ≤ b) (hk : b < 2 ^ 31) : ¬ nI b < m := by
  rw [i_lt, hm, nI_toInt (by omega)]
  omega
theorem nI_sub {k : Nat} (j : Nat) (h : j ≤ k) : nI k - nI j = nI (k - j) := by
  obtain ⟨d, rfl⟩ := Nat.exists_eq_add_of_le h
  rw [Nat.add_sub_cancel_left, ← nI_add, Int32.add_comm, Int32.add_sub_cancel]
theorem nI_m1 {k : Nat} (h : 1 ≤ k) : nI k + Int32.ofInt (-1) = nI (k - 1) := by
  rw [← nI_sub 1 h, Int32.sub_eq_add_neg]
  rfl
theorem wr_push {g : Nat → Int32} {a b c v : Int32} {i k : Nat} {f : Nat → Int32} (hk : k = dptC g i) (hs : ¬ g i < -3) (hv : v = pshC a b c (g i)) (hf : ∀ j, j < k → f j = (runC g a b c i).2 j) : k + 1 = dptC g (i + 1) ∧ ∀ j, j < k + 1 → upd f k v j = (runC g a b c (i + 1)).2 j := by
  refine ⟨by rw [dptC, if_neg hs, hk], fun j hj => ?_⟩
  show _ = (stpC a b c (g i) (runC g a b c i)).2 j
  unfold stpC
  rw [if_neg hs]
  show _ = upd _ _ _ j
  rw [runC_1, ← hk, ← hv]
  unfold upd
  by_cases e : j = k
  · rw [if_pos e, if_pos e]
  · rw [if_neg e, if_neg e]
    exact hf j (by omega)
theorem wr_not {g : Nat → Int32} {a b c v : Int32} {i k : Nat} {f : Nat → Int32} (hk : k = dptC g i) (hs : g i < -3) (h3 : g i = -33) (h1 : 1 ≤ k) (hv : v = if f (k - 1) = 0 then 1 else 0) (hf : ∀ j, j < k → f j = (runC g a b c i).2 j) : k = dptC g (i + 1) ∧ ∀ j, j < k → upd f (k - 1) v j = (runC g a b c (i + 1)).2 j := by
  refine ⟨by rw [dptC, if_pos hs, if_pos h3, hk], fun j hj => ?_⟩
  show _ = (stpC a b c (g i) (runC g a b c i)).2 j
  unfold stpC
  rw [if_pos hs, if_pos h3]
  show _ = upd _ _ _ j
  rw [runC_1, ← hk, ← hf (k - 1) (by omega), ← hv]
  unfold upd
  by_cases e : j = k - 1
  · rw [if_pos e, if_pos e]
  · rw [if_neg e, if_neg e]
    exact hf j hj
theorem wr_bin {g : Nat → Int32} {a b c v : Int32} {i k : Nat} {f : Nat → Int32} (hk : k = dptC g i) (hs : g i < -3) (h3 : ¬ g i = -33) (h1 : 2 ≤ k) (hv : v = jnC (-(g i)) (f (k - 2)) (f (k - 1))) (hf : ∀ j, j < k → f j = (runC g a b c i).2 j) : k - 1 = dptC g (i + 1) ∧ ∀ j, j < k - 1 → upd f (k - 2) v j = (runC g a b c (i + 1)).2 j := by
  refine ⟨by rw [dptC, if_pos hs, if_neg h3, hk], fun j hj => ?_⟩
  show _ = (stpC a b c (g i) (runC g a b c i)).2 j
  unfold stpC
  rw [if_pos hs, if_neg h3]
  show _ = upd _ _ _ j
  rw [runC_1, ← hk, ← hf (k - 2) (by omega), ← hf (k - 1) (by omega), ← hv]
  unfold upd
  by_cases e : j = k - 2
  · rw [if_pos e, if_pos e]
  · rw [if_neg e, if_neg e]
    exact hf j (by omega)

set_option maxHeartbeats 4000000 in
set_option maxRecDepth 100000 in
theorem lX2_worth_6 {w : bw} {σ : bSt} {me len : Nat} {a b c : Int32} (hs : sFormula w me) (hl : σ me 0 = nI len) (hok : okC (σ (me + 1)) len) (hpos : 0 < len) {x : bX} (h : Cx x w cX2_worth RX2 7 (some .int) (rmm 1 22)) : ∀ n i : Nat, i + n = len → ∀ (k : Nat) (τ : bSt), k = dptC (σ (me + 1)) i → (∀ j, j ≠ me + 2 → τ j = σ j) → (∀ j, j < k → τ (me + 2) j = (runC (σ (me + 1)) a b c i).2 j) → V x w 7 (pR (fun r σ' => r = evC (σ (me + 1)) len a b c ∧ ∀ j, j ≠ me + 2 → σ' j = σ j)) 6 [(5, .int (nI i)), (4, .int (nI k)), (0, .ref (b_ad w me)), (1, .int a), (2, .int b), (3, .int c)] [] τ := by
  refine b_ind (fun n ih => ?_)
  intro i hin k τ hk ho hf
  have h50 := hok.1
  refine v_iload h (i := 5) dX2_worth_6 (q := 8) rfl 0 rfl ?_
  refine v_aload_n h (i := 0) dX2_worth_8 (q := 9) rfl rfl 2 rfl ?_
  refine v_get h (k := 0) (v := .int (τ me 0)) cls2 hs.1.1 hs.1.2 (Nat.le_of_ble_eq_true rfl) m41 rfl dX2_worth_9 (q := 12) rfl ?_
  rw [show (τ me 0 : Int32) = nI len from (by rw [ho me (by omega)]; exact hl)]
  refine v_icmp_ge h (t := 203) dX2_worth_12 (by decide) (q := 15) rfl (fun c12 => ?_) (fun c12 => ?_)
  · have hi : len ≤ i := nge (nI_toInt (by omega)) (by omega) c12
    have hil : i = len := by omega
    subst hil
    have hk1 := hok.2.1 hpos
    refine v_aload_n h (i := 0) dX2_worth_203 (q := 204) rfl rfl 2 rfl ?_
    refine v_get h (k := 2) (v := .ref (b_ad w (me + 2))) cls2 hs.1.1 hs.1.2 (Nat.le_of_ble_eq_true rfl) m44 rfl dX2_worth_204 (q := 207) rfl ?_
    refine v_iconst h (v := 0) dX2_worth_207 (q := 208) rfl (by decide) ?_
    refine v_iald h (k := 0) hs.2.2.1 hs.2.2.2 (vp_in_nI (n := 0) (by decide) (by decide)) (by decide) dX2_worth_208 (q := 209) rfl ?_
    exact v_iret h dX2_worth_209 ⟨_, rfl, hf 0 (by omega), ho⟩
  · have hi : i < len := nlt (nI_toInt (by omega)) (by omega) c12
    have hki : k ≤ i := hk ▸ dptC_le _ _
    have hnd := hok.2.2 i hi
    rw [← hk] at hnd
    refine v_iload h (i := 5) dX2_worth_15 (q := 17) rfl 0 rfl ?_
    refine v_bipush h (v := 50) dX2_worth_17 (q := 19) rfl (by decide) ?_
    refine v_icmp_ge h (t := 203) dX2_worth_19 (by decide) (q := 22) rfl (fun c19 => absurd c19 (nnle (k := 50) rfl (by omega) (by decide))) (fun c19 => ?_)
    refine v_aload_n h (i := 0) dX2_worth_22 (q := 23) rfl rfl 2 rfl ?_
    refine v_get h (k := 1) (v := .ref (b_ad w (me + 1))) cls2 hs.1.1 hs.1.2 (Nat.le_of_ble_eq_true rfl) m43 rfl dX2_worth_23 (q := 26) rfl ?_
    refine v_iload h (i := 5) dX2_worth_26 (q := 28) rfl 0 rfl ?_
    refine v_iald h (k := i) hs.2.1.1 hs.2.1.2 (vp_in_nI (by omega) (by omega)) (nI_clamp (by omega)) dX2_worth_28 (q := 29) rfl ?_
    rw [show (τ (me + 1) i : Int32) = σ (me + 1) i from (by rw [ho (me + 1) (by omega)])]
    refine v_istore h (i := 6) (ls1 := [(6, .int (σ (me + 1) i)), (5, .int (nI i)), (4, .int (nI k)), (0, .ref (b_ad w me)), (1, .int a), (2, .int b), (3, .int c)]) dX2_worth_29 (q := 31) rfl (Nat.le_of_ble_eq_true rfl) rfl ?_
    refine v_iload h (i := 6) dX2_worth_31 (q := 33) rfl 0 rfl ?_
    refine v_bipush h (v := -3) dX2_worth_33 (q := 35) rfl (by decide) ?_
    refine v_icmp_lt h (t := 97) dX2_worth_35 (by decide) (q := 38) rfl (fun c35 => ?_) (fun c35 => ?_)
    · refine v_iload h (i := 6) dX2_worth_97 (q := 99) rfl 0 rfl ?_
      refine v_bipush h (v := -33) dX2_worth_99 (q := 101) rfl (by decide) ?_
      refine v_icmp_ne h (t := 148) dX2_worth_101 (by decide) (q := 104) rfl (fun c101 => ?_) (fun c101 => ?_)
      · have hnd1 := hnd c35
        rw [if_neg c101] at hnd1
        refine v_iload h (i := 4) dX2_worth_148 (q := 150) rfl 2 rfl ?_
        refine v_iconst h (v := 2) dX2_worth_150 (q := 151) rfl (by decide) ?_
        refine v_icmp_lt h (t := 161) dX2_worth_151 (by decide) (q := 154) rfl (fun c151 => absurd c151 (nnltl (k := 2) rfl (by omega) (by omega))) (fun c151 => ?_)
        refine v_iload h (i := 4) dX2_worth_154 (q := 156) rfl 2 rfl ?_
        refine v_bipush h (v := 50) dX2_worth_156 (q := 158) rfl (by decide) ?_
        refine v_icmp_le h (t := 163) dX2_worth_158 (by decide) (q := 161) rfl (fun c158 => ?_) (fun c158 => absurd (nlel (k := 50) rfl (by omega) (by decide)) c158)
        refine v_iinc h (p := 2) (u := nI (k - 1)) (ls1 := [(4, .int (nI (k - 1))), (6, .int (σ (me + 1) i)), (5, .int (nI i)), (0, .ref (b_ad w me)), (1, .int a), (2, .int b), (3, .int c)]) dX2_worth_163 (q := 166) rfl rfl (nI_m1 (by omega)) (Nat.le_of_ble_eq_true rfl) rfl ?_
        refine v_aload_n h (i := 0) dX2_worth_166 (q := 167) rfl rfl 3 rfl ?_
        refine v_get h (k := 2) (v := .ref (b_ad w (me + 2))) cls2 hs.1.1 hs.1.2 (Nat.le_of_ble_eq_true rfl) m44 rfl dX2_worth_167 (q := 170) rfl ?_
        refine v_iload h (i := 4) dX2_worth_170 (q := 172) rfl 0 rfl ?_
        refine v_iconst h (v := 1) dX2_worth_172 (q := 173) rfl (by decide) ?_
        refine v_isub h dX2_worth_173 (q := 174) rfl ?_
        rw [show ((nI (k - 1)) - 1 : Int32) = nI (k - 2) from (nI_sub 1 (by omega))]
        refine v_iload h (i := 6) dX2_worth_174 (q := 176) rfl 1 rfl ?_
        refine v_ineg h dX2_worth_176 (q := 177) rfl ?_
        refine v_aload_n h (i := 0) dX2_worth_177 (q := 178) rfl rfl 3 rfl ?_
        refine v_get h (k := 2) (v := .ref (b_ad w (me + 2))) cls2 hs.1.1 hs.1.2 (Nat.le_of_ble_eq_true rfl) m44 rfl dX2_worth_178 (q := 181) rfl ?_
        refine v_iload h (i := 4) dX2_worth_181 (q := 183) rfl 0 rfl ?_
        refine v_iconst h (v := 1) dX2_worth_183 (q := 184) rfl (by decide) ?_
        refine v_isub h dX2_worth_184 (q := 185) rfl ?_
        rw [show ((nI (k - 1)) - 1 : Int32) = nI (k - 2) from (nI_sub 1 (by omega))]
        refine v_iald h (k := (k - 2)) hs.2.2.1 hs.2.2.2 (vp_in_nI (by omega) (by omega)) (nI_clamp (by omega)) dX2_worth_185 (q := 186) rfl ?_
        refine v_aload_n h (i := 0) dX2_worth_186 (q := 187) rfl rfl 3 rfl ?_
        refine v_get h (k := 2) (v := .ref (b_ad w (me + 2))) cls2 hs.1.1 hs.1.2 (Nat.le_of_ble_eq_true rfl) m44 rfl dX2_worth_187 (q := 190) rfl ?_
        refine v_iload h (i := 4) dX2_worth_190 (q := 192) rfl 0 rfl ?_
        refine v_iald h (k := (k - 1)) hs.2.2.1 hs.2.2.2 (vp_in_nI (by omega) (by omega)) (nI_clamp (by omega)) dX2_worth_192 (q := 193) rfl ?_
        refine v_callS h (As := [.int (-(σ (me + 1) i)), .int (τ (me + 2) ((k - 2))), .int (τ (me + 2) ((k - 1)))]) (rest := [.int (nI (k - 2)), .ref (b_ad w (me + 2))]) (c_X2_joined (sign := -(σ (me + 1) i)) (a := τ (me + 2) ((k - 2))) (b := τ (me + 2) ((k - 1)))) cal_X2_joined m405 m404 ⟨rfl, rfl, Nat.le_of_ble_eq_true rfl, Nat.le_of_ble_eq_true rfl⟩ rfl rfl (Nat.le_of_ble_eq_true rfl) dX2_worth_193 (q := 196) rfl (kI ?_)
        refine v_iast h (k := (k - 2)) hs.2.2.1 hs.2.2.2 (vp_in_nI (by omega) (by omega)) (nI_clamp (by omega)) dX2_worth_196 (q := 197) rfl ?_
        generalize eσ196 : b_up τ (me + 2) ((k - 2)) (jnC (-(σ (me + 1) i)) (τ (me + 2) ((k - 2))) (τ (me + 2) ((k - 1)))) = σ196
        refine v_iinc h (p := 2) (u := nI (i + 1)) (ls1 := [(5, .int (nI (i + 1))), (4, .int (nI (k - 1))), (6, .int (σ (me + 1) i)), (0, .ref (b_ad w me)), (1, .int a), (2, .int b), (3, .int c)]) dX2_worth_197 (q := 200) rfl rfl (nI_1 i) (Nat.le_of_ble_eq_true rfl) rfl ?_
        refine v_goto h (t := 6) dX2_worth_200 (by decide) ?_
        refine v_ls [0, 1, 3, 4, 5, 6] (ls2 := [(5, .int (nI (i + 1))), (4, .int (nI (k - 1))), (0, .ref (b_ad w me)), (1, .int a), (2, .int b), (3, .int c)]) rfl ?_
        have hw := wr_bin (a := a) (b := b) (c := c) (v := (jnC (-(σ (me + 1) i)) (τ (me + 2) ((k - 2))) (τ (me + 2) ((k - 1))))) hk c35 c101 (by omega) rfl hf
        exact ih (n - 1) (by omega) (i + 1) (by omega) (k - 1) σ196 hw.1 (fun j hj => by rw [← eσ196, b_up_n hj]; exact ho j hj) (fun j hj => by rw [← eσ196, b_up_s]; exact hw.2 j hj)
      · have hnd1 := hnd c35
        rw [if_pos c101] at hnd1
        refine v_iload h (i := 4) dX2_worth_104 (q := 106) rfl 2 rfl ?_
        refine v_iconst h (v := 1) dX2_worth_106 (q := 107) rfl (by decide) ?_
        refine v_icmp_lt h (t := 117) dX2_worth_107 (by decide) (q := 110) rfl (fun c107 => absurd c107 (nnltl (k := 1) rfl (by omega) (by omega))) (fun c107 => ?_)
        refine v_iload h (i := 4) dX2_worth_110 (q := 112) rfl 2 rfl ?_
        refine v_bipush h (v := 50) dX2_worth_112 (q := 114) rfl (by decide) ?_
        refine v_icmp_le h (t := 119) dX2_worth_114 (by decide) (q := 117) rfl (fun c114 => ?_) (fun c114 => absurd (nlel (k := 50) rfl (by omega) (by decide)) c114)
        refine v_aload_n h (i := 0) dX2_worth_119 (q := 120) rfl rfl 3 rfl ?_
        refine v_get h (k := 2) (v := .ref (b_ad w (me + 2))) cls2 hs.1.1 hs.1.2 (Nat.le_of_ble_eq_true rfl) m44 rfl dX2_worth_120 (q := 123) rfl ?_
        refine v_iload h (i := 4) dX2_worth_123 (q := 125) rfl 2 rfl ?_
        refine v_iconst h (v := 1) dX2_worth_125 (q := 126) rfl (by decide) ?_
        refine v_isub h dX2_worth_126 (q := 127) rfl ?_
        rw [show ((nI k) - 1 : Int32) = nI (k - 1) from (nI_sub 1 (by omega))]
        refine v_aload_n h (i := 0) dX2_worth_127 (q := 128) rfl rfl 3 rfl ?_
        refine v_get h (k := 2) (v := .ref (b_ad w (me + 2))) cls2 hs.1.1 hs.1.2 (Nat.le_of_ble_eq_true rfl) m44 rfl dX2_worth_128 (q := 131) rfl ?_
        refine v_iload h (i := 4) dX2_worth_131 (q := 133) rfl 2 rfl ?_
        refine v_iconst h (v := 1) dX2_worth_133 (q := 134) rfl (by decide) ?_
        refine v_isub h dX2_worth_134 (q := 135) rfl ?_
        rw [show ((nI k) - 1 : Int32) = nI (k - 1) from (nI_sub 1 (by omega))]
        refine v_iald h (k := (k - 1)) hs.2.2.1 hs.2.2.2 (vp_in_nI (by omega) (by omega)) (nI_clamp (by omega)) dX2_worth_135 (q := 136) rfl ?_
        refine v_if_ne h (t := 143) dX2_worth_136 (by decide) (q := 139) rfl (fun c136 => ?_) (fun c136 => ?_)
        · refine v_iconst h (v := 0) dX2_worth_143 (q := 144) rfl (by decide) ?_
          refine v_iast h (k := (k - 1)) hs.2.2.1 hs.2.2.2 (vp_in_nI (by omega) (by omega)) (nI_clamp (by omega)) dX2_worth_144 (q := 145) rfl ?_
          generalize eσ144 : b_up τ (me + 2) ((k - 1)) 0 = σ144
          refine v_goto h (t := 197) dX2_worth_145 (by decide) ?_
          refine v_iinc h (p := 1) (u := nI (i + 1)) (ls1 := [(5, .int (nI (i + 1))), (6, .int (σ (me + 1) i)), (4, .int (nI k)), (0, .ref (b_ad w me)), (1, .int a), (2, .int b), (3, .int c)]) dX2_worth_197 (q := 200) rfl rfl (nI_1 i) (Nat.le_of_ble_eq_true rfl) rfl ?_
          refine v_goto h (t := 6) dX2_worth_200 (by decide) ?_
          refine v_ls [0, 2, 3, 4, 5, 6] (ls2 := [(5, .int (nI (i + 1))), (4, .int (nI k)), (0, .ref (b_ad w me)), (1, .int a), (2, .int b), (3, .int c)]) rfl ?_
          have hw := wr_not (a := a) (b := b) (c := c) (v := 0) hk c35 c101 (by omega) (by first | rw [if_pos c136] | rw [if_neg c136]) hf
          exact ih (n - 1) (by omega) (i + 1) (by omega) k σ144 hw.1 (fun j hj => by rw [← eσ144, b_up_n hj]; exact ho j hj) (fun j hj => by rw [← eσ144, b_up_s]; exact hw.2 j hj)
        · refine v_iconst h (v := 1) dX2_worth_139 (q := 140) rfl (by decide) ?_
          refine v_goto h (t := 144) dX2_worth_140 (by decide) ?_
          refine v_iast h (k := (k - 1)) hs.2.2.1 hs.2.2.2 (vp_in_nI (by omega) (by omega)) (nI_clamp (by omega)) dX2_worth_144 (q := 145) rfl ?_
          generalize eσ144_1 : b_up τ (me + 2) ((k - 1)) 1 = σ144_1
          refine v_goto h (t := 197) dX2_worth_145 (by decide) ?_
          refine v_iinc h (p := 1) (u := nI (i + 1)) (ls1 := [(5, .int (nI (i + 1))), (6, .int (σ (me + 1) i)), (4, .int (nI k)), (0, .ref (b_ad w me)), (1, .int a), (2, .int b), (3, .int c)]) dX2_worth_197 (q := 200) rfl rfl (nI_1 i) (Nat.le_of_ble_eq_true rfl) rfl ?_
          refine v_goto h (t := 6) dX2_worth_200 (by decide) ?_
          refine v_ls [0, 2, 3, 4, 5, 6] (ls2 := [(5, .int (nI (i + 1))), (4, .int (nI k)), (0, .ref (b_ad w me)), (1, .int a), (2, .int b), (3, .int c)]) rfl ?_
          have hw := wr_not (a := a) (b := b) (c := c) (v := 1) hk c35 c101 (by omega) (by first | rw [if_pos c136] | rw [if_neg c136]) hf
          exact ih (n - 1) (by omega) (i + 1) (by omega) k σ144_1 hw.1 (fun j hj => by rw [← eσ144_1, b_up_n hj]; exact ho j hj) (fun j hj => by rw [← eσ144_1, b_up_s]; exact hw.2 j hj)
    · refine v_iload h (i := 4) dX2_worth_38 (q := 40) rfl 2 rfl ?_
      refine v_if_lt h (t := 50) dX2_worth_40 (by decide) (q := 43) rfl (fun c40 => absurd c40 (nI_pos (by omega))) (fun c40 => ?_)
      refine v_iload h (i := 4) dX2_worth_43 (q := 45) rfl 2 rfl ?_
      refine v_bipush h (v := 50) dX2_worth_45 (q := 47) rfl (by decide) ?_
      refine v_icmp_lt h (t := 52) dX2_worth_47 (by decide) (q := 50) rfl (fun c47 => ?_) (fun c47 => absurd (nltl (k := 50) rfl (by omega) (by decide)) c47)
      refine v_aload_n h (i := 0) dX2_worth_52 (q := 53) rfl rfl 3 rfl ?_
      refine v_get h (k := 2) (v := .ref (b_ad w (me + 2))) cls2 hs.1.1 hs.1.2 (Nat.le_of_ble_eq_true rfl) m44 rfl dX2_worth_53 (q := 56) rfl ?_
      refine v_iload h (i := 4) dX2_worth_56 (q := 58) rfl 2 rfl ?_
      refine v_iload h (i := 6) dX2_worth_58 (q := 60) rfl 0 rfl ?_
      refine v_if_lt h (t := 68) dX2_worth_60 (by decide) (q := 63) rfl (fun c60 => ?_) (fun c60 => ?_)
      · refine v_iload h (i := 6) dX2_worth_68 (q := 70) rfl 0 rfl ?_
        refine v_iconst h (v := -1) dX2_worth_70 (q := 71) rfl (by decide) ?_
        refine v_icmp_ne h (t := 78) dX2_worth_71 (by decide) (q := 74) rfl (fun c71 => ?_) (fun c71 => ?_)
        · refine v_iload h (i := 6) dX2_worth_78 (q := 80) rfl 0 rfl ?_
          refine v_bipush h (v := -2) dX2_worth_80 (q := 82) rfl (by decide) ?_
          refine v_icmp_ne h (t := 89) dX2_worth_82 (by decide) (q := 85) rfl (fun c82 => ?_) (fun c82 => ?_)
          · refine v_iload_n h (i := 3) dX2_worth_89 (q := 90) rfl rfl 6 rfl ?_
            refine v_iast h (k := k) hs.2.2.1 hs.2.2.2 (vp_in_nI (by omega) (by omega)) (nI_clamp (by omega)) dX2_worth_90 (q := 91) rfl ?_
            generalize eσ90 : b_up τ (me + 2) k c = σ90
            refine v_iinc h (p := 2) (u := nI (k + 1)) (ls1 := [(4, .int (nI (k + 1))), (6, .int (σ (me + 1) i)), (5, .int (nI i)), (0, .ref (b_ad w me)), (1, .int a), (2, .int b), (3, .int c)]) dX2_worth_91 (q := 94) rfl rfl (nI_1 k) (Nat.le_of_ble_eq_true rfl) rfl ?_
            refine v_goto h (t := 197) dX2_worth_94 (by decide) ?_
            refine v_iinc h (p := 2) (u := nI (i + 1)) (ls1 := [(5, .int (nI (i + 1))), (4, .int (nI (k + 1))), (6, .int (σ (me + 1) i)), (0, .ref (b_ad w me)), (1, .int a), (2, .int b), (3, .int c)]) dX2_worth_197 (q := 200) rfl rfl (nI_1 i) (Nat.le_of_ble_eq_true rfl) rfl ?_
            refine v_goto h (t := 6) dX2_worth_200 (by decide) ?_
            refine v_ls [0, 1, 3, 4, 5, 6] (ls2 := [(5, .int (nI (i + 1))), (4, .int (nI (k + 1))), (0, .ref (b_ad w me)), (1, .int a), (2, .int b), (3, .int c)]) rfl ?_
            have hw := wr_push (a := a) (b := b) (c := c) (v := c) hk c35 (by unfold pshC; first | rw [if_pos c60, if_pos c71] | rw [if_pos c60, if_neg c71, if_pos c82] | rw [if_pos c60, if_neg c71, if_neg c82] | rw [if_neg c60]) hf
            exact ih (n - 1) (by omega) (i + 1) (by omega) (k + 1) σ90 hw.1 (fun j hj => by rw [← eσ90, b_up_n hj]; exact ho j hj) (fun j hj => by rw [← eσ90, b_up_s]; exact hw.2 j hj)
          · refine v_iload_n h (i := 2) dX2_worth_85 (q := 86) rfl rfl 5 rfl ?_
            refine v_goto h (t := 90) dX2_worth_86 (by decide) ?_
            refine v_iast h (k := k) hs.2.2.1 hs.2.2.2 (vp_in_nI (by omega) (by omega)) (nI_clamp (by omega)) dX2_worth_90 (q := 91) rfl ?_
            generalize eσ90_1 : b_up τ (me + 2) k b = σ90_1
            refine v_iinc h (p := 2) (u := nI (k + 1)) (ls1 := [(4, .int (nI (k + 1))), (6, .int (σ (me + 1) i)), (5, .int (nI i)), (0, .ref (b_ad w me)), (1, .int a), (2, .int b), (3, .int c)]) dX2_worth_91 (q := 94) rfl rfl (nI_1 k) (Nat.le_of_ble_eq_true rfl) rfl ?_
            refine v_goto h (t := 197) dX2_worth_94 (by decide) ?_
            refine v_iinc h (p := 2) (u := nI (i + 1)) (ls1 := [(5, .int (nI (i + 1))), (4, .int (nI (k + 1))), (6, .int (σ (me + 1) i)), (0, .ref (b_ad w me)), (1, .int a), (2, .int b), (3, .int c)]) dX2_worth_197 (q := 200) rfl rfl (nI_1 i) (Nat.le_of_ble_eq_true rfl) rfl ?_
            refine v_goto h (t := 6) dX2_worth_200 (by decide) ?_
            refine v_ls [0, 1, 3, 4, 5, 6] (ls2 := [(5, .int (nI (i + 1))), (4, .int (nI (k + 1))), (0, .ref (b_ad w me)), (1, .int a), (2, .int b), (3, .int c)]) rfl ?_
            have hw := wr_push (a := a) (b := b) (c := c) (v := b) hk c35 (by unfold pshC; first | rw [if_pos c60, if_pos c71] | rw [if_pos c60, if_neg c71, if_pos c82] | rw [if_pos c60, if_neg c71, if_neg c82] | rw [if_neg c60]) hf
            exact ih (n - 1) (by omega) (i + 1) (by omega) (k + 1) σ90_1 hw.1 (fun j hj => by rw [← eσ90_1, b_up_n hj]; exact ho j hj) (fun j hj => by rw [← eσ90_1, b_up_s]; exact hw.2 j hj)
        · refine v_iload_n h (i := 1) dX2_worth_74 (q := 75) rfl rfl 4 rfl ?_
          refine v_goto h (t := 90) dX2_worth_75 (by decide) ?_
          refine v_iast h (k := k) hs.2.2.1 hs.2.2.2 (vp_in_nI (by omega) (by omega)) (nI_clamp (by omega)) dX2_worth_90 (q := 91) rfl ?_
          generalize eσ90_2 : b_up τ (me + 2) k a = σ90_2
          refine v_iinc h (p := 2) (u := nI (k + 1)) (ls1 := [(4, .int (nI (k + 1))), (6, .int (σ (me + 1) i)), (5, .int (nI i)), (0, .ref (b_ad w me)), (1, .int a), (2, .int b), (3, .int c)]) dX2_worth_91 (q := 94) rfl rfl (nI_1 k) (Nat.le_of_ble_eq_true rfl) rfl ?_
          refine v_goto h (t := 197) dX2_worth_94 (by decide) ?_
          refine v_iinc h (p := 2) (u := nI (i + 1)) (ls1 := [(5, .int (nI (i + 1))), (4, .int (nI (k + 1))), (6, .int (σ (me + 1) i)), (0, .ref (b_ad w me)), (1, .int a), (2, .int b), (3, .int c)]) dX2_worth_197 (q := 200) rfl rfl (nI_1 i) (Nat.le_of_ble_eq_true rfl) rfl ?_
          refine v_goto h (t := 6) dX2_worth_200 (by decide) ?_
          refine v_ls [0, 1, 3, 4, 5, 6] (ls2 := [(5, .int (nI (i + 1))), (4, .int (nI (k + 1))), (0, .ref (b_ad w me)), (1, .int a), (2, .int b), (3, .int c)]) rfl ?_
          have hw := wr_push (a := a) (b := b) (c := c) (v := a) hk c35 (by unfold pshC; first | rw [if_pos c60, if_pos c71] | rw [if_pos c60, if_neg c71, if_pos c82] | rw [if_pos c60, if_neg c71, if_neg c82] | rw [if_neg c60]) hf
          exact ih (n - 1) (by omega) (i + 1) (by omega) (k + 1) σ90_2 hw.1 (fun j hj => by rw [← eσ90_2, b_up_n hj]; exact ho j hj) (fun j hj => by rw [← eσ90_2, b_up_s]; exact hw.2 j hj)
      · refine v_iload h (i := 6) dX2_worth_63 (q := 65) rfl 0 rfl ?_
        refine v_goto h (t := 90) dX2_worth_65 (by decide) ?_
        refine v_iast h (k := k) hs.2.2.1 hs.2.2.2 (vp_in_nI (by omega) (by omega)) (nI_clamp (by omega)) dX2_worth_90 (q := 91) rfl ?_
        generalize eσ90_3 : b_up τ (me + 2) k (σ (me + 1) i) = σ90_3
        refine v_iinc h (p := 2) (u := nI (k + 1)) (ls1 := [(4, .int (nI (k + 1))), (6, .int (σ (me + 1) i)), (5, .int (nI i)), (0, .ref (b_ad w me)), (1, .int a), (2, .int b), (3, .int c)]) dX2_worth_91 (q := 94) rfl rfl (nI_1 k) (Nat.le_of_ble_eq_true rfl) rfl ?_
        refine v_goto h (t := 197) dX2_worth_94 (by decide) ?_
        refine v_iinc h (p := 2) (u := nI (i + 1)) (ls1 := [(5, .int (nI (i + 1))), (4, .int (nI (k + 1))), (6, .int (σ (me + 1) i)), (0, .ref (b_ad w me)), (1, .int a), (2, .int b), (3, .int c)]) dX2_worth_197 (q := 200) rfl rfl (nI_1 i) (Nat.le_of_ble_eq_true rfl) rfl ?_
        refine v_goto h (t := 6) dX2_worth_200 (by decide) ?_
        refine v_ls [0, 1, 3, 4, 5, 6] (ls2 := [(5, .int (nI (i + 1))), (4, .int (nI (k + 1))), (0, .ref (b_ad w me)), (1, .int a), (2, .int b), (3, .int c)]) rfl ?_
        have hw := wr_push (a := a) (b := b) (c := c) (v := (σ (me + 1) i)) hk c35 (by unfold pshC; first | rw [if_pos c60, if_pos c71] | rw [if_pos c60, if_neg c71, if_pos c82] | rw [if_pos c60, if_neg c71, if_neg c82] | rw [if_neg c60]) hf
        exact ih (n - 1) (by omega) (i + 1) (by omega) (k + 1) σ90_3 hw.1 (fun j hj => by rw [← eσ90_3, b_up_n hj]; exact ho j hj) (fun j hj => by rw [← eσ90_3, b_up_s]; exact hw.2 j hj)
set_option maxHeartbeats 4000000 in
set_option maxRecDepth 100000 in
theorem c_X2_worth {w : bw} {σ : bSt} {me len : Nat} {a b c : Int32} (hs : sFormula w me) (hl : σ me 0 = nI len) (hok : okC (σ (me + 1)) len) (hpos : 0 < len) : MV yX2_worth cX2_worth 7 (some .int) (rmm 1 22) w [.ref (b_ad w me), .int a, .int b, .int c] σ (pR (fun r σ' => r = evC (σ (me + 1)) len a b c ∧ ∀ j, j ≠ me + 2 → σ' j = σ j)) := by
  refine b_met (ls := [(0, .ref (b_ad w me)), (1, .int a), (2, .int b), (3, .int c)]) (by decide) (Nat.le_of_ble_eq_true rfl) rfl (fun x h => ?_)
  refine v_iconst h (v := 0) dX2_worth_0 (q := 1) rfl (by decide) ?_
  refine v_istore h (i := 4) (ls1 := [(4, .int 0), (0, .ref (b_ad w me)), (1, .int a), (2, .int b), (3, .int c)]) dX2_worth_1 (q := 3) rfl (Nat.le_of_ble_eq_true rfl) rfl ?_
  refine v_iconst h (v := 0) dX2_worth_3 (q := 4) rfl (by decide) ?_
  refine v_istore h (i := 5) (ls1 := [(5, .int 0), (4, .int 0), (0, .ref (b_ad w me)), (1, .int a), (2, .int b), (3, .int c)]) dX2_worth_4 (q := 6) rfl (Nat.le_of_ble_eq_true rfl) rfl ?_
  exact lX2_worth_6 hs hl hok hpos h len 0 (by omega) 0 σ rfl (fun _ _ => rfl) (fun j hj => absurd hj (Nat.not_lt_zero j))
