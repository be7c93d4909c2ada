/-! the two texts that are never written: their lengths, their signs -/
section STR
variable {x : bX} {w : bw} {cc : ByteArray} {own : String} {nL : Nat} {ret : Option FieldType} {rm : Room} {post : Option Value → bSt → Prop} {pc q : Nat} {ls : List (Nat × Value)} {st : List Value} {σ : bSt}
theorem b_strs {U : State} (h : b_EV w U) : vk_S 2 [3, 3] [[100, 115, 116], [110, 105, 116]] (fun i => b_ad w (1010 + i)) (fun i => b_ad w (1020 + i)) (b_A w) U U.heap := h.2.2.2.2.2.2.2.2.2.2.2
theorem b_cmps {U : State} (h : b_EV w U) : va_Z "java/lang/String" "COMPACT_STRINGS" "Z" (.int 1) (b_A w) U U.heap := h.2.2.2.2.2.2.2.2.2.1
theorem b_sioo {U : State} (h : b_EV w U) : va_Zq "jdk/internal/util/Preconditions" "SIOOBE_FORMATTER" "Ljava/util/function/BiFunction;" (b_A w) U U.heap := h.2.2.2.2.2.2.2.2.2.2.1
theorem v_getS (h : Cx x w cc own nL ret rm) {t index : Nat} {n d : String} {v : Value} (hE : va_OF "java/lang/String" n d v t (b_A w) x.2.2.2.2.1 x.2.2.2.2.1.heap) (hl : Cond.fieldLink own index "java/lang/String" n d ∈ bGood) (hd : decode cc pc = .ok (.getfield index, 3)) (e : pc + 3 = q) (kk : V x w nL post q ls (v :: st) σ) : V x w nL post pc ls (.ref t :: st) σ := by
  subst e
  exact fun H lo a hP hS hL => vk_getf h.1 h.2.1 hE hS h.ow (h.ok hl) (fun _ h9 => h9) hd (kk H lo a hP hS hL)
theorem v_tbl (h : Cx x w cc own nL ret rm) {t N k : Nat} {f : Nat → Int32} {i : Int32} (hT : va_T .byte t N (fun j => .int (f j)) (b_A w) x.2.2.2.2.1 x.2.2.2.2.1.heap) (hin : vp_in i N) (hk : i.toNatClampNeg = k) (hd : decode cc pc = .ok (.baload, 1)) (e : pc + 1 = q) (kk : V x w nL post q ls (.int (f k) :: st) σ) : V x w nL post pc ls (.int i :: .ref t :: st) σ := by
  subst e
  subst hk
  exact fun H lo a hP hS hL => va_tb h.1 h.2.1 hT hS hin rfl hd (kk H lo a hP hS hL)
theorem v_i2c (h : Cx x w cc own nL ret rm) {a v : Int32} (hd : decode cc pc = .ok (.i2c, 1)) (e : pc + 1 = q) (hv : (a.toUInt32 % 65536).toInt32 = v) (k : V x w nL post q ls (.int v :: st) σ) : V x w nL post pc ls (.int a :: st) σ := by
  subst e
  exact fun H lo a hP hS hL => lv_i2c h.1 h.2.1 hd hv (k H lo a hP hS hL)
theorem v_callVs (h : Cx x w cc own nL ret rm) {n d : String} {bytes : ByteArray} {maxL np i index : Nat} {ret' : Option FieldType} {rm' : Room} {post' : Option Value → bSt → Prop} {As rest st0 : List Value}
    (hM : MV ⟨"java/lang/String", n, d⟩ bytes maxL ret' rm' w (.ref (b_ad w (1010 + i)) :: As) σ post') (hc : b_Cal ⟨"java/lang/String", n, d⟩ bytes maxL ret' np) (hcv : b_CalV ⟨"java/lang/String", n, d⟩) (hl : Cond.methodLink own index ⟨"java/lang/String", n, d⟩ ∈ bGood) (hr : b_fit rm' maxL rm) (hn : As.length = np) (hi : i < 2)
    (hst : st0 = As.reverse ++ .ref (b_ad w (1010 + i)) :: rest) (hcat : (rest.map fun v => v.category).sum ≤ 8) (hd : decode cc pc = .ok (.invokevirtual index, 3)) (e : pc + 3 = q)
    (kk : ∀ (v : Option Value) (σ' : bSt), post' v σ' → V x w nL post q ls (v.toList ++ rest) σ') : V x w nL post pc ls st0 σ := by
  subst e
  obtain ⟨c0, hts⟩ := id h.2.2.2.1
  exact fun H lo a hP hS hL => b_goes (va_runV (As := As) (rest := rest) (Ts := c0 :: bGood) ⟨h.1, h.2.1, h.ml, h.ow, hts⟩ (hM _) ⟨h.calB hc hl hr, h.ok hcv.1, h.ok hcv.2⟩ ⟨PV_blind, vk_recv (b_strs h.ev) hi hS, h.pre hP hS⟩ rfl hn hL.1 hst (lv_room hcat) hd ⟨Nat.zero_le _, Nat.zero_le _⟩) hS hL (fun v σ' hp => kk v σ' hp)
end STR
theorem c_coder {w : bw} {σ : bSt} {i : Nat} (hi : i < 2) : MV yJ0_coder_7d493 cJ0_coder_7d493 1 (some .byte) (rmm 0 0) w [.ref (b_ad w (1010 + i))] σ (pI 0 σ) := by
  refine b_met (ls := [(0, .ref (b_ad w (1010 + i)))]) (by decide) (Nat.le_of_ble_eq_true rfl) rfl (fun x h => ?_)
  refine v_gs h (b_cmps h.ev) m1109 dJ0_coder_7d493_0 (q := 3) rfl ?_
  refine v_if_eq h (t := 13) dJ0_coder_7d493_3 (by decide) (q := 6) rfl (fun c => absurd c (by decide)) (fun _ => ?_)
  refine v_aload_n h (i := 0) dJ0_coder_7d493_6 (q := 7) rfl rfl 0 rfl ?_
  refine v_getS h ((b_strs h.ev).1 i hi).2.1 m1350 dJ0_coder_7d493_7 (q := 10) rfl ?_
  refine v_goto h (t := 14) dJ0_coder_7d493_10 (by decide) ?_
  exact v_zret h rfl dJ0_coder_7d493_14 ⟨rfl, rfl⟩
theorem c_isLatin1 {w : bw} {σ : bSt} {i : Nat} (hi : i < 2) : MV yJ0_isLatin1_aae02 cJ0_isLatin1_aae02 1 (some .boolean) (rmm 0 0) w [.ref (b_ad w (1010 + i))] σ (pI 1 σ) := by
  refine b_met (ls := [(0, .ref (b_ad w (1010 + i)))]) (by decide) (Nat.le_of_ble_eq_true rfl) rfl (fun x h => ?_)
  refine v_gs h (b_cmps h.ev) m1109 dJ0_isLatin1_aae02_0 (q := 3) rfl ?_
  refine v_if_eq h (t := 17) dJ0_isLatin1_aae02_3 (by decide) (q := 6) rfl (fun c => absurd c (by decide)) (fun _ => ?_)
  refine v_aload_n h (i := 0) dJ0_isLatin1_aae02_6 (q := 7) rfl rfl 0 rfl ?_
  refine v_getS h ((b_strs h.ev).1 i hi).2.1 m1350 dJ0_isLatin1_aae02_7 (q := 10) rfl ?_
  refine v_if_ne h (t := 17) dJ0_isLatin1_aae02_10 (by decide) (q := 13) rfl (fun c => absurd rfl c) (fun _ => ?_)
  refine v_iconst h (v := 1) dJ0_isLatin1_aae02_13 (q := 14) rfl (by decide) ?_
  refine v_goto h (t := 18) dJ0_isLatin1_aae02_14 (by decide) ?_
  exact v_zret h rfl dJ0_isLatin1_aae02_18 ⟨rfl, rfl⟩
theorem sL3 : ∀ i : Nat, i < 2 → Int32.ofNat ([3, 3].getD i 0) = 3 := by decide +kernel
theorem c_length {w : bw} {σ : bSt} {i : Nat} (hi : i < 2) : MV yJ0_length_8abf5 cJ0_length_8abf5 1 (some .int) (rmm 1 20) w [.ref (b_ad w (1010 + i))] σ (pI 3 σ) := by
  refine b_met (ls := [(0, .ref (b_ad w (1010 + i)))]) (by decide) (Nat.le_of_ble_eq_true rfl) rfl (fun x h => ?_)
  refine v_aload_n h (i := 0) dJ0_length_8abf5_0 (q := 1) rfl rfl 0 rfl ?_
  refine v_getS h ((b_strs h.ev).1 i hi).2.2.1 m1349 dJ0_length_8abf5_1 (q := 4) rfl ?_
  refine v_tlen h (v := 3) ((b_strs h.ev).1 i hi).2.2.2 (sL3 i hi) dJ0_length_8abf5_4 (q := 5) rfl ?_
  refine v_aload_n h (i := 0) dJ0_length_8abf5_5 (q := 6) rfl rfl 0 rfl ?_
  refine v_callVs h (As := []) (rest := [.int 3]) (i := i) (c_coder (σ := σ) hi) cal_J0_coder_7d493 calV_J0_coder_7d493 m1105 ⟨rfl, rfl, Nat.le_of_ble_eq_true rfl, Nat.le_of_ble_eq_true rfl⟩ rfl hi rfl (Nat.le_of_ble_eq_true rfl) dJ0_length_8abf5_6 (q := 9) rfl (kI ?_)
  refine v_ishr h dJ0_length_8abf5_9 (q := 10) rfl ?_
  exact v_iret h dJ0_length_8abf5_10 ⟨rfl, rfl⟩
theorem c_pchk {w : bw} {σ : bSt} {i n : Int32} {v : Value} (hv : v = .null ∨ ∃ t, v = .ref t) (h0 : ¬ i < 0) (h1 : i < n) : MV yJ3_checkIndex_8e157 cJ3_checkIndex_8e157 3 (some .int) (rmm 0 0) w [.int i, .int n, v] σ (pI i σ) := by
  have hl : lv_args 0 [.int i, .int n, v] = [(0, .int i), (1, .int n), (2, v)] := by
    rcases hv with rfl | ⟨t, rfl⟩ <;> rfl
  have hs : (lg_sl [.int i, .int n, v]).length ≤ 3 := by
    rcases hv with rfl | ⟨t, rfl⟩ <;> exact Nat.le_of_ble_eq_true rfl
  refine b_met (by decide) hs hl (fun x h => ?_)
  refine v_iload_n h (i := 0) dJ3_checkIndex_8e157_0 (q := 1) rfl rfl 0 rfl ?_
  refine v_if_lt h (t := 9) dJ3_checkIndex_8e157_1 (by decide) (q := 4) rfl (fun c => absurd c h0) (fun _ => ?_)
  refine v_iload_n h (i := 0) dJ3_checkIndex_8e157_4 (q := 5) rfl rfl 0 rfl ?_
  refine v_iload_n h (i := 1) dJ3_checkIndex_8e157_5 (q := 6) rfl rfl 1 rfl ?_
  refine v_icmp_lt h (t := 16) dJ3_checkIndex_8e157_6 (by decide) (q := 9) rfl (fun _ => ?_) (fun c => absurd h1 c)
  refine v_iload_n h (i := 0) dJ3_checkIndex_8e157_16 (q := 17) rfl rfl 0 rfl ?_
  exact v_iret h dJ3_checkIndex_8e157_17 ⟨rfl, rfl⟩
theorem c_schk {w : bw} {σ : bSt} {i n : Int32} (h0 : ¬ i < 0) (h1 : i < n) : MV yJ0_checkIndex_df160 cJ0_checkIndex_df160 2 none (rmm 1 22) w [.int i, .int n] σ (pU σ) := by
  refine b_met (ls := [(0, .int i), (1, .int n)]) (by decide) (Nat.le_of_ble_eq_true rfl) rfl (fun x h => ?_)
  refine v_iload_n h (i := 0) dJ0_checkIndex_df160_0 (q := 1) rfl rfl 0 rfl ?_
  refine v_iload_n h (i := 1) dJ0_checkIndex_df160_1 (q := 2) rfl rfl 1 rfl ?_
  have key : ∀ v : Value, (v = .null ∨ ∃ t, v = .ref t) → va_Z "jdk/internal/util/Preconditions" "SIOOBE_FORMATTER" "Ljava/util/function/BiFunction;" v (b_A w) x.2.2.2.2.1 x.2.2.2.2.1.heap → V x w 2 (pU σ) 2 [(0, .int i), (1, .int n)] [.int n, .int i] σ := by
    intro v hv hz
    refine v_gs h hz m1125 dJ0_checkIndex_df160_2 (q := 5) rfl ?_
    refine v_callS h (As := [.int i, .int n, v]) (rest := []) (c_pchk (σ := σ) hv h0 h1) cal_J3_checkIndex_8e157 m1128 m1127 ⟨rfl, rfl, Nat.le_of_ble_eq_true rfl, Nat.le_of_ble_eq_true rfl⟩ rfl rfl (Nat.le_of_ble_eq_true rfl) dJ0_checkIndex_df160_5 (q := 8) rfl (kI ?_)
    refine v_pop h dJ0_checkIndex_df160_8 (q := 9) rfl rfl ?_
    exact v_vret h dJ0_checkIndex_df160_9 ⟨rfl, rfl⟩
  rcases b_sioo h.ev with hz | ⟨t, hz⟩
  · exact key _ (Or.inl rfl) hz
  · exact key _ (Or.inr ⟨t, rfl⟩) hz
theorem sCH : ∀ i : Nat, i < 2 → ∀ j : Nat, j < 3 → ((([[100, 115, 116], [110, 105, 116]].getD i [] : List Int32).getD j 0 &&& 255).toUInt32 % 65536).toInt32 = b_tNA (i * 3 + j) ∧ narrow .char (.int (b_tNA (i * 3 + j))) = .int (b_tNA (i * 3 + j)) := by decide +kernel
theorem c_lchar {w : bw} {σ : bSt} {i j : Nat} (hi : i < 2) (hj : j < 3) : MV yJ1_charAt_3b067 cJ1_charAt_3b067 2 (some .char) (rmm 2 43) w [.ref (b_ad w (1020 + i)), .int (nI j)] σ (pI (b_tNA (i * 3 + j)) σ) := by
  refine b_met (ls := [(0, .ref (b_ad w (1020 + i))), (1, .int (nI j))]) (by decide) (Nat.le_of_ble_eq_true rfl) rfl (fun x h => ?_)
  have hT := ((b_strs h.ev).1 i hi).2.2.2
  refine v_iload_n h (i := 1) dJ1_charAt_3b067_0 (q := 1) rfl rfl 1 rfl ?_
  refine v_aload_n h (i := 0) dJ1_charAt_3b067_1 (q := 2) rfl rfl 0 rfl ?_
  refine v_tlen h (v := 3) hT (sL3 i hi) dJ1_charAt_3b067_2 (q := 3) rfl ?_
  refine v_callS h (As := [.int (nI j), .int 3]) (rest := []) (c_schk (σ := σ) (nI_pos (by omega)) (nI_lt (b := 3) hj (by decide))) cal_J0_checkIndex_df160 m1123 m1122 ⟨rfl, rfl, Nat.le_of_ble_eq_true rfl, Nat.le_of_ble_eq_true rfl⟩ rfl rfl (Nat.le_of_ble_eq_true rfl) dJ1_charAt_3b067_3 (q := 6) rfl (kU ?_)
  refine v_aload_n h (i := 0) dJ1_charAt_3b067_6 (q := 7) rfl rfl 0 rfl ?_
  refine v_iload_n h (i := 1) dJ1_charAt_3b067_7 (q := 8) rfl rfl 1 rfl ?_
  have hl3 : ∀ i : Nat, i < 2 → ([3, 3] : List Nat).getD i 0 = 3 := by decide
  refine v_tbl h (k := j) hT (by rw [hl3 i hi]; exact vp_in_nI hj (by decide)) (nI_clamp (by omega)) dJ1_charAt_3b067_8 (q := 9) rfl ?_
  refine v_sipush h (v := 255) dJ1_charAt_3b067_9 (q := 12) rfl (by decide) ?_
  refine v_iand h dJ1_charAt_3b067_12 (q := 13) rfl ?_
  refine v_i2c h dJ1_charAt_3b067_13 (q := 14) rfl (sCH i hi j hj).1 ?_
  exact v_zret h (sCH i hi j hj).2 dJ1_charAt_3b067_14 ⟨rfl, rfl⟩
theorem c_charAt {w : bw} {σ : bSt} {i j : Nat} (hi : i < 2) (hj : j < 3) : MV yJ0_charAt_5068e cJ0_charAt_5068e 2 (some .char) (rmm 3 64) w [.ref (b_ad w (1010 + i)), .int (nI j)] σ (pI (b_tNA (i * 3 + j)) σ) := by
  refine b_met (ls := [(0, .ref (b_ad w (1010 + i))), (1, .int (nI j))]) (by decide) (Nat.le_of_ble_eq_true rfl) rfl (fun x h => ?_)
  refine v_aload_n h (i := 0) dJ0_charAt_5068e_0 (q := 1) rfl rfl 0 rfl ?_
  refine v_callVs h (As := []) (rest := []) (i := i) (c_isLatin1 (σ := σ) hi) cal_J0_isLatin1_aae02 calV_J0_isLatin1_aae02 m1115 ⟨rfl, rfl, Nat.le_of_ble_eq_true rfl, Nat.le_of_ble_eq_true rfl⟩ rfl hi rfl (Nat.le_of_ble_eq_true rfl) dJ0_charAt_5068e_1 (q := 4) rfl (kI ?_)
  refine v_if_eq h (t := 16) dJ0_charAt_5068e_4 (by decide) (q := 7) rfl (fun c => absurd c (by decide)) (fun _ => ?_)
  refine v_aload_n h (i := 0) dJ0_charAt_5068e_7 (q := 8) rfl rfl 0 rfl ?_
  refine v_getS h ((b_strs h.ev).1 i hi).2.2.1 m1349 dJ0_charAt_5068e_8 (q := 11) rfl ?_
  refine v_iload_n h (i := 1) dJ0_charAt_5068e_11 (q := 12) rfl rfl 1 rfl ?_
  refine v_callS h (As := [.ref (b_ad w (1020 + i)), .int (nI j)]) (rest := []) (c_lchar (σ := σ) hi hj) cal_J1_charAt_3b067 m1120 m1119 ⟨rfl, rfl, Nat.le_of_ble_eq_true rfl, Nat.le_of_ble_eq_true rfl⟩ rfl rfl (Nat.le_of_ble_eq_true rfl) dJ0_charAt_5068e_12 (q := 15) rfl (kI ?_)
  exact v_zret h (sCH i hi j hj).2 dJ0_charAt_5068e_15 ⟨rfl, rfl⟩
/-- the name that a sign is, by the last that is equal -/
def nmL (u : Nat) (c : Int32) : Nat → Int32
  | 0 => -1
  | j + 1 => if b_tNA (u * 3 + j) = c then nI j else nmL u c j
theorem nmB : ∀ u : Nat, u < 2 → ∀ i : Nat, i < 3 → ∀ j : Nat, j < 3 → b_tNA (u * 3 + i) = b_tNA (u * 3 + j) → i = j := by decide +kernel
theorem nm_tab {u : Nat} (hu : u < 2) (c : Int32) : nmL u c 3 = if nmR u c < 3 then nI (nmR u c) else -1 := by
  have e1 := nmB u hu 0 (by decide) 1 (by decide)
  have e2 := nmB u hu 0 (by decide) 2 (by decide)
  have e3 := nmB u hu 1 (by decide) 2 (by decide)
  unfold nmR
  show (if b_tNA (u * 3 + 2) = c then nI 2 else if b_tNA (u * 3 + 1) = c then nI 1 else if b_tNA (u * 3 + 0) = c then nI 0 else (-1 : Int32)) = _
  by_cases c0 : c = b_tNA (u * 3)
  · have n2 : ¬ b_tNA (u * 3 + 2) = c := fun z => absurd (e2 (c0.symm.trans z.symm)) (by decide)
    have n1 : ¬ b_tNA (u * 3 + 1) = c := fun z => absurd (e1 (c0.symm.trans z.symm)) (by decide)
    rw [if_neg n2, if_neg n1, if_pos (show b_tNA (u * 3 + 0) = c from c0.symm), if_pos c0, if_pos (by decide)]
  · rw [if_neg c0]
    by_cases c1 : c = b_tNA (u * 3 + 1)
    · have n2 : ¬ b_tNA (u * 3 + 2) = c := fun z => absurd (e3 (c1.symm.trans z.symm)) (by decide)
      rw [if_neg n2, if_pos c1.symm, if_pos c1, if_pos (by decide)]
    · rw [if_neg c1]
      by_cases c2 : c = b_tNA (u * 3 + 2)
      · rw [if_pos c2.symm, if_pos c2, if_pos (by decide)]
      · rw [if_neg c2, if_neg (fun z => c2 z.symm), if_neg (fun z => c1 z.symm), if_neg (fun z => c0 (show c = b_tNA (u * 3 + 0) from z.symm)), if_neg (by decide)]

/-! the model reads a text -/
def bI : Bool → Int32
  | true => 1
  | false => 0
def hrR : Bool → Int32 → Int32
  | true, _ => -1
  | false, c => c
def cdR (b : Bool) (c : Int32) (S : bR) : bR := if b = true then S else emR c S
/-- the model there: has it failed, what is read and laid, how many stand open -/
def PS (σ : bSt) (b : Bool) (S : bR) (o : Nat) : bSt := b_up (b_up (b_up (b_up (b_set σ 7 (fun k => if k < S.2.1 then cdM (S.2.2 k) else σ 7 k)) 0 12 (nI S.2.1)) 0 8 (nI o)) 0 10 (bI b)) 0 7 (nI S.1)
section PSS
variable {σ : bSt} {b c : Bool} {S : bR} {o : Nat}
theorem PS_7 : PS σ b S o 0 7 = nI S.1 := by unfold PS; rw [b_up_s, upd_s]
theorem PS_10 : PS σ b S o 0 10 = bI b := by unfold PS; rw [b_up_s, upd_n (by decide), b_up_s, upd_s]
theorem PS_8 : PS σ b S o 0 8 = nI o := by unfold PS; rw [b_up_s, upd_n (by decide), b_up_s, upd_n (by decide), b_up_s, upd_s]
theorem PS_12 : PS σ b S o 0 12 = nI S.2.1 := by unfold PS; rw [b_up_s, upd_n (by decide), b_up_s, upd_n (by decide), b_up_s, upd_n (by decide), b_up_s, upd_s]
theorem PS_f {k : Nat} (h : k ≠ 7 ∧ k ≠ 8 ∧ k ≠ 10 ∧ k ≠ 12) : PS σ b S o 0 k = σ 0 k := by unfold PS; rw [b_up_s, upd_n h.1, b_up_s, upd_n h.2.2.1, b_up_s, upd_n h.2.1, b_up_s, upd_n h.2.2.2, b_set_n (by decide)]
theorem PS_o {j : Nat} (h : j ≠ 0) (h7 : j ≠ 7) : PS σ b S o j = σ j := by unfold PS; rw [b_up_n h, b_up_n h, b_up_n h, b_up_n h, b_set_n h7]
theorem PS_c : PS σ b S o 7 = fun k => if k < S.2.1 then cdM (S.2.2 k) else σ 7 k := by unfold PS; rw [b_up_n (by decide), b_up_n (by decide), b_up_n (by decide), b_up_n (by decide), b_set_s]
theorem PS_ext {τ : bSt} (h7 : τ 0 7 = nI S.1) (h8 : τ 0 8 = nI o) (h10 : τ 0 10 = bI b) (h12 : τ 0 12 = nI S.2.1) (hf : ∀ k, k ≠ 7 → k ≠ 8 → k ≠ 10 → k ≠ 12 → τ 0 k = σ 0 k) (hc : ∀ k, τ 7 k = if k < S.2.1 then cdM (S.2.2 k) else σ 7 k) (ho : ∀ j, j ≠ 0 → j ≠ 7 → τ j = σ j) : τ = PS σ b S o := by
  funext j
  by_cases e : j = 0
  · subst e
    funext k
    by_cases e7 : k = 7
    · subst e7; rw [h7, PS_7]
    · by_cases e8 : k = 8
      · subst e8; rw [h8, PS_8]
      · by_cases e10 : k = 10
        · subst e10; rw [h10, PS_10]
        · by_cases e12 : k = 12
          · subst e12; rw [h12, PS_12]
          · rw [hf k e7 e8 e10 e12, PS_f ⟨e7, e8, e10, e12⟩]
  · by_cases e7 : j = 7
    · subst e7; funext k; rw [hc k, PS_c]
    · rw [ho j e e7, PS_o e e7]
theorem PS_at : b_up (PS σ b S o) 0 7 (nI (S.1 + 1)) = PS σ b (advR S) o := by
  refine PS_ext ?_ ?_ ?_ ?_ (fun k e7 e8 e10 e12 => ?_) (fun k => ?_) (fun j h h7 => ?_)
  · rw [b_up_s, upd_s]; rfl
  · rw [b_up_s, upd_n (by decide), PS_8]
  · rw [b_up_s, upd_n (by decide), PS_10]
  · rw [b_up_s, upd_n (by decide), PS_12]; rfl
  · rw [b_up_s, upd_n e7, PS_f ⟨e7, e8, e10, e12⟩]
  · rw [b_up_n (by decide), PS_c]; rfl
  · rw [b_up_n h, PS_o h h7]
theorem PS_same : b_up (PS σ b S o) 0 7 (nI S.1) = PS σ b S o := by
  refine PS_ext ?_ ?_ ?_ ?_ (fun k e7 e8 e10 e12 => ?_) (fun k => ?_) (fun j h h7 => ?_)
  · rw [b_up_s, upd_s]
  · rw [b_up_s, upd_n (by decide), PS_8]
  · rw [b_up_s, upd_n (by decide), PS_10]
  · rw [b_up_s, upd_n (by decide), PS_12]
  · rw [b_up_s, upd_n e7, PS_f ⟨e7, e8, e10, e12⟩]
  · rw [b_up_n (by decide), PS_c]
  · rw [b_up_n h, PS_o h h7]
theorem PS_open {p : Nat} : b_up (PS σ b S o) 0 8 (nI p) = PS σ b S p := by
  refine PS_ext ?_ ?_ ?_ ?_ (fun k e7 e8 e10 e12 => ?_) (fun k => ?_) (fun j h h7 => ?_)
  · rw [b_up_s, upd_n (by decide), PS_7]
  · rw [b_up_s, upd_s]
  · rw [b_up_s, upd_n (by decide), PS_10]
  · rw [b_up_s, upd_n (by decide), PS_12]
  · rw [b_up_s, upd_n e8, PS_f ⟨e7, e8, e10, e12⟩]
  · rw [b_up_n (by decide), PS_c]
  · rw [b_up_n h, PS_o h h7]
theorem PS_wr : b_up (PS σ b S o) 0 10 (bI c) = PS σ c S o := by
  refine PS_ext ?_ ?_ ?_ ?_ (fun k e7 e8 e10 e12 => ?_) (fun k => ?_) (fun j h h7 => ?_)
  · rw [b_up_s, upd_n (by decide), PS_7]
  · rw [b_up_s, upd_n (by decide), PS_8]
  · rw [b_up_s, upd_s]
  · rw [b_up_s, upd_n (by decide), PS_12]
  · rw [b_up_s, upd_n e10, PS_f ⟨e7, e8, e10, e12⟩]
  · rw [b_up_n (by decide), PS_c]
  · rw [b_up_n h, PS_o h h7]
theorem PS_em {s : Int32} : b_up (b_up (PS σ b S o) 7 S.2.1 (cdM s)) 0 12 (nI (S.2.1 + 1)) = PS σ b (emR s S) o := by
  refine PS_ext ?_ ?_ ?_ ?_ (fun k e7 e8 e10 e12 => ?_) (fun k => ?_) (fun j h h7 => ?_)
  · rw [b_up_s, upd_n (by decide), b_up_n (by decide), PS_7]; rfl
  · rw [b_up_s, upd_n (by decide), b_up_n (by decide), PS_8]
  · rw [b_up_s, upd_n (by decide), b_up_n (by decide), PS_10]
  · rw [b_up_s, upd_s]; rfl
  · rw [b_up_s, upd_n e12, b_up_n (by decide), PS_f ⟨e7, e8, e10, e12⟩]
  · rw [b_up_n (by decide), b_up_s, PS_c]
    show upd _ S.2.1 (cdM s) k = if k < S.2.1 + 1 then cdM (upd S.2.2 S.2.1 s k) else σ 7 k
    unfold upd
    by_cases e : k = S.2.1
    · rw [if_pos e, if_pos (by omega), if_pos e]
    · rw [if_neg e, if_neg e]
      by_cases e2 : k < S.2.1
      · exact (if_pos e2).trans (if_pos (show k < S.2.1 + 1 by omega)).symm
      · exact (if_neg e2).trans (if_neg (show ¬ k < S.2.1 + 1 by omega)).symm
  · rw [b_up_n h, b_up_n h7, PS_o h h7]
end PSS
theorem hr_eq {b : Bool} {c d : Int32} (h : hrR b c = d) (hd : ¬ d = -1) : b = false ∧ c = d := by
  cases b
  · exact ⟨rfl, h⟩
  · exact absurd h.symm hd
def lmR (sub : bR → Bool × bR) (op : Int32 → Bool) (bf : Nat → Int32) (k : Nat) (b : Bool) (T : bR) : Bool × bR := if b = true then (false, T) else lpR sub op bf k T
section LM
variable {sub : bR → Bool × bR} {lev : Nat} {bf : Nat → Int32} {k : Nat} {b : Bool} {T : bR}
theorem op_m1 : ¬ opR lev (-1) = true := fun h => opR_ne h rfl
theorem lm_stop (h : ¬ opR lev (hrR b (bf T.1)) = true) : lmR sub (opR lev) bf k b T = (!b, T) := by
  unfold lmR
  cases b
  · rw [if_neg (by decide), lp_stop h]; rfl
  · rw [if_pos rfl]; rfl
theorem lm_b (h : opR lev (hrR b (bf T.1)) = true) : b = false ∧ opR lev (bf T.1) = true := by
  cases b
  · exact ⟨rfl, h⟩
  · exact absurd h op_m1
theorem lm_go (h : opR lev (hrR b (bf T.1)) = true) : lmR sub (opR lev) bf (k + 1) b T = lmR sub (opR lev) bf k (!(sub (advR T)).1) (cdR (!(sub (advR T)).1) (-(bf T.1)) (sub (advR T)).2) := by
  obtain ⟨rfl, h⟩ := lm_b h
  unfold lmR cdR
  rw [if_neg (by decide)]
  cases e : (sub (advR T)).1
  · rw [lp_fail h (by rw [e]; decide)]; rfl
  · rw [lp_go h e]; rfl
theorem lm_0 : lmR sub (opR lev) bf 0 b T = (!b, T) := by
  unfold lmR
  cases b <;> rfl
theorem pr_lm {use f o : Nat} {S : bR} (h : lev ≠ 0) : prR bf use (f + 1) lev o S = lmR (prR bf use f (lev - 1) o) (opR lev) bf (if lev = 3 then 1 else 50) (!(prR bf use f (lev - 1) o S).1) (prR bf use f (lev - 1) o S).2 := by
  rw [pr_lev h]
  unfold lmR
  cases e : (prR bf use f (lev - 1) o S).1
  · rfl
  · rfl
end LM
/-- what a loop of the model's ends with -/
theorem ps_end {σ : bSt} {b : Bool} {T : bR} {o : Nat} {r : Bool × bR} (h : (!b, T) = r) : PS σ b T o = PS σ (!r.1) r.2 o := by
  rw [← h]
  cases b <;> rfl
theorem cdR_le {n : Nat} {b : Bool} {c : Int32} {S : bR} (h : S.1 ≤ n) (h2 : S.2.1 + 1 ≤ S.1) : (cdR b c S).1 ≤ n ∧ (cdR b c S).2.1 ≤ (cdR b c S).1 := by
  unfold cdR
  cases b
  · exact ⟨h, h2⟩
  · exact ⟨h, Nat.le_of_succ_le h2⟩
theorem cdR_1 {b : Bool} {c : Int32} {S : bR} : (cdR b c S).1 = S.1 := by
  unfold cdR
  cases b <;> rfl
def BFm (σ : bSt) (n : Nat) : Nat → Int32 := byR (fun k => σ 1 (66 + k)) n
theorem hr_f {σ : bSt} {n p : Nat} : hrR false (BFm σ n p) = if p < n then σ 1 (66 + p) else -1 := rfl
section MG
variable {σ : bSt} {n use f lev o : Nat} {T : bR}
theorem mg_go (hu : use < 2) (hT : T.2.1 ≤ T.1) (hl : T.1 < n) : (prR (BFm σ n) use f lev o (advR T)).2.1 ≤ n ∧ (prR (BFm σ n) use f lev o (advR T)).2.2.1 + 1 ≤ (prR (BFm σ n) use f lev o (advR T)).2.1 := rd_go (tp := fun k => σ 1 (66 + k)) hu hT hl
theorem mg_st (hu : use < 2) (hT : T.2.1 ≤ T.1) (hl : T.1 ≤ n) : (prR (BFm σ n) use f lev o T).2.1 ≤ n ∧ (prR (BFm σ n) use f lev o T).2.2.1 ≤ (prR (BFm σ n) use f lev o T).2.1 := rd_st (tp := fun k => σ 1 (66 + k)) hu hT hl
theorem mg_up (hu : use < 2) (hl : T.1 < n) : T.1 + 1 ≤ (prR (BFm σ n) use f lev o (advR T)).2.1 := (prR_pg (tp := fun k => σ 1 (66 + k)) (n := n) hu f lev o (advR T) hl).1
end MG
theorem rd_up {tp : Nat → Int32} {n use f lev o : Nat} {T : bR} (hu : use < 2) (hl : T.1 < n) : T.1 + 1 ≤ (prR (byR tp n) use f lev o (advR T)).2.1 := (prR_pg (tp := tp) (n := n) hu f lev o (advR T) hl).1
theorem nm_cd : ∀ j : Nat, j < 3 → nI (10000 + j) = cdM (-1 - nI j) := by decide +kernel
theorem nm_ex : ∀ u : Nat, u < 2 → ¬ nmR u 33 < 3 ∧ ¬ nmR u 40 < 3 := by decide +kernel
theorem nm_pos {u : Nat} (hu : u < 2) {c : Int32} (h : c < 0) : ¬ nmR u c < 3 := by
  have p : ∀ u : Nat, u < 2 → ¬ b_tNA (u * 3) < 0 ∧ ¬ b_tNA (u * 3 + 1) < 0 ∧ ¬ b_tNA (u * 3 + 2) < 0 := by decide +kernel
  have q := p u hu
  unfold nmR
  rw [if_neg (show ¬ c = b_tNA (u * 3) from fun z => q.1 (z ▸ h)), if_neg (show ¬ c = b_tNA (u * 3 + 1) from fun z => q.2.1 (z ▸ h)), if_neg (show ¬ c = b_tNA (u * 3 + 2) from fun z => q.2.2 (z ▸ h))]
  decide
theorem dg_wi {c : Int32} : wi c 48 57 ↔ dgB c = true := dgB_iff
section ONE
variable {bf : Nat → Int32} {use f o : Nat} {S : bR}
theorem one_33 (hu : use < 2) (h : bf S.1 = 33) : prR bf use (f + 1) 0 o S = if 5 ≤ o then (false, S) else ((prR bf use f 0 (o + 1) (advR S)).1, cdR (!(prR bf use f 0 (o + 1) (advR S)).1) (-33) (prR bf use f 0 (o + 1) (advR S)).2) := by
  rw [prR, if_pos rfl, h, if_neg (by decide), if_neg (nm_ex use hu).1]
  by_cases c : 5 ≤ o
  · rw [if_pos c, if_pos c]
  · rw [if_neg c, if_neg c, if_pos rfl]
    unfold cdR
    cases e : (prR bf use f 0 (o + 1) (advR S)).1 <;> rfl
theorem one_40 (hu : use < 2) (h : bf S.1 = 40) : prR bf use (f + 1) 0 o S = if 5 ≤ o then (false, S) else if hrR (!(prR bf use f 5 (o + 1) (advR S)).1) (bf (prR bf use f 5 (o + 1) (advR S)).2.1) = 41 then (true, advR (prR bf use f 5 (o + 1) (advR S)).2) else (false, (prR bf use f 5 (o + 1) (advR S)).2) := by
  rw [prR, if_pos rfl, h, if_neg (by decide), if_neg (nm_ex use hu).2]
  by_cases c : 5 ≤ o
  · rw [if_pos c, if_pos c]
  · rw [if_neg c, if_neg c, if_neg (by decide), if_pos rfl]
    cases e : (prR bf use f 5 (o + 1) (advR S)).1 <;> rfl
theorem one_dg (h : dgB (bf S.1) = true) : prR bf use (f + 1) 0 o S = (true, emR (nbR bf 4 S.1 0).2 ((nbR bf 4 S.1 0).1, S.2.1, S.2.2)) := by rw [prR, if_pos rfl, if_pos h]
theorem one_nm (h : ¬ dgB (bf S.1) = true) (h2 : nmR use (bf S.1) < 3) : prR bf use (f + 1) 0 o S = (true, advR (emR (-1 - nI (nmR use (bf S.1))) S)) := by
  rw [prR, if_pos rfl, if_neg h, if_pos h2]; rfl
theorem one_no (h : ¬ dgB (bf S.1) = true) (h2 : ¬ nmR use (bf S.1) < 3) (h3 : ¬ bf S.1 = 33) (h4 : ¬ bf S.1 = 40) : prR bf use (f + 1) 0 o S = (false, S) := by
  rw [prR, if_pos rfl, if_neg h, if_neg h2, if_neg h3, if_neg h4]
  by_cases c : 5 ≤ o
  · rw [if_pos c]
  · rw [if_neg c]
end ONE
theorem nb_stop {bf : Nat → Int32} {p : Nat} {v : Int32} (h : ¬ dgB (bf p) = true) : ∀ k, nbR bf k p v = (p, v)
  | 0 => rfl
  | k + 1 => by rw [nbR, if_neg h]
theorem nb_go {bf : Nat → Int32} {k p : Nat} {v : Int32} (h : dgB (bf p) = true) : nbR bf (k + 1) p v = nbR bf k (p + 1) (v * 10 + bf p - 48) := by rw [nbR, if_pos h]
theorem nb_cd {bf : Nat → Int32} {p : Nat} : (nbR bf 4 p 0).2 = cdM (nbR bf 4 p 0).2 := by
  obtain ⟨x, hx, ex⟩ := nb_rng (bf := bf) 4 p 0
  have ex2 : (nbR bf 4 p 0).2 = nI x := ex
  rw [ex2, cd_num (by omega)]

theorem bI_t {b : Bool} (h : ¬ bI b = 0) : b = true := by
  cases b
  · exact absurd rfl h
  · rfl
theorem bI_f {b : Bool} (h : bI b = 0) : b = false := by
  cases b
  · rfl
  · exact absurd h (by decide)
theorem v_st {x : bX} {w : bw} {nL : Nat} {post : Option Value → bSt → Prop} {pc : Nat} {ls : List (Nat × Value)} {st st2 : List Value} {σ : bSt} (e : st = st2) (k : V x w nL post pc ls st2 σ) : V x w nL post pc ls st σ := e ▸ k

set_option maxHeartbeats 4000000 in
set_option maxRecDepth 100000 in
theorem c_X10_here {w : bw} {σ : bSt} {n o : Nat} {b : Bool} {S : bR} (hm : sModel w) (hN : σ 1 9 = nI n) (hn5 : n ≤ 50) (hp : S.1 ≤ n) : MV yX10_here cX10_here 1 (some .int) (rmm 0 0) w [.ref (b_ad w 0)] (PS σ b S o) (pI (hrR b (BFm σ n S.1)) (PS σ b S o)) := by
  refine b_met (ls := [(0, .ref (b_ad w 0))]) (by decide) (Nat.le_of_ble_eq_true rfl) rfl (fun x h => ?_)
  refine v_aload_n h (i := 0) dX10_here_0 (q := 1) rfl rfl 0 rfl ?_
  refine v_get h (k := 10) (v := .int ((PS σ b S o) 0 10)) cls10 hm.1.1 hm.1.2 (Nat.le_of_ble_eq_true rfl) m859 rfl dX10_here_1 (q := 4) rfl ?_
  rw [show ((PS σ b S o) 0 10 : Int32) = bI b from PS_10]
  refine v_if_ne h (t := 36) dX10_here_4 (by decide) (q := 7) rfl (fun c4 => ?_) (fun c4 => ?_)
  · refine v_iconst h (v := -1) dX10_here_36 (q := 37) rfl (by decide) ?_
    exact v_iret h dX10_here_37 ⟨by rw [bI_t c4]; rfl, rfl⟩
  · refine v_aload_n h (i := 0) dX10_here_7 (q := 8) rfl rfl 0 rfl ?_
    refine v_get h (k := 7) (v := .int ((PS σ b S o) 0 7)) cls10 hm.1.1 hm.1.2 (Nat.le_of_ble_eq_true rfl) m856 rfl dX10_here_8 (q := 11) rfl ?_
    rw [show ((PS σ b S o) 0 7 : Int32) = nI S.1 from PS_7]
    refine v_aload_n h (i := 0) dX10_here_11 (q := 12) rfl rfl 0 rfl ?_
    refine v_get h (k := 0) (v := .ref (b_ad w 1)) cls10 hm.1.1 hm.1.2 (Nat.le_of_ble_eq_true rfl) m849 rfl dX10_here_12 (q := 15) rfl ?_
    refine v_bipush h (v := 9) dX10_here_15 (q := 17) rfl (by decide) ?_
    refine v_iald h (k := 9) hm.2.1.1 hm.2.1.2 (vp_in_nI (n := 9) (by decide) (by decide)) (by decide) dX10_here_17 (q := 18) rfl ?_
    rw [show ((PS σ b S o) 1 9 : Int32) = nI n from (by rw [PS_o (by decide) (by decide)]; exact hN)]
    refine v_icmp_ge h (t := 36) dX10_here_18 (by decide) (q := 21) rfl (fun c18 => ?_) (fun c18 => ?_)
    · refine v_iconst h (v := -1) dX10_here_36 (q := 37) rfl (by decide) ?_
      exact v_iret h dX10_here_37 ⟨by rw [bI_f c4, hr_f, if_neg (by have := (nI_leI (a := n) (b := S.1) (by omega) (by omega)).mp c18; omega)], rfl⟩
    · refine v_aload_n h (i := 0) dX10_here_21 (q := 22) rfl rfl 0 rfl ?_
      refine v_get h (k := 0) (v := .ref (b_ad w 1)) cls10 hm.1.1 hm.1.2 (Nat.le_of_ble_eq_true rfl) m849 rfl dX10_here_22 (q := 25) rfl ?_
      refine v_bipush h (v := 66) dX10_here_25 (q := 27) rfl (by decide) ?_
      refine v_aload_n h (i := 0) dX10_here_27 (q := 28) rfl rfl 0 rfl ?_
      refine v_get h (k := 7) (v := .int ((PS σ b S o) 0 7)) cls10 hm.1.1 hm.1.2 (Nat.le_of_ble_eq_true rfl) m856 rfl dX10_here_28 (q := 31) rfl ?_
      rw [show ((PS σ b S o) 0 7 : Int32) = nI S.1 from PS_7]
      refine v_iadd h dX10_here_31 (q := 32) rfl ?_
      rw [show (66 + (nI S.1) : Int32) = nI (66 + S.1) from (nI_add 66 _)]
      refine v_iald h (k := (66 + S.1)) hm.2.1.1 hm.2.1.2 (vp_in_nI (by omega) (by decide)) (nI_clamp (by omega)) dX10_here_32 (q := 33) rfl ?_
      rw [show ((PS σ b S o) 1 ((66 + S.1)) : Int32) = σ 1 (66 + S.1) from (by rw [PS_o (by decide) (by decide)])]
      refine v_goto h (t := 37) dX10_here_33 (by decide) ?_
      exact v_iret h dX10_here_37 ⟨by rw [bI_f c4, hr_f, if_pos (Nat.lt_of_not_le (fun z => c18 ((nI_leI (a := n) (b := S.1) (by omega) (by omega)).mpr z)))], rfl⟩

set_option maxHeartbeats 4000000 in
set_option maxRecDepth 100000 in
theorem c_X10_takes {w : bw} {σ : bSt} {n o : Nat} {b : Bool} {S : bR} {c : Int32} (hm : sModel w) (hN : σ 1 9 = nI n) (hn5 : n ≤ 50) (hp : S.1 ≤ n) : MV yX10_takes cX10_takes 3 (some .boolean) (rmm 1 20) w [.ref (b_ad w 0), .int c] (PS σ b S o) (pB2 (hrR b (BFm σ n S.1) = c) (PS σ b (advR S) o) (PS σ b S o)) := by
  refine b_met (ls := [(0, .ref (b_ad w 0)), (1, .int c)]) (by decide) (Nat.le_of_ble_eq_true rfl) rfl (fun x h => ?_)
  refine v_aload_n h (i := 0) dX10_takes_0 (q := 1) rfl rfl 0 rfl ?_
  refine v_callV h (As := []) (rest := []) ((c_X10_here (b := b) (S := S) (o := o) hm hN hn5 hp)) cal_X10_here calV_X10_here m1085 ⟨rfl, rfl, Nat.le_of_ble_eq_true rfl, Nat.le_of_ble_eq_true rfl⟩ rfl hm.1.1 hm.1.2 ⟨_, _, rfl⟩ rfl (Nat.le_of_ble_eq_true rfl) dX10_takes_1 (q := 4) rfl (kI ?_)
  refine v_iload_n h (i := 1) dX10_takes_4 (q := 5) rfl rfl 1 rfl ?_
  refine v_icmp_ne h (t := 12) dX10_takes_5 (by decide) (q := 8) rfl (fun c5 => ?_) (fun c5 => ?_)
  · refine v_iconst h (v := 0) dX10_takes_12 (q := 13) rfl (by decide) ?_
    refine v_istore_n h (i := 2) (ls1 := [(2, .int 0), (0, .ref (b_ad w 0)), (1, .int c)]) dX10_takes_13 (q := 14) rfl rfl (Nat.le_of_ble_eq_true rfl) rfl ?_
    refine v_aload_n h (i := 0) dX10_takes_14 (q := 15) rfl rfl 1 rfl ?_
    refine v_dup h dX10_takes_15 (q := 16) rfl rfl ?_
    refine v_get h (k := 7) (v := .int ((PS σ b S o) 0 7)) cls10 hm.1.1 hm.1.2 (Nat.le_of_ble_eq_true rfl) m856 rfl dX10_takes_16 (q := 19) rfl ?_
    rw [show ((PS σ b S o) 0 7 : Int32) = nI S.1 from PS_7]
    refine v_iload_n h (i := 2) dX10_takes_19 (q := 20) rfl rfl 0 rfl ?_
    refine v_if_eq h (t := 27) dX10_takes_20 (by decide) (q := 23) rfl (fun _ => ?_) (fun c => absurd (by decide) c)
    refine v_iconst h (v := 0) dX10_takes_27 (q := 28) rfl (by decide) ?_
    refine v_iadd h dX10_takes_28 (q := 29) rfl ?_
    rw [show ((nI S.1) + 0 : Int32) = nI S.1 from (Int32.add_zero _)]
    refine v_put h (k := 7) cls10 hm.1.1 hm.1.2 (Nat.le_of_ble_eq_true rfl) rfl m856 rfl ⟨rfl, rfl⟩ dX10_takes_29 (q := 32) rfl ?_
    rw [show (b_up (PS σ b S o) 0 7 (nI S.1) : bSt) = PS σ b S o from PS_same]
    refine v_iload_n h (i := 2) dX10_takes_32 (q := 33) rfl rfl 0 rfl ?_
    exact v_zret h rfl dX10_takes_33 (pB2_0 c5 rfl)
  · refine v_iconst h (v := 1) dX10_takes_8 (q := 9) rfl (by decide) ?_
    refine v_goto h (t := 13) dX10_takes_9 (by decide) ?_
    refine v_istore_n h (i := 2) (ls1 := [(2, .int 1), (0, .ref (b_ad w 0)), (1, .int c)]) dX10_takes_13 (q := 14) rfl rfl (Nat.le_of_ble_eq_true rfl) rfl ?_
    refine v_aload_n h (i := 0) dX10_takes_14 (q := 15) rfl rfl 1 rfl ?_
    refine v_dup h dX10_takes_15 (q := 16) rfl rfl ?_
    refine v_get h (k := 7) (v := .int ((PS σ b S o) 0 7)) cls10 hm.1.1 hm.1.2 (Nat.le_of_ble_eq_true rfl) m856 rfl dX10_takes_16 (q := 19) rfl ?_
    rw [show ((PS σ b S o) 0 7 : Int32) = nI S.1 from PS_7]
    refine v_iload_n h (i := 2) dX10_takes_19 (q := 20) rfl rfl 0 rfl ?_
    refine v_if_eq h (t := 27) dX10_takes_20 (by decide) (q := 23) rfl (fun c => absurd c (by decide)) (fun _ => ?_)
    refine v_iconst h (v := 1) dX10_takes_23 (q := 24) rfl (by decide) ?_
    refine v_goto h (t := 28) dX10_takes_24 (by decide) ?_
    refine v_iadd h dX10_takes_28 (q := 29) rfl ?_
    rw [show ((nI S.1) + 1 : Int32) = nI (S.1 + 1) from (nI_1 _)]
    refine v_put h (k := 7) cls10 hm.1.1 hm.1.2 (Nat.le_of_ble_eq_true rfl) rfl m856 rfl ⟨rfl, rfl⟩ dX10_takes_29 (q := 32) rfl ?_
    rw [show (b_up (PS σ b S o) 0 7 (nI (S.1 + 1)) : bSt) = PS σ b (advR S) o from PS_at]
    refine v_iload_n h (i := 2) dX10_takes_32 (q := 33) rfl rfl 0 rfl ?_
    exact v_zret h rfl dX10_takes_33 (pB2_1 c5 rfl)

set_option maxHeartbeats 4000000 in
set_option maxRecDepth 100000 in
theorem c_X10_codes {w : bw} {σ : bSt} {o : Nat} {b : Bool} {S : bR} {v s : Int32} (hm : sModel w) (hv : v = cdM s) (hl : S.2.1 < 60) : MV yX10_codes cX10_codes 2 none (rmm 0 0) w [.ref (b_ad w 0), .int v] (PS σ b S o) (pU (PS σ b (cdR b s S) o)) := by
  refine b_met (ls := [(0, .ref (b_ad w 0)), (1, .int v)]) (by decide) (Nat.le_of_ble_eq_true rfl) rfl (fun x h => ?_)
  refine v_aload_n h (i := 0) dX10_codes_0 (q := 1) rfl rfl 0 rfl ?_
  refine v_get h (k := 10) (v := .int ((PS σ b S o) 0 10)) cls10 hm.1.1 hm.1.2 (Nat.le_of_ble_eq_true rfl) m859 rfl dX10_codes_1 (q := 4) rfl ?_
  rw [show ((PS σ b S o) 0 10 : Int32) = bI b from PS_10]
  refine v_if_ne h (t := 27) dX10_codes_4 (by decide) (q := 7) rfl (fun c4 => ?_) (fun c4 => ?_)
  · exact v_vret h dX10_codes_27 ⟨rfl, by rw [bI_t c4]; rfl⟩
  · refine v_aload_n h (i := 0) dX10_codes_7 (q := 8) rfl rfl 0 rfl ?_
    refine v_get h (k := 11) (v := .ref (b_ad w 7)) cls10 hm.1.1 hm.1.2 (Nat.le_of_ble_eq_true rfl) m860 rfl dX10_codes_8 (q := 11) rfl ?_
    refine v_aload_n h (i := 0) dX10_codes_11 (q := 12) rfl rfl 0 rfl ?_
    refine v_get h (k := 12) (v := .int ((PS σ b S o) 0 12)) cls10 hm.1.1 hm.1.2 (Nat.le_of_ble_eq_true rfl) m861 rfl dX10_codes_12 (q := 15) rfl ?_
    rw [show ((PS σ b S o) 0 12 : Int32) = nI S.2.1 from PS_12]
    refine v_iload_n h (i := 1) dX10_codes_15 (q := 16) rfl rfl 1 rfl ?_
    refine v_iast h (k := S.2.1) hm.2.2.2.2.2.2.2.1.1 hm.2.2.2.2.2.2.2.1.2 (vp_in_nI (by omega) (by decide)) (nI_clamp (by omega)) dX10_codes_16 (q := 17) rfl ?_
    refine v_aload_n h (i := 0) dX10_codes_17 (q := 18) rfl rfl 0 rfl ?_
    refine v_dup h dX10_codes_18 (q := 19) rfl rfl ?_
    refine v_get h (k := 12) (v := .int ((b_up (PS σ b S o) 7 S.2.1 v) 0 12)) cls10 hm.1.1 hm.1.2 (Nat.le_of_ble_eq_true rfl) m861 rfl dX10_codes_19 (q := 22) rfl ?_
    rw [show ((b_up (PS σ b S o) 7 S.2.1 v) 0 12 : Int32) = nI S.2.1 from (by rw [b_up_n (by decide)]; exact PS_12)]
    refine v_iconst h (v := 1) dX10_codes_22 (q := 23) rfl (by decide) ?_
    refine v_iadd h dX10_codes_23 (q := 24) rfl ?_
    rw [show ((nI S.2.1) + 1 : Int32) = nI (S.2.1 + 1) from (nI_1 _)]
    refine v_put h (k := 12) cls10 hm.1.1 hm.1.2 (Nat.le_of_ble_eq_true rfl) rfl m861 rfl ⟨rfl, rfl⟩ dX10_codes_24 (q := 27) rfl ?_
    exact v_vret h dX10_codes_27 ⟨rfl, by rw [hv, PS_em, bI_f c4]; rfl⟩

/-- a level of the model's reader with so much nesting to come -/
def PM (w : bw) (σ : bSt) (n use : Nat) (y : MethodName) (c : ByteArray) (nL lev f : Nat) : Prop := ∀ (o : Nat) (S : bR), o ≤ 5 → 6 * (5 - o) + lev + 1 ≤ f → S.1 ≤ n → S.2.1 ≤ S.1 →
  MV y c nL none (rmm (3 * f + 4) (100 * f + 100)) w [.ref (b_ad w 0)] (PS σ false S o) (pU (PS σ (!(prR (BFm σ n) use f lev o S).1) (prR (BFm σ n) use f lev o S).2 o))

set_option maxHeartbeats 4000000 in
set_option maxRecDepth 100000 in
theorem lX10_both_4 {w : bw} {σ : bSt} {n use f o : Nat} {S : bR} (hm : sModel w) (hN : σ 1 9 = nI n) (hn5 : n ≤ 50) (hu : σ 0 9 = nI use) (hu2 : use < 2) (hsub : PM w σ n use yX10_compared cX10_compared 2 3 f) (ho : o ≤ 5) (hne : 6 * (5 - o) + 4 + 1 ≤ f + 1) (hp : S.1 ≤ n) (hlen : S.2.1 ≤ S.1) {x : bX} (h : Cx x w cX10_both RX10 1 none (rmm (3 * f + 7) (100 * f + 200))) : ∀ k : Nat, ∀ (b : Bool) (T : bR), n ≤ T.1 + k → T.1 ≤ n → T.2.1 ≤ T.1 → lmR (prR (BFm σ n) use f 3 o) (opR 4) (BFm σ n) k b T = prR (BFm σ n) use (f + 1) 4 o S → V x w 1 (pU (PS σ (!(prR (BFm σ n) use (f + 1) 4 o S).1) (prR (BFm σ n) use (f + 1) 4 o S).2 o)) 4 [(0, .ref (b_ad w 0))] [] (PS σ b T o) := by
  refine b_ind (fun k ih => ?_)
  intro b T hk hTn hTl hlp
  refine v_aload_n h (i := 0) dX10_both_4 (q := 5) rfl rfl 0 rfl ?_
  refine v_bipush h (v := 38) dX10_both_5 (q := 7) rfl (by decide) ?_
  refine v_callV h (As := [.int 38]) (rest := []) ((c_X10_takes (n := n) (b := b) (S := T) (o := o) (c := 38) hm hN hn5 hTn)) cal_X10_takes calV_X10_takes m1093 ⟨rfl, rfl, by dsimp only; omega, by dsimp only; omega⟩ rfl hm.1.1 hm.1.2 ⟨_, _, rfl⟩ rfl (Nat.le_of_ble_eq_true rfl) dX10_both_7 (q := 10) rfl (kB2 (fun c7 => ?_) (fun c7 => ?_))
  · refine v_if_eq h (t := 27) dX10_both_10 (by decide) (q := 13) rfl (fun c => absurd c (by decide)) (fun _ => ?_)
    obtain ⟨rfl, hc⟩ := hr_eq c7 (by decide)
    have hop : opR 4 (hrR false (BFm σ n T.1)) = true := by rw [c7]; decide
    have hTl1 : T.1 < n := byR_lt (tp := fun k => σ 1 (66 + k)) (opR_ne (lm_b hop).2)
    have hgo := mg_go (σ := σ) (n := n) (use := use) (f := f) (lev := 3) (o := o) hu2 hTl hTl1
    have hup := mg_up (σ := σ) (n := n) (use := use) (f := f) (lev := 3) (o := o) hu2 hTl1
    refine v_aload_n h (i := 0) dX10_both_13 (q := 14) rfl rfl 0 rfl ?_
    refine v_callV h (As := []) (rest := []) ((hsub o (advR T) ho (by omega) hTl1 (by show T.2.1 ≤ T.1 + 1; omega))) cal_X10_compared calV_X10_compared m1069 ⟨rfl, rfl, by dsimp only; omega, by dsimp only; omega⟩ rfl hm.1.1 hm.1.2 ⟨_, _, rfl⟩ rfl (Nat.le_of_ble_eq_true rfl) dX10_both_14 (q := 17) rfl (kU ?_)
    refine v_aload_n h (i := 0) dX10_both_17 (q := 18) rfl rfl 0 rfl ?_
    refine v_sipush h (v := 20001) dX10_both_18 (q := 21) rfl (by decide) ?_
    refine v_callV h (As := [.int 20001]) (rest := []) ((c_X10_codes (b := !(prR (BFm σ n) use f 3 o (advR T)).1) (S := (prR (BFm σ n) use f 3 o (advR T)).2) (o := o) (v := 20001) (s := -38) hm (by decide) (by omega))) cal_X10_codes calV_X10_codes m1089 ⟨rfl, rfl, by dsimp only; omega, by dsimp only; omega⟩ rfl hm.1.1 hm.1.2 ⟨_, _, rfl⟩ rfl (Nat.le_of_ble_eq_true rfl) dX10_both_21 (q := 24) rfl (kU ?_)
    refine v_goto h (t := 4) dX10_both_24 (by decide) ?_
    exact ih (k - 1) (by omega) (!(prR (BFm σ n) use f 3 o (advR T)).1) (cdR (!(prR (BFm σ n) use f 3 o (advR T)).1) (-38) (prR (BFm σ n) use f 3 o (advR T)).2) (by rw [cdR_1]; omega) (cdR_le hgo.1 hgo.2).1 (cdR_le hgo.1 hgo.2).2 (by rw [← hlp, show k = (k - 1) + 1 by omega, lm_go hop, hc]; rfl)
  · refine v_if_eq h (t := 27) dX10_both_10 (by decide) (q := 13) rfl (fun _ => ?_) (fun c => absurd (by decide) c)
    exact v_vret h dX10_both_27 ⟨rfl, ps_end (by rw [← hlp, lm_stop (by unfold opR; simp [c7])])⟩
set_option maxHeartbeats 4000000 in
set_option maxRecDepth 100000 in
theorem c_X10_both {w : bw} {σ : bSt} {n use f o : Nat} {S : bR} (hm : sModel w) (hN : σ 1 9 = nI n) (hn5 : n ≤ 50) (hu : σ 0 9 = nI use) (hu2 : use < 2) (hsub : PM w σ n use yX10_compared cX10_compared 2 3 f) (ho : o ≤ 5) (hne : 6 * (5 - o) + 4 + 1 ≤ f + 1) (hp : S.1 ≤ n) (hlen : S.2.1 ≤ S.1) : MV yX10_both cX10_both 1 none (rmm (3 * f + 7) (100 * f + 200)) w [.ref (b_ad w 0)] (PS σ false S o) (pU (PS σ (!(prR (BFm σ n) use (f + 1) 4 o S).1) (prR (BFm σ n) use (f + 1) 4 o S).2 o)) := by
  refine b_met (ls := [(0, .ref (b_ad w 0))]) (by decide) (Nat.le_of_ble_eq_true rfl) rfl (fun x h => ?_)
  refine v_aload_n h (i := 0) dX10_both_0 (q := 1) rfl rfl 0 rfl ?_
  refine v_callV h (As := []) (rest := []) ((hsub o S ho (by omega) hp hlen)) cal_X10_compared calV_X10_compared m1069 ⟨rfl, rfl, by dsimp only; omega, by dsimp only; omega⟩ rfl hm.1.1 hm.1.2 ⟨_, _, rfl⟩ rfl (Nat.le_of_ble_eq_true rfl) dX10_both_1 (q := 4) rfl (kU ?_)
  exact lX10_both_4 hm hN hn5 hu hu2 hsub ho hne hp hlen h 50 _ _ (by omega) (mg_st (σ := σ) (n := n) hu2 hlen hp).1 (mg_st (σ := σ) (n := n) hu2 hlen hp).2 (pr_lm (lev := 4) (by decide)).symm

set_option maxHeartbeats 4000000 in
set_option maxRecDepth 100000 in
theorem lX10_either_4 {w : bw} {σ : bSt} {n use f o : Nat} {S : bR} (hm : sModel w) (hN : σ 1 9 = nI n) (hn5 : n ≤ 50) (hu : σ 0 9 = nI use) (hu2 : use < 2) (hsub : PM w σ n use yX10_both cX10_both 1 4 f) (ho : o ≤ 5) (hne : 6 * (5 - o) + 5 + 1 ≤ f + 1) (hp : S.1 ≤ n) (hlen : S.2.1 ≤ S.1) {x : bX} (h : Cx x w cX10_either RX10 1 none (rmm (3 * f + 7) (100 * f + 200))) : ∀ k : Nat, ∀ (b : Bool) (T : bR), n ≤ T.1 + k → T.1 ≤ n → T.2.1 ≤ T.1 → lmR (prR (BFm σ n) use f 4 o) (opR 5) (BFm σ n) k b T = prR (BFm σ n) use (f + 1) 5 o S → V x w 1 (pU (PS σ (!(prR (BFm σ n) use (f + 1) 5 o S).1) (prR (BFm σ n) use (f + 1) 5 o S).2 o)) 4 [(0, .ref (b_ad w 0))] [] (PS σ b T o) := by
  refine b_ind (fun k ih => ?_)
  intro b T hk hTn hTl hlp
  refine v_aload_n h (i := 0) dX10_either_4 (q := 5) rfl rfl 0 rfl ?_
  refine v_bipush h (v := 124) dX10_either_5 (q := 7) rfl (by decide) ?_
  refine v_callV h (As := [.int 124]) (rest := []) ((c_X10_takes (n := n) (b := b) (S := T) (o := o) (c := 124) hm hN hn5 hTn)) cal_X10_takes calV_X10_takes m1093 ⟨rfl, rfl, by dsimp only; omega, by dsimp only; omega⟩ rfl hm.1.1 hm.1.2 ⟨_, _, rfl⟩ rfl (Nat.le_of_ble_eq_true rfl) dX10_either_7 (q := 10) rfl (kB2 (fun c7 => ?_) (fun c7 => ?_))
  · refine v_if_eq h (t := 27) dX10_either_10 (by decide) (q := 13) rfl (fun c => absurd c (by decide)) (fun _ => ?_)
    obtain ⟨rfl, hc⟩ := hr_eq c7 (by decide)
    have hop : opR 5 (hrR false (BFm σ n T.1)) = true := by rw [c7]; decide
    have hTl1 : T.1 < n := byR_lt (tp := fun k => σ 1 (66 + k)) (opR_ne (lm_b hop).2)
    have hgo := mg_go (σ := σ) (n := n) (use := use) (f := f) (lev := 4) (o := o) hu2 hTl hTl1
    have hup := mg_up (σ := σ) (n := n) (use := use) (f := f) (lev := 4) (o := o) hu2 hTl1
    refine v_aload_n h (i := 0) dX10_either_13 (q := 14) rfl rfl 0 rfl ?_
    refine v_callV h (As := []) (rest := []) ((hsub o (advR T) ho (by omega) hTl1 (by show T.2.1 ≤ T.1 + 1; omega))) cal_X10_both calV_X10_both m1065 ⟨rfl, rfl, by dsimp only; omega, by dsimp only; omega⟩ rfl hm.1.1 hm.1.2 ⟨_, _, rfl⟩ rfl (Nat.le_of_ble_eq_true rfl) dX10_either_14 (q := 17) rfl (kU ?_)
    refine v_aload_n h (i := 0) dX10_either_17 (q := 18) rfl rfl 0 rfl ?_
    refine v_sipush h (v := 20000) dX10_either_18 (q := 21) rfl (by decide) ?_
    refine v_callV h (As := [.int 20000]) (rest := []) ((c_X10_codes (b := !(prR (BFm σ n) use f 4 o (advR T)).1) (S := (prR (BFm σ n) use f 4 o (advR T)).2) (o := o) (v := 20000) (s := -124) hm (by decide) (by omega))) cal_X10_codes calV_X10_codes m1089 ⟨rfl, rfl, by dsimp only; omega, by dsimp only; omega⟩ rfl hm.1.1 hm.1.2 ⟨_, _, rfl⟩ rfl (Nat.le_of_ble_eq_true rfl) dX10_either_21 (q := 24) rfl (kU ?_)
    refine v_goto h (t := 4) dX10_either_24 (by decide) ?_
    exact ih (k - 1) (by omega) (!(prR (BFm σ n) use f 4 o (advR T)).1) (cdR (!(prR (BFm σ n) use f 4 o (advR T)).1) (-124) (prR (BFm σ n) use f 4 o (advR T)).2) (by rw [cdR_1]; omega) (cdR_le hgo.1 hgo.2).1 (cdR_le hgo.1 hgo.2).2 (by rw [← hlp, show k = (k - 1) + 1 by omega, lm_go hop, hc]; rfl)
  · refine v_if_eq h (t := 27) dX10_either_10 (by decide) (q := 13) rfl (fun _ => ?_) (fun c => absurd (by decide) c)
    exact v_vret h dX10_either_27 ⟨rfl, ps_end (by rw [← hlp, lm_stop (by unfold opR; simp [c7])])⟩
set_option maxHeartbeats 4000000 in
set_option maxRecDepth 100000 in
theorem c_X10_either {w : bw} {σ : bSt} {n use f o : Nat} {S : bR} (hm : sModel w) (hN : σ 1 9 = nI n) (hn5 : n ≤ 50) (hu : σ 0 9 = nI use) (hu2 : use < 2) (hsub : PM w σ n use yX10_both cX10_both 1 4 f) (ho : o ≤ 5) (hne : 6 * (5 - o) + 5 + 1 ≤ f + 1) (hp : S.1 ≤ n) (hlen : S.2.1 ≤ S.1) : MV yX10_either cX10_either 1 none (rmm (3 * f + 7) (100 * f + 200)) w [.ref (b_ad w 0)] (PS σ false S o) (pU (PS σ (!(prR (BFm σ n) use (f + 1) 5 o S).1) (prR (BFm σ n) use (f + 1) 5 o S).2 o)) := by
  refine b_met (ls := [(0, .ref (b_ad w 0))]) (by decide) (Nat.le_of_ble_eq_true rfl) rfl (fun x h => ?_)
  refine v_aload_n h (i := 0) dX10_either_0 (q := 1) rfl rfl 0 rfl ?_
  refine v_callV h (As := []) (rest := []) ((hsub o S ho (by omega) hp hlen)) cal_X10_both calV_X10_both m1065 ⟨rfl, rfl, by dsimp only; omega, by dsimp only; omega⟩ rfl hm.1.1 hm.1.2 ⟨_, _, rfl⟩ rfl (Nat.le_of_ble_eq_true rfl) dX10_either_1 (q := 4) rfl (kU ?_)
  exact lX10_either_4 hm hN hn5 hu hu2 hsub ho hne hp hlen h 50 _ _ (by omega) (mg_st (σ := σ) (n := n) hu2 hlen hp).1 (mg_st (σ := σ) (n := n) hu2 hlen hp).2 (pr_lm (lev := 5) (by decide)).symm

set_option maxHeartbeats 4000000 in
set_option maxRecDepth 100000 in
theorem lX10_compared_4 {w : bw} {σ : bSt} {n use f o : Nat} {S : bR} (hm : sModel w) (hN : σ 1 9 = nI n) (hn5 : n ≤ 50) (hu : σ 0 9 = nI use) (hu2 : use < 2) (hsub : PM w σ n use yX10_sum cX10_sum 2 2 f) (ho : o ≤ 5) (hne : 6 * (5 - o) + 3 + 1 ≤ f + 1) (hp : S.1 ≤ n) (hlen : S.2.1 ≤ S.1) {x : bX} (h : Cx x w cX10_compared RX10 2 none (rmm (3 * f + 7) (100 * f + 200))) : ∀ (b : Bool) (T : bR), T.1 ≤ n → T.2.1 ≤ T.1 → lmR (prR (BFm σ n) use f 2 o) (opR 3) (BFm σ n) 1 b T = prR (BFm σ n) use (f + 1) 3 o S → V x w 2 (pU (PS σ (!(prR (BFm σ n) use (f + 1) 3 o S).1) (prR (BFm σ n) use (f + 1) 3 o S).2 o)) 4 [(0, .ref (b_ad w 0))] [] (PS σ b T o) := by
  intro b T hTn hTl hlp
  refine v_aload_n h (i := 0) dX10_compared_4 (q := 5) rfl rfl 0 rfl ?_
  refine v_bipush h (v := 60) dX10_compared_5 (q := 7) rfl (by decide) ?_
  refine v_callV h (As := [.int 60]) (rest := []) ((c_X10_takes (n := n) (b := b) (S := T) (o := o) (c := 60) hm hN hn5 hTn)) cal_X10_takes calV_X10_takes m1093 ⟨rfl, rfl, by dsimp only; omega, by dsimp only; omega⟩ rfl hm.1.1 hm.1.2 ⟨_, _, rfl⟩ rfl (Nat.le_of_ble_eq_true rfl) dX10_compared_7 (q := 10) rfl (kB2 (fun c7 => ?_) (fun c7 => ?_))
  · refine v_if_eq h (t := 19) dX10_compared_10 (by decide) (q := 13) rfl (fun c => absurd c (by decide)) (fun _ => ?_)
    refine v_sipush h (v := 20002) dX10_compared_13 (q := 16) rfl (by decide) ?_
    refine v_goto h (t := 50) dX10_compared_16 (by decide) ?_
    refine v_istore_n h (i := 1) (ls1 := [(1, .int 20002), (0, .ref (b_ad w 0))]) dX10_compared_50 (q := 51) rfl rfl (Nat.le_of_ble_eq_true rfl) rfl ?_
    refine v_iload_n h (i := 1) dX10_compared_51 (q := 52) rfl rfl 0 rfl ?_
    refine v_if_le h (t := 64) dX10_compared_52 (by decide) (q := 55) rfl (fun c => absurd c (by decide)) (fun _ => ?_)
    obtain ⟨rfl, hc⟩ := hr_eq c7 (by decide)
    have hop : opR 3 (hrR false (BFm σ n T.1)) = true := by rw [c7]; decide
    have hTl1 : T.1 < n := byR_lt (tp := fun k => σ 1 (66 + k)) (opR_ne (lm_b hop).2)
    have hgo := mg_go (σ := σ) (n := n) (use := use) (f := f) (lev := 2) (o := o) hu2 hTl hTl1
    have hup := mg_up (σ := σ) (n := n) (use := use) (f := f) (lev := 2) (o := o) hu2 hTl1
    refine v_aload_n h (i := 0) dX10_compared_55 (q := 56) rfl rfl 1 rfl ?_
    refine v_callV h (As := []) (rest := []) ((hsub o (advR T) ho (by omega) hTl1 (by show T.2.1 ≤ T.1 + 1; omega))) cal_X10_sum calV_X10_sum m1073 ⟨rfl, rfl, by dsimp only; omega, by dsimp only; omega⟩ rfl hm.1.1 hm.1.2 ⟨_, _, rfl⟩ rfl (Nat.le_of_ble_eq_true rfl) dX10_compared_56 (q := 59) rfl (kU ?_)
    refine v_aload_n h (i := 0) dX10_compared_59 (q := 60) rfl rfl 1 rfl ?_
    refine v_iload_n h (i := 1) dX10_compared_60 (q := 61) rfl rfl 0 rfl ?_
    refine v_callV h (As := [.int 20002]) (rest := []) ((c_X10_codes (b := !(prR (BFm σ n) use f 2 o (advR T)).1) (S := (prR (BFm σ n) use f 2 o (advR T)).2) (o := o) (v := 20002) (s := -60) hm (by decide) (by omega))) cal_X10_codes calV_X10_codes m1089 ⟨rfl, rfl, by dsimp only; omega, by dsimp only; omega⟩ rfl hm.1.1 hm.1.2 ⟨_, _, rfl⟩ rfl (Nat.le_of_ble_eq_true rfl) dX10_compared_61 (q := 64) rfl (kU ?_)
    exact v_vret h dX10_compared_64 ⟨rfl, ps_end (by rw [← hlp]; exact ((lm_go (k := 0) hop).trans (by rw [hc]; exact lm_0)).symm)⟩
  · refine v_if_eq h (t := 19) dX10_compared_10 (by decide) (q := 13) rfl (fun _ => ?_) (fun c => absurd (by decide) c)
    refine v_aload_n h (i := 0) dX10_compared_19 (q := 20) rfl rfl 0 rfl ?_
    refine v_bipush h (v := 61) dX10_compared_20 (q := 22) rfl (by decide) ?_
    refine v_callV h (As := [.int 61]) (rest := []) ((c_X10_takes (n := n) (b := b) (S := T) (o := o) (c := 61) hm hN hn5 hTn)) cal_X10_takes calV_X10_takes m1093 ⟨rfl, rfl, by dsimp only; omega, by dsimp only; omega⟩ rfl hm.1.1 hm.1.2 ⟨_, _, rfl⟩ rfl (Nat.le_of_ble_eq_true rfl) dX10_compared_22 (q := 25) rfl (kB2 (fun c22 => ?_) (fun c22 => ?_))
    · refine v_if_eq h (t := 34) dX10_compared_25 (by decide) (q := 28) rfl (fun c => absurd c (by decide)) (fun _ => ?_)
      refine v_sipush h (v := 20003) dX10_compared_28 (q := 31) rfl (by decide) ?_
      refine v_goto h (t := 50) dX10_compared_31 (by decide) ?_
      refine v_istore_n h (i := 1) (ls1 := [(1, .int 20003), (0, .ref (b_ad w 0))]) dX10_compared_50 (q := 51) rfl rfl (Nat.le_of_ble_eq_true rfl) rfl ?_
      refine v_iload_n h (i := 1) dX10_compared_51 (q := 52) rfl rfl 0 rfl ?_
      refine v_if_le h (t := 64) dX10_compared_52 (by decide) (q := 55) rfl (fun c => absurd c (by decide)) (fun _ => ?_)
      obtain ⟨rfl, hc⟩ := hr_eq c22 (by decide)
      have hop : opR 3 (hrR false (BFm σ n T.1)) = true := by rw [c22]; decide
      have hTl1 : T.1 < n := byR_lt (tp := fun k => σ 1 (66 + k)) (opR_ne (lm_b hop).2)
      have hgo := mg_go (σ := σ) (n := n) (use := use) (f := f) (lev := 2) (o := o) hu2 hTl hTl1
      have hup := mg_up (σ := σ) (n := n) (use := use) (f := f) (lev := 2) (o := o) hu2 hTl1
      refine v_aload_n h (i := 0) dX10_compared_55 (q := 56) rfl rfl 1 rfl ?_
      refine v_callV h (As := []) (rest := []) ((hsub o (advR T) ho (by omega) hTl1 (by show T.2.1 ≤ T.1 + 1; omega))) cal_X10_sum calV_X10_sum m1073 ⟨rfl, rfl, by dsimp only; omega, by dsimp only; omega⟩ rfl hm.1.1 hm.1.2 ⟨_, _, rfl⟩ rfl (Nat.le_of_ble_eq_true rfl) dX10_compared_56 (q := 59) rfl (kU ?_)
      refine v_aload_n h (i := 0) dX10_compared_59 (q := 60) rfl rfl 1 rfl ?_
      refine v_iload_n h (i := 1) dX10_compared_60 (q := 61) rfl rfl 0 rfl ?_
      refine v_callV h (As := [.int 20003]) (rest := []) ((c_X10_codes (b := !(prR (BFm σ n) use f 2 o (advR T)).1) (S := (prR (BFm σ n) use f 2 o (advR T)).2) (o := o) (v := 20003) (s := -61) hm (by decide) (by omega))) cal_X10_codes calV_X10_codes m1089 ⟨rfl, rfl, by dsimp only; omega, by dsimp only; omega⟩ rfl hm.1.1 hm.1.2 ⟨_, _, rfl⟩ rfl (Nat.le_of_ble_eq_true rfl) dX10_compared_61 (q := 64) rfl (kU ?_)
      exact v_vret h dX10_compared_64 ⟨rfl, ps_end (by rw [← hlp]; exact ((lm_go (k := 0) hop).trans (by rw [hc]; exact lm_0)).symm)⟩
    · refine v_if_eq h (t := 34) dX10_compared_25 (by decide) (q := 28) rfl (fun _ => ?_) (fun c => absurd (by decide) c)
      refine v_aload_n h (i := 0) dX10_compared_34 (q := 35) rfl rfl 0 rfl ?_
      refine v_bipush h (v := 62) dX10_compared_35 (q := 37) rfl (by decide) ?_
      refine v_callV h (As := [.int 62]) (rest := []) ((c_X10_takes (n := n) (b := b) (S := T) (o := o) (c := 62) hm hN hn5 hTn)) cal_X10_takes calV_X10_takes m1093 ⟨rfl, rfl, by dsimp only; omega, by dsimp only; omega⟩ rfl hm.1.1 hm.1.2 ⟨_, _, rfl⟩ rfl (Nat.le_of_ble_eq_true rfl) dX10_compared_37 (q := 40) rfl (kB2 (fun c37 => ?_) (fun c37 => ?_))
      · refine v_if_eq h (t := 49) dX10_compared_40 (by decide) (q := 43) rfl (fun c => absurd c (by decide)) (fun _ => ?_)
        refine v_sipush h (v := 20004) dX10_compared_43 (q := 46) rfl (by decide) ?_
        refine v_goto h (t := 50) dX10_compared_46 (by decide) ?_
        refine v_istore_n h (i := 1) (ls1 := [(1, .int 20004), (0, .ref (b_ad w 0))]) dX10_compared_50 (q := 51) rfl rfl (Nat.le_of_ble_eq_true rfl) rfl ?_
        refine v_iload_n h (i := 1) dX10_compared_51 (q := 52) rfl rfl 0 rfl ?_
        refine v_if_le h (t := 64) dX10_compared_52 (by decide) (q := 55) rfl (fun c => absurd c (by decide)) (fun _ => ?_)
        obtain ⟨rfl, hc⟩ := hr_eq c37 (by decide)
        have hop : opR 3 (hrR false (BFm σ n T.1)) = true := by rw [c37]; decide
        have hTl1 : T.1 < n := byR_lt (tp := fun k => σ 1 (66 + k)) (opR_ne (lm_b hop).2)
        have hgo := mg_go (σ := σ) (n := n) (use := use) (f := f) (lev := 2) (o := o) hu2 hTl hTl1
        have hup := mg_up (σ := σ) (n := n) (use := use) (f := f) (lev := 2) (o := o) hu2 hTl1
        refine v_aload_n h (i := 0) dX10_compared_55 (q := 56) rfl rfl 1 rfl ?_
        refine v_callV h (As := []) (rest := []) ((hsub o (advR T) ho (by omega) hTl1 (by show T.2.1 ≤ T.1 + 1; omega))) cal_X10_sum calV_X10_sum m1073 ⟨rfl, rfl, by dsimp only; omega, by dsimp only; omega⟩ rfl hm.1.1 hm.1.2 ⟨_, _, rfl⟩ rfl (Nat.le_of_ble_eq_true rfl) dX10_compared_56 (q := 59) rfl (kU ?_)
        refine v_aload_n h (i := 0) dX10_compared_59 (q := 60) rfl rfl 1 rfl ?_
        refine v_iload_n h (i := 1) dX10_compared_60 (q := 61) rfl rfl 0 rfl ?_
        refine v_callV h (As := [.int 20004]) (rest := []) ((c_X10_codes (b := !(prR (BFm σ n) use f 2 o (advR T)).1) (S := (prR (BFm σ n) use f 2 o (advR T)).2) (o := o) (v := 20004) (s := -62) hm (by decide) (by omega))) cal_X10_codes calV_X10_codes m1089 ⟨rfl, rfl, by dsimp only; omega, by dsimp only; omega⟩ rfl hm.1.1 hm.1.2 ⟨_, _, rfl⟩ rfl (Nat.le_of_ble_eq_true rfl) dX10_compared_61 (q := 64) rfl (kU ?_)
        exact v_vret h dX10_compared_64 ⟨rfl, ps_end (by rw [← hlp]; exact ((lm_go (k := 0) hop).trans (by rw [hc]; exact lm_0)).symm)⟩
      · refine v_if_eq h (t := 49) dX10_compared_40 (by decide) (q := 43) rfl (fun _ => ?_) (fun c => absurd (by decide) c)
        refine v_iconst h (v := 0) dX10_compared_49 (q := 50) rfl (by decide) ?_
        refine v_istore_n h (i := 1) (ls1 := [(1, .int 0), (0, .ref (b_ad w 0))]) dX10_compared_50 (q := 51) rfl rfl (Nat.le_of_ble_eq_true rfl) rfl ?_
        refine v_iload_n h (i := 1) dX10_compared_51 (q := 52) rfl rfl 0 rfl ?_
        refine v_if_le h (t := 64) dX10_compared_52 (by decide) (q := 55) rfl (fun _ => ?_) (fun c => absurd (by decide) c)
        exact v_vret h dX10_compared_64 ⟨rfl, ps_end (by rw [← hlp, lm_stop (by unfold opR; simp [c7, c22, c37])])⟩
set_option maxHeartbeats 4000000 in
set_option maxRecDepth 100000 in
theorem c_X10_compared {w : bw} {σ : bSt} {n use f o : Nat} {S : bR} (hm : sModel w) (hN : σ 1 9 = nI n) (hn5 : n ≤ 50) (hu : σ 0 9 = nI use) (hu2 : use < 2) (hsub : PM w σ n use yX10_sum cX10_sum 2 2 f) (ho : o ≤ 5) (hne : 6 * (5 - o) + 3 + 1 ≤ f + 1) (hp : S.1 ≤ n) (hlen : S.2.1 ≤ S.1) : MV yX10_compared cX10_compared 2 none (rmm (3 * f + 7) (100 * f + 200)) w [.ref (b_ad w 0)] (PS σ false S o) (pU (PS σ (!(prR (BFm σ n) use (f + 1) 3 o S).1) (prR (BFm σ n) use (f + 1) 3 o S).2 o)) := by
  refine b_met (ls := [(0, .ref (b_ad w 0))]) (by decide) (Nat.le_of_ble_eq_true rfl) rfl (fun x h => ?_)
  refine v_aload_n h (i := 0) dX10_compared_0 (q := 1) rfl rfl 0 rfl ?_
  refine v_callV h (As := []) (rest := []) ((hsub o S ho (by omega) hp hlen)) cal_X10_sum calV_X10_sum m1073 ⟨rfl, rfl, by dsimp only; omega, by dsimp only; omega⟩ rfl hm.1.1 hm.1.2 ⟨_, _, rfl⟩ rfl (Nat.le_of_ble_eq_true rfl) dX10_compared_1 (q := 4) rfl (kU ?_)
  exact lX10_compared_4 hm hN hn5 hu hu2 hsub ho hne hp hlen h _ _ (mg_st (σ := σ) (n := n) hu2 hlen hp).1 (mg_st (σ := σ) (n := n) hu2 hlen hp).2 (pr_lm (lev := 3) (by decide)).symm

set_option maxHeartbeats 4000000 in
set_option maxRecDepth 100000 in
theorem lX10_sum_36 {w : bw} {σ : bSt} {n use f o : Nat} {S : bR} (hm : sModel w) (hN : σ 1 9 = nI n) (hn5 : n ≤ 50) (hu : σ 0 9 = nI use) (hu2 : use < 2) (hsub : PM w σ n use yX10_product cX10_product 2 1 f) (ho : o ≤ 5) (hne : 6 * (5 - o) + 2 + 1 ≤ f + 1) (hp : S.1 ≤ n) (hlen : S.2.1 ≤ S.1) {x : bX} (h : Cx x w cX10_sum RX10 2 none (rmm (3 * f + 7) (100 * f + 200))) : ∀ k : Nat, ∀ (b : Bool) (T U : bR) (v : Int32), n ≤ T.1 + k → T.1 ≤ n → T.2.1 ≤ T.1 → lmR (prR (BFm σ n) use f 1 o) (opR 2) (BFm σ n) k b T = prR (BFm σ n) use (f + 1) 2 o S → ((v = 0 ∧ U = T ∧ ¬ opR 2 (hrR b (BFm σ n T.1)) = true) ∨ (U = advR T ∧ opR 2 (hrR b (BFm σ n T.1)) = true ∧ v = cdM (-(BFm σ n T.1)) ∧ 0 < v)) → V x w 2 (pU (PS σ (!(prR (BFm σ n) use (f + 1) 2 o S).1) (prR (BFm σ n) use (f + 1) 2 o S).2 o)) 36 [(1, .int v), (0, .ref (b_ad w 0))] [] (PS σ b U o) := by
  refine b_ind (fun k ih => ?_)
  intro b T U v hk hTn hTl hlp hv
  refine v_iload_n h (i := 1) dX10_sum_36 (q := 37) rfl rfl 0 rfl ?_
  refine v_if_le h (t := 84) dX10_sum_37 (by decide) (q := 40) rfl (fun c37 => ?_) (fun c37 => ?_)
  · exact v_vret h dX10_sum_84 ⟨rfl, by
  rcases hv with ⟨_, rfl, hno⟩ | ⟨_, _, _, h0⟩
  · exact ps_end (by rw [← hlp, lm_stop hno])
  · exact absurd c37 (Int32.not_le.mpr h0)⟩
  · rcases hv with ⟨rfl, _, _⟩ | ⟨rfl, hop, hv2, _⟩
    · exact absurd (by decide) c37
    obtain ⟨rfl, hc0⟩ := lm_b hop
    have hTl1 : T.1 < n := byR_lt (tp := fun k => σ 1 (66 + k)) (opR_ne (lm_b hop).2)
    have hgo := mg_go (σ := σ) (n := n) (use := use) (f := f) (lev := 1) (o := o) hu2 hTl hTl1
    have hup := mg_up (σ := σ) (n := n) (use := use) (f := f) (lev := 1) (o := o) hu2 hTl1
    have hcl := cdR_le (b := !(prR (BFm σ n) use f 1 o (advR T)).1) (c := -(BFm σ n T.1)) hgo.1 hgo.2
    refine v_aload_n h (i := 0) dX10_sum_40 (q := 41) rfl rfl 1 rfl ?_
    refine v_callV h (As := []) (rest := []) ((hsub o (advR T) ho (by omega) hTl1 (by show T.2.1 ≤ T.1 + 1; omega))) cal_X10_product calV_X10_product m1077 ⟨rfl, rfl, by dsimp only; omega, by dsimp only; omega⟩ rfl hm.1.1 hm.1.2 ⟨_, _, rfl⟩ rfl (Nat.le_of_ble_eq_true rfl) dX10_sum_41 (q := 44) rfl (kU ?_)
    refine v_aload_n h (i := 0) dX10_sum_44 (q := 45) rfl rfl 1 rfl ?_
    refine v_iload_n h (i := 1) dX10_sum_45 (q := 46) rfl rfl 0 rfl ?_
    refine v_callV h (As := [.int v]) (rest := []) ((c_X10_codes (b := !(prR (BFm σ n) use f 1 o (advR T)).1) (S := (prR (BFm σ n) use f 1 o (advR T)).2) (o := o) (v := v) (s := -(BFm σ n T.1)) hm hv2 (by omega))) cal_X10_codes calV_X10_codes m1089 ⟨rfl, rfl, by dsimp only; omega, by dsimp only; omega⟩ rfl hm.1.1 hm.1.2 ⟨_, _, rfl⟩ rfl (Nat.le_of_ble_eq_true rfl) dX10_sum_46 (q := 49) rfl (kU ?_)
    refine v_aload_n h (i := 0) dX10_sum_49 (q := 50) rfl rfl 1 rfl ?_
    refine v_bipush h (v := 43) dX10_sum_50 (q := 52) rfl (by decide) ?_
    refine v_callV h (As := [.int 43]) (rest := []) ((c_X10_takes (n := n) (b := (!(prR (BFm σ n) use f 1 o (advR T)).1)) (S := (cdR (!(prR (BFm σ n) use f 1 o (advR T)).1) (-(BFm σ n T.1)) (prR (BFm σ n) use f 1 o (advR T)).2)) (o := o) (c := 43) hm hN hn5 hcl.1)) cal_X10_takes calV_X10_takes m1093 ⟨rfl, rfl, by dsimp only; omega, by dsimp only; omega⟩ rfl hm.1.1 hm.1.2 ⟨_, _, rfl⟩ rfl (Nat.le_of_ble_eq_true rfl) dX10_sum_52 (q := 55) rfl (kB2 (fun c52 => ?_) (fun c52 => ?_))
    · refine v_if_eq h (t := 64) dX10_sum_55 (by decide) (q := 58) rfl (fun c => absurd c (by decide)) (fun _ => ?_)
      refine v_sipush h (v := 20005) dX10_sum_58 (q := 61) rfl (by decide) ?_
      refine v_goto h (t := 80) dX10_sum_61 (by decide) ?_
      refine v_istore_n h (i := 1) (ls1 := [(1, .int 20005), (0, .ref (b_ad w 0))]) dX10_sum_80 (q := 81) rfl rfl (Nat.le_of_ble_eq_true rfl) rfl ?_
      refine v_goto h (t := 36) dX10_sum_81 (by decide) ?_
      exact ih (k - 1) (by omega) (!(prR (BFm σ n) use f 1 o (advR T)).1) (cdR (!(prR (BFm σ n) use f 1 o (advR T)).1) (-(BFm σ n T.1)) (prR (BFm σ n) use f 1 o (advR T)).2) _ _ (by rw [cdR_1]; omega) hcl.1 hcl.2 (by rw [← hlp, show k = (k - 1) + 1 by omega, lm_go hop]; rfl) (Or.inr ⟨rfl, by rw [c52]; decide, by rw [(hr_eq c52 (by decide)).2]; decide, by decide⟩)
    · refine v_if_eq h (t := 64) dX10_sum_55 (by decide) (q := 58) rfl (fun _ => ?_) (fun c => absurd (by decide) c)
      refine v_aload_n h (i := 0) dX10_sum_64 (q := 65) rfl rfl 1 rfl ?_
      refine v_bipush h (v := 45) dX10_sum_65 (q := 67) rfl (by decide) ?_
      refine v_callV h (As := [.int 45]) (rest := []) ((c_X10_takes (n := n) (b := (!(prR (BFm σ n) use f 1 o (advR T)).1)) (S := (cdR (!(prR (BFm σ n) use f 1 o (advR T)).1) (-(BFm σ n T.1)) (prR (BFm σ n) use f 1 o (advR T)).2)) (o := o) (c := 45) hm hN hn5 hcl.1)) cal_X10_takes calV_X10_takes m1093 ⟨rfl, rfl, by dsimp only; omega, by dsimp only; omega⟩ rfl hm.1.1 hm.1.2 ⟨_, _, rfl⟩ rfl (Nat.le_of_ble_eq_true rfl) dX10_sum_67 (q := 70) rfl (kB2 (fun c67 => ?_) (fun c67 => ?_))
      · refine v_if_eq h (t := 79) dX10_sum_70 (by decide) (q := 73) rfl (fun c => absurd c (by decide)) (fun _ => ?_)
        refine v_sipush h (v := 20006) dX10_sum_73 (q := 76) rfl (by decide) ?_
        refine v_goto h (t := 80) dX10_sum_76 (by decide) ?_
        refine v_istore_n h (i := 1) (ls1 := [(1, .int 20006), (0, .ref (b_ad w 0))]) dX10_sum_80 (q := 81) rfl rfl (Nat.le_of_ble_eq_true rfl) rfl ?_
        refine v_goto h (t := 36) dX10_sum_81 (by decide) ?_
        exact ih (k - 1) (by omega) (!(prR (BFm σ n) use f 1 o (advR T)).1) (cdR (!(prR (BFm σ n) use f 1 o (advR T)).1) (-(BFm σ n T.1)) (prR (BFm σ n) use f 1 o (advR T)).2) _ _ (by rw [cdR_1]; omega) hcl.1 hcl.2 (by rw [← hlp, show k = (k - 1) + 1 by omega, lm_go hop]; rfl) (Or.inr ⟨rfl, by rw [c67]; decide, by rw [(hr_eq c67 (by decide)).2]; decide, by decide⟩)
      · refine v_if_eq h (t := 79) dX10_sum_70 (by decide) (q := 73) rfl (fun _ => ?_) (fun c => absurd (by decide) c)
        refine v_iconst h (v := 0) dX10_sum_79 (q := 80) rfl (by decide) ?_
        refine v_istore_n h (i := 1) (ls1 := [(1, .int 0), (0, .ref (b_ad w 0))]) dX10_sum_80 (q := 81) rfl rfl (Nat.le_of_ble_eq_true rfl) rfl ?_
        refine v_goto h (t := 36) dX10_sum_81 (by decide) ?_
        exact ih (k - 1) (by omega) (!(prR (BFm σ n) use f 1 o (advR T)).1) (cdR (!(prR (BFm σ n) use f 1 o (advR T)).1) (-(BFm σ n T.1)) (prR (BFm σ n) use f 1 o (advR T)).2) _ _ (by rw [cdR_1]; omega) hcl.1 hcl.2 (by rw [← hlp, show k = (k - 1) + 1 by omega, lm_go hop]; rfl) (Or.inl ⟨rfl, rfl, by unfold opR; simp [c52, c67]⟩)
set_option maxHeartbeats 4000000 in
set_option maxRecDepth 100000 in
theorem c_X10_sum {w : bw} {σ : bSt} {n use f o : Nat} {S : bR} (hm : sModel w) (hN : σ 1 9 = nI n) (hn5 : n ≤ 50) (hu : σ 0 9 = nI use) (hu2 : use < 2) (hsub : PM w σ n use yX10_product cX10_product 2 1 f) (ho : o ≤ 5) (hne : 6 * (5 - o) + 2 + 1 ≤ f + 1) (hp : S.1 ≤ n) (hlen : S.2.1 ≤ S.1) : MV yX10_sum cX10_sum 2 none (rmm (3 * f + 7) (100 * f + 200)) w [.ref (b_ad w 0)] (PS σ false S o) (pU (PS σ (!(prR (BFm σ n) use (f + 1) 2 o S).1) (prR (BFm σ n) use (f + 1) 2 o S).2 o)) := by
  refine b_met (ls := [(0, .ref (b_ad w 0))]) (by decide) (Nat.le_of_ble_eq_true rfl) rfl (fun x h => ?_)
  refine v_aload_n h (i := 0) dX10_sum_0 (q := 1) rfl rfl 0 rfl ?_
  refine v_callV h (As := []) (rest := []) ((hsub o S ho (by omega) hp hlen)) cal_X10_product calV_X10_product m1077 ⟨rfl, rfl, by dsimp only; omega, by dsimp only; omega⟩ rfl hm.1.1 hm.1.2 ⟨_, _, rfl⟩ rfl (Nat.le_of_ble_eq_true rfl) dX10_sum_1 (q := 4) rfl (kU ?_)
  refine v_aload_n h (i := 0) dX10_sum_4 (q := 5) rfl rfl 0 rfl ?_
  refine v_bipush h (v := 43) dX10_sum_5 (q := 7) rfl (by decide) ?_
  refine v_callV h (As := [.int 43]) (rest := []) ((c_X10_takes (n := n) (b := (!(prR (BFm σ n) use f 1 o S).1)) (S := (prR (BFm σ n) use f 1 o S).2) (o := o) (c := 43) hm hN hn5 (mg_st (σ := σ) (n := n) hu2 hlen hp).1)) cal_X10_takes calV_X10_takes m1093 ⟨rfl, rfl, by dsimp only; omega, by dsimp only; omega⟩ rfl hm.1.1 hm.1.2 ⟨_, _, rfl⟩ rfl (Nat.le_of_ble_eq_true rfl) dX10_sum_7 (q := 10) rfl (kB2 (fun c7 => ?_) (fun c7 => ?_))
  · refine v_if_eq h (t := 19) dX10_sum_10 (by decide) (q := 13) rfl (fun c => absurd c (by decide)) (fun _ => ?_)
    refine v_sipush h (v := 20005) dX10_sum_13 (q := 16) rfl (by decide) ?_
    refine v_goto h (t := 35) dX10_sum_16 (by decide) ?_
    refine v_istore_n h (i := 1) (ls1 := [(1, .int 20005), (0, .ref (b_ad w 0))]) dX10_sum_35 (q := 36) rfl rfl (Nat.le_of_ble_eq_true rfl) rfl ?_
    exact lX10_sum_36 hm hN hn5 hu hu2 hsub ho hne hp hlen h 50 (!(prR (BFm σ n) use f 1 o S).1) (prR (BFm σ n) use f 1 o S).2 _ _ (by omega) (mg_st (σ := σ) (n := n) hu2 hlen hp).1 (mg_st (σ := σ) (n := n) hu2 hlen hp).2 (pr_lm (lev := 2) (by decide)).symm (Or.inr ⟨rfl, by rw [c7]; decide, by rw [(hr_eq c7 (by decide)).2]; decide, by decide⟩)
  · refine v_if_eq h (t := 19) dX10_sum_10 (by decide) (q := 13) rfl (fun _ => ?_) (fun c => absurd (by decide) c)
    refine v_aload_n h (i := 0) dX10_sum_19 (q := 20) rfl rfl 0 rfl ?_
    refine v_bipush h (v := 45) dX10_sum_20 (q := 22) rfl (by decide) ?_
    refine v_callV h (As := [.int 45]) (rest := []) ((c_X10_takes (n := n) (b := (!(prR (BFm σ n) use f 1 o S).1)) (S := (prR (BFm σ n) use f 1 o S).2) (o := o) (c := 45) hm hN hn5 (mg_st (σ := σ) (n := n) hu2 hlen hp).1)) cal_X10_takes calV_X10_takes m1093 ⟨rfl, rfl, by dsimp only; omega, by dsimp only; omega⟩ rfl hm.1.1 hm.1.2 ⟨_, _, rfl⟩ rfl (Nat.le_of_ble_eq_true rfl) dX10_sum_22 (q := 25) rfl (kB2 (fun c22 => ?_) (fun c22 => ?_))
    · refine v_if_eq h (t := 34) dX10_sum_25 (by decide) (q := 28) rfl (fun c => absurd c (by decide)) (fun _ => ?_)
      refine v_sipush h (v := 20006) dX10_sum_28 (q := 31) rfl (by decide) ?_
      refine v_goto h (t := 35) dX10_sum_31 (by decide) ?_
      refine v_istore_n h (i := 1) (ls1 := [(1, .int 20006), (0, .ref (b_ad w 0))]) dX10_sum_35 (q := 36) rfl rfl (Nat.le_of_ble_eq_true rfl) rfl ?_
      exact lX10_sum_36 hm hN hn5 hu hu2 hsub ho hne hp hlen h 50 (!(prR (BFm σ n) use f 1 o S).1) (prR (BFm σ n) use f 1 o S).2 _ _ (by omega) (mg_st (σ := σ) (n := n) hu2 hlen hp).1 (mg_st (σ := σ) (n := n) hu2 hlen hp).2 (pr_lm (lev := 2) (by decide)).symm (Or.inr ⟨rfl, by rw [c22]; decide, by rw [(hr_eq c22 (by decide)).2]; decide, by decide⟩)
    · refine v_if_eq h (t := 34) dX10_sum_25 (by decide) (q := 28) rfl (fun _ => ?_) (fun c => absurd (by decide) c)
      refine v_iconst h (v := 0) dX10_sum_34 (q := 35) rfl (by decide) ?_
      refine v_istore_n h (i := 1) (ls1 := [(1, .int 0), (0, .ref (b_ad w 0))]) dX10_sum_35 (q := 36) rfl rfl (Nat.le_of_ble_eq_true rfl) rfl ?_
      exact lX10_sum_36 hm hN hn5 hu hu2 hsub ho hne hp hlen h 50 (!(prR (BFm σ n) use f 1 o S).1) (prR (BFm σ n) use f 1 o S).2 _ _ (by omega) (mg_st (σ := σ) (n := n) hu2 hlen hp).1 (mg_st (σ := σ) (n := n) hu2 hlen hp).2 (pr_lm (lev := 2) (by decide)).symm (Or.inl ⟨rfl, rfl, by unfold opR; simp [c7, c22]⟩)

set_option maxHeartbeats 4000000 in
set_option maxRecDepth 100000 in
theorem lX10_product_51 {w : bw} {σ : bSt} {n use f o : Nat} {S : bR} (hm : sModel w) (hN : σ 1 9 = nI n) (hn5 : n ≤ 50) (hu : σ 0 9 = nI use) (hu2 : use < 2) (hsub : PM w σ n use yX10_one cX10_one 4 0 f) (ho : o ≤ 5) (hne : 6 * (5 - o) + 1 + 1 ≤ f + 1) (hp : S.1 ≤ n) (hlen : S.2.1 ≤ S.1) {x : bX} (h : Cx x w cX10_product RX10 2 none (rmm (3 * f + 7) (100 * f + 200))) : ∀ k : Nat, ∀ (b : Bool) (T U : bR) (v : Int32), n ≤ T.1 + k → T.1 ≤ n → T.2.1 ≤ T.1 → lmR (prR (BFm σ n) use f 0 o) (opR 1) (BFm σ n) k b T = prR (BFm σ n) use (f + 1) 1 o S → ((v = 0 ∧ U = T ∧ ¬ opR 1 (hrR b (BFm σ n T.1)) = true) ∨ (U = advR T ∧ opR 1 (hrR b (BFm σ n T.1)) = true ∧ v = cdM (-(BFm σ n T.1)) ∧ 0 < v)) → V x w 2 (pU (PS σ (!(prR (BFm σ n) use (f + 1) 1 o S).1) (prR (BFm σ n) use (f + 1) 1 o S).2 o)) 51 [(1, .int v), (0, .ref (b_ad w 0))] [] (PS σ b U o) := by
  refine b_ind (fun k ih => ?_)
  intro b T U v hk hTn hTl hlp hv
  refine v_iload_n h (i := 1) dX10_product_51 (q := 52) rfl rfl 0 rfl ?_
  refine v_if_le h (t := 114) dX10_product_52 (by decide) (q := 55) rfl (fun c52 => ?_) (fun c52 => ?_)
  · exact v_vret h dX10_product_114 ⟨rfl, by
  rcases hv with ⟨_, rfl, hno⟩ | ⟨_, _, _, h0⟩
  · exact ps_end (by rw [← hlp, lm_stop hno])
  · exact absurd c52 (Int32.not_le.mpr h0)⟩
  · rcases hv with ⟨rfl, _, _⟩ | ⟨rfl, hop, hv2, _⟩
    · exact absurd (by decide) c52
    obtain ⟨rfl, hc0⟩ := lm_b hop
    have hTl1 : T.1 < n := byR_lt (tp := fun k => σ 1 (66 + k)) (opR_ne (lm_b hop).2)
    have hgo := mg_go (σ := σ) (n := n) (use := use) (f := f) (lev := 0) (o := o) hu2 hTl hTl1
    have hup := mg_up (σ := σ) (n := n) (use := use) (f := f) (lev := 0) (o := o) hu2 hTl1
    have hcl := cdR_le (b := !(prR (BFm σ n) use f 0 o (advR T)).1) (c := -(BFm σ n T.1)) hgo.1 hgo.2
    refine v_aload_n h (i := 0) dX10_product_55 (q := 56) rfl rfl 1 rfl ?_
    refine v_callV h (As := []) (rest := []) ((hsub o (advR T) ho (by omega) hTl1 (by show T.2.1 ≤ T.1 + 1; omega))) cal_X10_one calV_X10_one m1081 ⟨rfl, rfl, by dsimp only; omega, by dsimp only; omega⟩ rfl hm.1.1 hm.1.2 ⟨_, _, rfl⟩ rfl (Nat.le_of_ble_eq_true rfl) dX10_product_56 (q := 59) rfl (kU ?_)
    refine v_aload_n h (i := 0) dX10_product_59 (q := 60) rfl rfl 1 rfl ?_
    refine v_iload_n h (i := 1) dX10_product_60 (q := 61) rfl rfl 0 rfl ?_
    refine v_callV h (As := [.int v]) (rest := []) ((c_X10_codes (b := !(prR (BFm σ n) use f 0 o (advR T)).1) (S := (prR (BFm σ n) use f 0 o (advR T)).2) (o := o) (v := v) (s := -(BFm σ n T.1)) hm hv2 (by omega))) cal_X10_codes calV_X10_codes m1089 ⟨rfl, rfl, by dsimp only; omega, by dsimp only; omega⟩ rfl hm.1.1 hm.1.2 ⟨_, _, rfl⟩ rfl (Nat.le_of_ble_eq_true rfl) dX10_product_61 (q := 64) rfl (kU ?_)
    refine v_aload_n h (i := 0) dX10_product_64 (q := 65) rfl rfl 1 rfl ?_
    refine v_bipush h (v := 42) dX10_product_65 (q := 67) rfl (by decide) ?_
    refine v_callV h (As := [.int 42]) (rest := []) ((c_X10_takes (n := n) (b := (!(prR (BFm σ n) use f 0 o (advR T)).1)) (S := (cdR (!(prR (BFm σ n) use f 0 o (advR T)).1) (-(BFm σ n T.1)) (prR (BFm σ n) use f 0 o (advR T)).2)) (o := o) (c := 42) hm hN hn5 hcl.1)) cal_X10_takes calV_X10_takes m1093 ⟨rfl, rfl, by dsimp only; omega, by dsimp only; omega⟩ rfl hm.1.1 hm.1.2 ⟨_, _, rfl⟩ rfl (Nat.le_of_ble_eq_true rfl) dX10_product_67 (q := 70) rfl (kB2 (fun c67 => ?_) (fun c67 => ?_))
    · refine v_if_eq h (t := 79) dX10_product_70 (by decide) (q := 73) rfl (fun c => absurd c (by decide)) (fun _ => ?_)
      refine v_sipush h (v := 20007) dX10_product_73 (q := 76) rfl (by decide) ?_
      refine v_goto h (t := 110) dX10_product_76 (by decide) ?_
      refine v_istore_n h (i := 1) (ls1 := [(1, .int 20007), (0, .ref (b_ad w 0))]) dX10_product_110 (q := 111) rfl rfl (Nat.le_of_ble_eq_true rfl) rfl ?_
      refine v_goto h (t := 51) dX10_product_111 (by decide) ?_
      exact ih (k - 1) (by omega) (!(prR (BFm σ n) use f 0 o (advR T)).1) (cdR (!(prR (BFm σ n) use f 0 o (advR T)).1) (-(BFm σ n T.1)) (prR (BFm σ n) use f 0 o (advR T)).2) _ _ (by rw [cdR_1]; omega) hcl.1 hcl.2 (by rw [← hlp, show k = (k - 1) + 1 by omega, lm_go hop]; rfl) (Or.inr ⟨rfl, by rw [c67]; decide, by rw [(hr_eq c67 (by decide)).2]; decide, by decide⟩)
    · refine v_if_eq h (t := 79) dX10_product_70 (by decide) (q := 73) rfl (fun _ => ?_) (fun c => absurd (by decide) c)
      refine v_aload_n h (i := 0) dX10_product_79 (q := 80) rfl rfl 1 rfl ?_
      refine v_bipush h (v := 47) dX10_product_80 (q := 82) rfl (by decide) ?_
      refine v_callV h (As := [.int 47]) (rest := []) ((c_X10_takes (n := n) (b := (!(prR (BFm σ n) use f 0 o (advR T)).1)) (S := (cdR (!(prR (BFm σ n) use f 0 o (advR T)).1) (-(BFm σ n T.1)) (prR (BFm σ n) use f 0 o (advR T)).2)) (o := o) (c := 47) hm hN hn5 hcl.1)) cal_X10_takes calV_X10_takes m1093 ⟨rfl, rfl, by dsimp only; omega, by dsimp only; omega⟩ rfl hm.1.1 hm.1.2 ⟨_, _, rfl⟩ rfl (Nat.le_of_ble_eq_true rfl) dX10_product_82 (q := 85) rfl (kB2 (fun c82 => ?_) (fun c82 => ?_))
      · refine v_if_eq h (t := 94) dX10_product_85 (by decide) (q := 88) rfl (fun c => absurd c (by decide)) (fun _ => ?_)
        refine v_sipush h (v := 20008) dX10_product_88 (q := 91) rfl (by decide) ?_
        refine v_goto h (t := 110) dX10_product_91 (by decide) ?_
        refine v_istore_n h (i := 1) (ls1 := [(1, .int 20008), (0, .ref (b_ad w 0))]) dX10_product_110 (q := 111) rfl rfl (Nat.le_of_ble_eq_true rfl) rfl ?_
        refine v_goto h (t := 51) dX10_product_111 (by decide) ?_
        exact ih (k - 1) (by omega) (!(prR (BFm σ n) use f 0 o (advR T)).1) (cdR (!(prR (BFm σ n) use f 0 o (advR T)).1) (-(BFm σ n T.1)) (prR (BFm σ n) use f 0 o (advR T)).2) _ _ (by rw [cdR_1]; omega) hcl.1 hcl.2 (by rw [← hlp, show k = (k - 1) + 1 by omega, lm_go hop]; rfl) (Or.inr ⟨rfl, by rw [c82]; decide, by rw [(hr_eq c82 (by decide)).2]; decide, by decide⟩)
      · refine v_if_eq h (t := 94) dX10_product_85 (by decide) (q := 88) rfl (fun _ => ?_) (fun c => absurd (by decide) c)
        refine v_aload_n h (i := 0) dX10_product_94 (q := 95) rfl rfl 1 rfl ?_
        refine v_bipush h (v := 37) dX10_product_95 (q := 97) rfl (by decide) ?_
        refine v_callV h (As := [.int 37]) (rest := []) ((c_X10_takes (n := n) (b := (!(prR (BFm σ n) use f 0 o (advR T)).1)) (S := (cdR (!(prR (BFm σ n) use f 0 o (advR T)).1) (-(BFm σ n T.1)) (prR (BFm σ n) use f 0 o (advR T)).2)) (o := o) (c := 37) hm hN hn5 hcl.1)) cal_X10_takes calV_X10_takes m1093 ⟨rfl, rfl, by dsimp only; omega, by dsimp only; omega⟩ rfl hm.1.1 hm.1.2 ⟨_, _, rfl⟩ rfl (Nat.le_of_ble_eq_true rfl) dX10_product_97 (q := 100) rfl (kB2 (fun c97 => ?_) (fun c97 => ?_))
        · refine v_if_eq h (t := 109) dX10_product_100 (by decide) (q := 103) rfl (fun c => absurd c (by decide)) (fun _ => ?_)
          refine v_sipush h (v := 20009) dX10_product_103 (q := 106) rfl (by decide) ?_
          refine v_goto h (t := 110) dX10_product_106 (by decide) ?_
          refine v_istore_n h (i := 1) (ls1 := [(1, .int 20009), (0, .ref (b_ad w 0))]) dX10_product_110 (q := 111) rfl rfl (Nat.le_of_ble_eq_true rfl) rfl ?_
          refine v_goto h (t := 51) dX10_product_111 (by decide) ?_
          exact ih (k - 1) (by omega) (!(prR (BFm σ n) use f 0 o (advR T)).1) (cdR (!(prR (BFm σ n) use f 0 o (advR T)).1) (-(BFm σ n T.1)) (prR (BFm σ n) use f 0 o (advR T)).2) _ _ (by rw [cdR_1]; omega) hcl.1 hcl.2 (by rw [← hlp, show k = (k - 1) + 1 by omega, lm_go hop]; rfl) (Or.inr ⟨rfl, by rw [c97]; decide, by rw [(hr_eq c97 (by decide)).2]; decide, by decide⟩)
        · refine v_if_eq h (t := 109) dX10_product_100 (by decide) (q := 103) rfl (fun _ => ?_) (fun c => absurd (by decide) c)
          refine v_iconst h (v := 0) dX10_product_109 (q := 110) rfl (by decide) ?_
          refine v_istore_n h (i := 1) (ls1 := [(1, .int 0), (0, .ref (b_ad w 0))]) dX10_product_110 (q := 111) rfl rfl (Nat.le_of_ble_eq_true rfl) rfl ?_
          refine v_goto h (t := 51) dX10_product_111 (by decide) ?_
          exact ih (k - 1) (by omega) (!(prR (BFm σ n) use f 0 o (advR T)).1) (cdR (!(prR (BFm σ n) use f 0 o (advR T)).1) (-(BFm σ n T.1)) (prR (BFm σ n) use f 0 o (advR T)).2) _ _ (by rw [cdR_1]; omega) hcl.1 hcl.2 (by rw [← hlp, show k = (k - 1) + 1 by omega, lm_go hop]; rfl) (Or.inl ⟨rfl, rfl, by unfold opR; simp [c67, c82, c97]⟩)
set_option maxHeartbeats 4000000 in
set_option maxRecDepth 100000 in
theorem c_X10_product {w : bw} {σ : bSt} {n use f o : Nat} {S : bR} (hm : sModel w) (hN : σ 1 9 = nI n) (hn5 : n ≤ 50) (hu : σ 0 9 = nI use) (hu2 : use < 2) (hsub : PM w σ n use yX10_one cX10_one 4 0 f) (ho : o ≤ 5) (hne : 6 * (5 - o) + 1 + 1 ≤ f + 1) (hp : S.1 ≤ n) (hlen : S.2.1 ≤ S.1) : MV yX10_product cX10_product 2 none (rmm (3 * f + 7) (100 * f + 200)) w [.ref (b_ad w 0)] (PS σ false S o) (pU (PS σ (!(prR (BFm σ n) use (f + 1) 1 o S).1) (prR (BFm σ n) use (f + 1) 1 o S).2 o)) := by
  refine b_met (ls := [(0, .ref (b_ad w 0))]) (by decide) (Nat.le_of_ble_eq_true rfl) rfl (fun x h => ?_)
  refine v_aload_n h (i := 0) dX10_product_0 (q := 1) rfl rfl 0 rfl ?_
  refine v_callV h (As := []) (rest := []) ((hsub o S ho (by omega) hp hlen)) cal_X10_one calV_X10_one m1081 ⟨rfl, rfl, by dsimp only; omega, by dsimp only; omega⟩ rfl hm.1.1 hm.1.2 ⟨_, _, rfl⟩ rfl (Nat.le_of_ble_eq_true rfl) dX10_product_1 (q := 4) rfl (kU ?_)
  refine v_aload_n h (i := 0) dX10_product_4 (q := 5) rfl rfl 0 rfl ?_
  refine v_bipush h (v := 42) dX10_product_5 (q := 7) rfl (by decide) ?_
  refine v_callV h (As := [.int 42]) (rest := []) ((c_X10_takes (n := n) (b := (!(prR (BFm σ n) use f 0 o S).1)) (S := (prR (BFm σ n) use f 0 o S).2) (o := o) (c := 42) hm hN hn5 (mg_st (σ := σ) (n := n) hu2 hlen hp).1)) cal_X10_takes calV_X10_takes m1093 ⟨rfl, rfl, by dsimp only; omega, by dsimp only; omega⟩ rfl hm.1.1 hm.1.2 ⟨_, _, rfl⟩ rfl (Nat.le_of_ble_eq_true rfl) dX10_product_7 (q := 10) rfl (kB2 (fun c7 => ?_) (fun c7 => ?_))
  · refine v_if_eq h (t := 19) dX10_product_10 (by decide) (q := 13) rfl (fun c => absurd c (by decide)) (fun _ => ?_)
    refine v_sipush h (v := 20007) dX10_product_13 (q := 16) rfl (by decide) ?_
    refine v_goto h (t := 50) dX10_product_16 (by decide) ?_
    refine v_istore_n h (i := 1) (ls1 := [(1, .int 20007), (0, .ref (b_ad w 0))]) dX10_product_50 (q := 51) rfl rfl (Nat.le_of_ble_eq_true rfl) rfl ?_
    exact lX10_product_51 hm hN hn5 hu hu2 hsub ho hne hp hlen h 50 (!(prR (BFm σ n) use f 0 o S).1) (prR (BFm σ n) use f 0 o S).2 _ _ (by omega) (mg_st (σ := σ) (n := n) hu2 hlen hp).1 (mg_st (σ := σ) (n := n) hu2 hlen hp).2 (pr_lm (lev := 1) (by decide)).symm (Or.inr ⟨rfl, by rw [c7]; decide, by rw [(hr_eq c7 (by decide)).2]; decide, by decide⟩)
  · refine v_if_eq h (t := 19) dX10_product_10 (by decide) (q := 13) rfl (fun _ => ?_) (fun c => absurd (by decide) c)
    refine v_aload_n h (i := 0) dX10_product_19 (q := 20) rfl rfl 0 rfl ?_
    refine v_bipush h (v := 47) dX10_product_20 (q := 22) rfl (by decide) ?_
    refine v_callV h (As := [.int 47]) (rest := []) ((c_X10_takes (n := n) (b := (!(prR (BFm σ n) use f 0 o S).1)) (S := (prR (BFm σ n) use f 0 o S).2) (o := o) (c := 47) hm hN hn5 (mg_st (σ := σ) (n := n) hu2 hlen hp).1)) cal_X10_takes calV_X10_takes m1093 ⟨rfl, rfl, by dsimp only; omega, by dsimp only; omega⟩ rfl hm.1.1 hm.1.2 ⟨_, _, rfl⟩ rfl (Nat.le_of_ble_eq_true rfl) dX10_product_22 (q := 25) rfl (kB2 (fun c22 => ?_) (fun c22 => ?_))
    · refine v_if_eq h (t := 34) dX10_product_25 (by decide) (q := 28) rfl (fun c => absurd c (by decide)) (fun _ => ?_)
      refine v_sipush h (v := 20008) dX10_product_28 (q := 31) rfl (by decide) ?_
      refine v_goto h (t := 50) dX10_product_31 (by decide) ?_
      refine v_istore_n h (i := 1) (ls1 := [(1, .int 20008), (0, .ref (b_ad w 0))]) dX10_product_50 (q := 51) rfl rfl (Nat.le_of_ble_eq_true rfl) rfl ?_
      exact lX10_product_51 hm hN hn5 hu hu2 hsub ho hne hp hlen h 50 (!(prR (BFm σ n) use f 0 o S).1) (prR (BFm σ n) use f 0 o S).2 _ _ (by omega) (mg_st (σ := σ) (n := n) hu2 hlen hp).1 (mg_st (σ := σ) (n := n) hu2 hlen hp).2 (pr_lm (lev := 1) (by decide)).symm (Or.inr ⟨rfl, by rw [c22]; decide, by rw [(hr_eq c22 (by decide)).2]; decide, by decide⟩)
    · refine v_if_eq h (t := 34) dX10_product_25 (by decide) (q := 28) rfl (fun _ => ?_) (fun c => absurd (by decide) c)
      refine v_aload_n h (i := 0) dX10_product_34 (q := 35) rfl rfl 0 rfl ?_
      refine v_bipush h (v := 37) dX10_product_35 (q := 37) rfl (by decide) ?_
      refine v_callV h (As := [.int 37]) (rest := []) ((c_X10_takes (n := n) (b := (!(prR (BFm σ n) use f 0 o S).1)) (S := (prR (BFm σ n) use f 0 o S).2) (o := o) (c := 37) hm hN hn5 (mg_st (σ := σ) (n := n) hu2 hlen hp).1)) cal_X10_takes calV_X10_takes m1093 ⟨rfl, rfl, by dsimp only; omega, by dsimp only; omega⟩ rfl hm.1.1 hm.1.2 ⟨_, _, rfl⟩ rfl (Nat.le_of_ble_eq_true rfl) dX10_product_37 (q := 40) rfl (kB2 (fun c37 => ?_) (fun c37 => ?_))
      · refine v_if_eq h (t := 49) dX10_product_40 (by decide) (q := 43) rfl (fun c => absurd c (by decide)) (fun _ => ?_)
        refine v_sipush h (v := 20009) dX10_product_43 (q := 46) rfl (by decide) ?_
        refine v_goto h (t := 50) dX10_product_46 (by decide) ?_
        refine v_istore_n h (i := 1) (ls1 := [(1, .int 20009), (0, .ref (b_ad w 0))]) dX10_product_50 (q := 51) rfl rfl (Nat.le_of_ble_eq_true rfl) rfl ?_
        exact lX10_product_51 hm hN hn5 hu hu2 hsub ho hne hp hlen h 50 (!(prR (BFm σ n) use f 0 o S).1) (prR (BFm σ n) use f 0 o S).2 _ _ (by omega) (mg_st (σ := σ) (n := n) hu2 hlen hp).1 (mg_st (σ := σ) (n := n) hu2 hlen hp).2 (pr_lm (lev := 1) (by decide)).symm (Or.inr ⟨rfl, by rw [c37]; decide, by rw [(hr_eq c37 (by decide)).2]; decide, by decide⟩)
      · refine v_if_eq h (t := 49) dX10_product_40 (by decide) (q := 43) rfl (fun _ => ?_) (fun c => absurd (by decide) c)
        refine v_iconst h (v := 0) dX10_product_49 (q := 50) rfl (by decide) ?_
        refine v_istore_n h (i := 1) (ls1 := [(1, .int 0), (0, .ref (b_ad w 0))]) dX10_product_50 (q := 51) rfl rfl (Nat.le_of_ble_eq_true rfl) rfl ?_
        exact lX10_product_51 hm hN hn5 hu hu2 hsub ho hne hp hlen h 50 (!(prR (BFm σ n) use f 0 o S).1) (prR (BFm σ n) use f 0 o S).2 _ _ (by omega) (mg_st (σ := σ) (n := n) hu2 hlen hp).1 (mg_st (σ := σ) (n := n) hu2 hlen hp).2 (pr_lm (lev := 1) (by decide)).symm (Or.inl ⟨rfl, rfl, by unfold opR; simp [c7, c22, c37]⟩)
