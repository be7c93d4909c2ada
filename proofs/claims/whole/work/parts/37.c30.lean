/-! from where a note comes, by three listeners -/
abbrev heN (g : bG) (N : bN) (c u v : Nat) : Prop := g 0 (farC (nI c) (nI u)) (N 1) (nI (tN N)) = nI v
abbrev ogP (g : bG) (N : bN) (u v c : Nat) : Prop := heN g N c (u / 4096) (v / 10000) ∧ heN g N c (u / 64 % 64) (v / 100 % 100) ∧ heN g N c (u % 64) (v % 100)
def ogB (g : bG) (N : bN) (u v : Nat) : Nat → Bool := fun c => decide (ogP g N u v c)
def ogN (g : bG) (N : bN) (u v : Nat) : Nat → Int64
  | 0 => 0
  | c + 1 => if ogP g N u v c then ogN g N u v c ||| ((1 : Int64) <<< ((nI c).toInt64 &&& 63)) else ogN g N u v c
theorem bitL_tab : ∀ c : Nat, c < 64 → ∀ i : Nat, i < 64 → ((1 : Int64) <<< ((nI c).toInt64 &&& 63)).toBitVec.getLsbD i = decide (i = c) := by decide +kernel
theorem og_bit {g : bG} {N : bN} {u v : Nat} : ∀ m, m ≤ 64 → ∀ i, i < 64 → (ogN g N u v m).toBitVec.getLsbD i = decide (i < m ∧ ogP g N u v i)
  | 0, _, i, _ => by
    rw [decide_eq_false (fun z => Nat.not_lt_zero _ z.1)]
    exact BitVec.getLsbD_zero
  | m + 1, hm, i, hi => by
    have ih := og_bit (g := g) (N := N) (u := u) (v := v) m (by omega) i hi
    rw [ogN]
    by_cases h : ogP g N u v m
    · rw [if_pos h, Int64.toBitVec_or, BitVec.getLsbD_or, ih, bitL_tab m (by omega) i hi, Bool.eq_iff_iff, Bool.or_eq_true, decide_eq_true_eq, decide_eq_true_eq, decide_eq_true_eq]
      constructor
      · rintro (⟨a, b⟩ | rfl)
        · exact ⟨by omega, b⟩
        · exact ⟨by omega, h⟩
      · rintro ⟨a, b⟩
        by_cases e : i = m
        · exact Or.inr e
        · exact Or.inl ⟨by omega, b⟩
    · rw [if_neg h, ih, decide_eq_decide]
      constructor
      · rintro ⟨a, b⟩
        exact ⟨by omega, b⟩
      · rintro ⟨a, b⟩
        have : i ≠ m := fun e => h (e ▸ b)
        exact ⟨by omega, b⟩
theorem og_ct {g : bG} {N : bN} {u v : Nat} : bcL (ogN g N u v 64) = nI (ctP (ogB g N u v) 64) :=
  bcL_ct (fun i hi => by rw [og_bit 64 (Nat.le_refl 64) i hi]; unfold ogB; exact decide_eq_decide.mpr ⟨fun z => z.2, fun z => ⟨hi, z⟩⟩)
theorem bx_oneL : ∀ i : Nat, i < 64 → (1 : Int64).toBitVec.getLsbD i = decide (i = 0) := by decide +kernel
theorem bx_L {x : Int64} {b : Nat} (hb : b < 64) : ushrL x (nI b) &&& 1 = if x.toBitVec.getLsbD b = true then 1 else 0 := by
  apply Int64.toBitVec_inj.mp
  rw [Int64.toBitVec_and, bv_ushrL x hb]
  apply BitVec.eq_of_getLsbD_eq
  intro i hi
  rw [BitVec.getLsbD_and, BitVec.getLsbD_ushiftRight, bx_oneL i hi]
  by_cases c : i = 0
  · subst c
    rw [Nat.add_zero]
    by_cases d : x.toBitVec.getLsbD b = true
    · rw [if_pos d, d]; rfl
    · rw [if_neg d, Bool.eq_false_iff.mpr d]; rfl
  · rw [decide_eq_false c, Bool.and_false]
    by_cases d : x.toBitVec.getLsbD b = true
    · rw [if_pos d, bx_oneL i hi, decide_eq_false c]
    · rw [if_neg d]; exact BitVec.getLsbD_zero.symm
theorem og_sh {g : bG} {N : bN} {u v c : Nat} (hc : c < 64) : ushrL (ogN g N u v 64) (nI c) &&& 1 = if ogB g N u v c = true then 1 else 0 := by
  rw [bx_L hc, og_bit 64 (Nat.le_refl 64) c hc]
  unfold ogB
  by_cases h : ogP g N u v c
  · rw [if_pos (decide_eq_true h), if_pos (decide_eq_true (And.intro hc h))]
  · rw [if_neg (fun z => h (of_decide_eq_true z)), if_neg (fun z => h (of_decide_eq_true z).2)]
theorem lg_if {b : Bool} : lg_cmp (if b = true then (1 : Int64) else 0) 0 = 0 ↔ ¬ b = true := by
  cases b
  · decide
  · decide
/-- the i-th of those that have it, from cell c on -/
def wfN (p : Nat → Bool) (i : Nat) : Nat → Nat → Nat → Option Nat
  | 0, _, _ => none
  | r + 1, c, f => if p c = true then (if f = i then some c else wfN p i r (c + 1) (f + 1)) else wfN p i r (c + 1) f
theorem wf_hit {p : Nat → Bool} {i r c f : Nat} (h : p c = true) (e : f = i) : wfN p i (r + 1) c f = some c := by rw [wfN, if_pos h, if_pos e]
theorem wf_go {p : Nat → Bool} {i r c f : Nat} (h : p c = true) (e : ¬ f = i) : wfN p i (r + 1) c f = wfN p i r (c + 1) (f + 1) := by rw [wfN, if_pos h, if_neg e]
theorem wf_no {p : Nat → Bool} {i r c f : Nat} (h : ¬ p c = true) : wfN p i (r + 1) c f = wfN p i r (c + 1) f := by rw [wfN, if_neg h]
def oFromWhere (cells lags : Int32) (A : bA) : Int32 × bA := if wj cells 0 262143 ∧ wj lags 0 999999 then (nI (ctP (ogB (gvT A.1.2.1) A.1.1 (cl cells) (cl lags)) 64), A) else refA 1 A
def wfA (o : Option Nat) (A : bA) : Int32 × bA := match o with
  | some c => (nI c, A)
  | none => refA 2 A
def oWhereFrom (cells lags i : Int32) (A : bA) : Int32 × bA := if wj cells 0 262143 ∧ wj lags 0 999999 ∧ ¬ i < 0 then wfA (wfN (ogB (gvT A.1.2.1) A.1.1 (cl cells) (cl lags)) (cl i) 64 0 0) A else refA 1 A

set_option maxHeartbeats 4000000 in
set_option maxRecDepth 100000 in
theorem c_X9_isHeardBehind {w : bw} {σ : bSt} {A : bA} {c u v : Nat} (hs : sOpera w) (hR : RC σ A) (hc : c < 64) (hu : u < 64) : MV yX9_isHeardBehind cX9_isHeardBehind 4 (some .boolean) (rmm 4 98) w [.ref (b_ad w 0), .int (nI c), .int (nI u), .int (nI v)] σ (pZ (heN (gvT A.1.2.1) A.1.1 c u v) (fun τ => RC τ A)) := by
  refine b_met (ls := [(0, .ref (b_ad w 0)), (1, .int (nI c)), (2, .int (nI u)), (3, .int (nI v))]) (by decide) (Nat.le_of_ble_eq_true rfl) rfl (fun x h => ?_)
  obtain ⟨vn, hv1, hv9, ev⟩ := hR.1.2.1.1.2.1
  refine v_aload_n h (i := 0) dX9_isHeardBehind_0 (q := 1) rfl rfl 0 rfl ?_
  refine v_get h (k := 0) (v := .ref (b_ad w 1)) cls9 hs.1.1 hs.1.2 (Nat.le_of_ble_eq_true rfl) m265 rfl dX9_isHeardBehind_1 (q := 4) rfl ?_
  refine v_iload_n h (i := 1) dX9_isHeardBehind_4 (q := 5) rfl rfl 1 rfl ?_
  refine v_iload_n h (i := 2) dX9_isHeardBehind_5 (q := 6) rfl rfl 2 rfl ?_
  refine v_callS h (As := [.int (nI c), .int (nI u)]) (rest := [.ref (b_ad w 1)]) (c_X9_far (a := nI c) (b := nI u)) cal_X9_far m380 m379 ⟨rfl, rfl, Nat.le_of_ble_eq_true rfl, Nat.le_of_ble_eq_true rfl⟩ rfl rfl (Nat.le_of_ble_eq_true rfl) dX9_isHeardBehind_6 (q := 9) rfl (kI ?_)
  rw [show (farC (nI c) (nI u) : Int32) = nI (farN c u) from (far_nI hc hu)]
  refine v_aload_n h (i := 0) dX9_isHeardBehind_9 (q := 10) rfl rfl 0 rfl ?_
  refine v_get h (k := 0) (v := .ref (b_ad w 1)) cls9 hs.1.1 hs.1.2 (Nat.le_of_ble_eq_true rfl) m265 rfl dX9_isHeardBehind_10 (q := 13) rfl ?_
  refine v_getN h (k := 0) (v := .int (σ 1 0)) cls3 hs.2.1.1.1 hs.2.1.1.2 (Nat.le_of_ble_eq_true rfl) m57 rfl dX9_isHeardBehind_13 (q := 16) rfl ?_
  rw [show (σ 1 0 : Int32) = nI vn from (by rw [← ev, ← hR.vwE]; rfl)]
  refine v_aload_n h (i := 0) dX9_isHeardBehind_16 (q := 17) rfl rfl 0 rfl ?_
  refine v_get h (k := 1) (v := .ref (b_ad w 10)) cls9 hs.1.1 hs.1.2 (Nat.le_of_ble_eq_true rfl) m266 rfl dX9_isHeardBehind_17 (q := 20) rfl ?_
  refine v_callV h (As := []) (rest := [.int (nI vn), .int (nI (farN c u)), .ref (b_ad w 1)]) (c_X6_pieceBeat (me := 10) (σ := σ) hs.2.2.1 ) cal_X6_pieceBeat calV_X6_pieceBeat m346 ⟨rfl, rfl, Nat.le_of_ble_eq_true rfl, Nat.le_of_ble_eq_true rfl⟩ rfl hs.2.2.1.1.1 hs.2.2.1.1.2 ⟨_, _, rfl⟩ rfl (Nat.le_of_ble_eq_true rfl) dX9_isHeardBehind_20 (q := 23) rfl (kI ?_)
  rw [show (σ 10 0 &&& 31 : Int32) = nI (tN (vw σ 10 1)) from hR.iv.t.1]
  refine v_callV h (As := [.int (nI (farN c u)), .int (nI vn), .int (nI (tN (vw σ 10 1)))]) (rest := []) (c_X3_lagBy (me := 1) (vn := vn) (tn := tN (vw σ 10 1)) (d := farN c u) (σ := σ) hs.2.1 hR.ok hR.ca hv1 hv9 hR.iv.t.2 (far_lt hc hu)) cal_X3_lagBy calV_X3_lagBy m388 ⟨rfl, rfl, Nat.le_of_ble_eq_true rfl, Nat.le_of_ble_eq_true rfl⟩ rfl hs.2.1.1.1 hs.2.1.1.2 ⟨_, _, rfl⟩ rfl (Nat.le_of_ble_eq_true rfl) dX9_isHeardBehind_23 (q := 26) rfl (kR (fun r23 σ23 h23 => ?_))
  have hval : r23 = gvT A.1.2.1 0 (farC (nI c) (nI u)) (A.1.1 1) (nI (tN A.1.1)) := by rw [h23.1, hR.gv, far_nI hc hu, hR.vwE, ev]
  refine v_iload_n h (i := 3) dX9_isHeardBehind_26 (q := 27) rfl rfl 3 rfl ?_
  refine v_icmp_ne h (t := 34) dX9_isHeardBehind_27 (by decide) (q := 30) rfl (fun c27 => ?_) (fun c27 => ?_)
  · refine v_iconst h (v := 0) dX9_isHeardBehind_34 (q := 35) rfl (by decide) ?_
    exact v_zret h rfl dX9_isHeardBehind_35 (pZ0 (hR.scr h23.2.1 h23.2.2) (fun z => absurd (hval.trans z) (by assumption)))
  · refine v_iconst h (v := 1) dX9_isHeardBehind_30 (q := 31) rfl (by decide) ?_
    refine v_goto h (t := 35) dX9_isHeardBehind_31 (by decide) ?_
    exact v_zret h rfl dX9_isHeardBehind_35 (pZ1 (hR.scr h23.2.1 h23.2.2) (hval.symm.trans (by assumption)))

set_option maxHeartbeats 4000000 in
set_option maxRecDepth 100000 in
theorem lX9_origins_5 {w : bw} {σ : bSt} {A : bA} {u v : Nat} (hs : sOpera w) (hR : RC σ A) (hu : u < 262144) (hv : v < 1000000) {x : bX} (h : Cx x w cX9_origins RX9 9 (some .long) (rmm 5 121)) : ∀ m i : Nat, i + m = 64 → ∀ τ : bSt, RC τ A → V x w 9 (pRL (fun r τ => r = ogN (gvT A.1.2.1) A.1.1 u v 64 ∧ RC τ A)) 5 [(5, .int (nI i)), (3, .long (ogN (gvT A.1.2.1) A.1.1 u v i)), (0, .ref (b_ad w 0)), (1, .int (nI u)), (2, .int (nI v))] [] τ := by
  refine b_ind (fun m ih => ?_)
  intro i him τ hT
  refine v_iload h (i := 5) dX9_origins_5 (q := 7) rfl 0 rfl ?_
  refine v_bipush h (v := 64) dX9_origins_7 (q := 9) rfl (by decide) ?_
  refine v_icmp_ge h (t := 96) dX9_origins_9 (by decide) (q := 12) rfl (fun c9 => ?_) (fun c9 => ?_)
  · refine v_lload_n h (i := 3) dX9_origins_96 (q := 97) rfl rfl 1 rfl ?_
    exact v_lret h dX9_origins_97 ⟨_, rfl, by rw [show i = 64 by have := nge (k := 64) rfl (by omega) c9; omega], hT⟩
  · have hi : i < 64 := nlt rfl (by omega) c9
    refine v_aload_n h (i := 0) dX9_origins_12 (q := 13) rfl rfl 2 rfl ?_
    refine v_iload h (i := 5) dX9_origins_13 (q := 15) rfl 0 rfl ?_
    refine v_iload_n h (i := 1) dX9_origins_15 (q := 16) rfl rfl 3 rfl ?_
    refine v_sipush h (v := 4096) dX9_origins_16 (q := 19) rfl (by decide) ?_
    refine v_idiv h dX9_origins_19 (q := 20) rfl (by decide) ?_
    rw [show ((nI u) / 4096 : Int32) = nI (u / 4096) from (pk_div (d := 4096) (by omega) (by decide) (by decide))]
    refine v_iload_n h (i := 2) dX9_origins_20 (q := 21) rfl rfl 4 rfl ?_
    refine v_sipush h (v := 10000) dX9_origins_21 (q := 24) rfl (by decide) ?_
    refine v_idiv h dX9_origins_24 (q := 25) rfl (by decide) ?_
    rw [show ((nI v) / 10000 : Int32) = nI (v / 10000) from (pk_div (d := 10000) (by omega) (by decide) (by decide))]
    refine v_callV h (As := [.int (nI i), .int (nI (u / 4096)), .int (nI (v / 10000))]) (rest := []) (c_X9_isHeardBehind (A := A) (σ := τ) (c := i) (u := (u / 4096)) (v := (v / 10000)) hs hT hi (by omega)) cal_X9_isHeardBehind calV_X9_isHeardBehind m689 ⟨rfl, rfl, Nat.le_of_ble_eq_true rfl, Nat.le_of_ble_eq_true rfl⟩ rfl hs.1.1 hs.1.2 ⟨_, _, rfl⟩ rfl (Nat.le_of_ble_eq_true rfl) dX9_origins_25 (q := 28) rfl (kZ (fun σ25 h25 c25 => ?_) (fun σ25 h25 c25 => ?_))
    · refine v_istore h (i := 6) (ls1 := [(6, .int 1), (5, .int (nI i)), (3, .long (ogN (gvT A.1.2.1) A.1.1 u v i)), (0, .ref (b_ad w 0)), (1, .int (nI u)), (2, .int (nI v))]) dX9_origins_28 (q := 30) rfl (Nat.le_of_ble_eq_true rfl) rfl ?_
      refine v_aload_n h (i := 0) dX9_origins_30 (q := 31) rfl rfl 3 rfl ?_
      refine v_iload h (i := 5) dX9_origins_31 (q := 33) rfl 1 rfl ?_
      refine v_iload_n h (i := 1) dX9_origins_33 (q := 34) rfl rfl 4 rfl ?_
      refine v_bipush h (v := 64) dX9_origins_34 (q := 36) rfl (by decide) ?_
      refine v_idiv h dX9_origins_36 (q := 37) rfl (by decide) ?_
      rw [show ((nI u) / 64 : Int32) = nI (u / 64) from (pk_div (d := 64) (by omega) (by decide) (by decide))]
      refine v_bipush h (v := 64) dX9_origins_37 (q := 39) rfl (by decide) ?_
      refine v_irem h dX9_origins_39 (q := 40) rfl (by decide) ?_
      rw [show ((nI (u / 64)) - (nI (u / 64)) / 64 * 64 : Int32) = nI (u / 64 % 64) from (pk_rem (d := 64) (by omega) (by decide) (by decide))]
      refine v_iload_n h (i := 2) dX9_origins_40 (q := 41) rfl rfl 5 rfl ?_
      refine v_bipush h (v := 100) dX9_origins_41 (q := 43) rfl (by decide) ?_
      refine v_idiv h dX9_origins_43 (q := 44) rfl (by decide) ?_
      rw [show ((nI v) / 100 : Int32) = nI (v / 100) from (pk_div (d := 100) (by omega) (by decide) (by decide))]
      refine v_bipush h (v := 100) dX9_origins_44 (q := 46) rfl (by decide) ?_
      refine v_irem h dX9_origins_46 (q := 47) rfl (by decide) ?_
      rw [show ((nI (v / 100)) - (nI (v / 100)) / 100 * 100 : Int32) = nI (v / 100 % 100) from (pk_rem (d := 100) (by omega) (by decide) (by decide))]
      refine v_callV h (As := [.int (nI i), .int (nI (u / 64 % 64)), .int (nI (v / 100 % 100))]) (rest := []) (c_X9_isHeardBehind (A := A) (σ := σ25) (c := i) (u := (u / 64 % 64)) (v := (v / 100 % 100)) hs h25 hi (by omega)) cal_X9_isHeardBehind calV_X9_isHeardBehind m689 ⟨rfl, rfl, Nat.le_of_ble_eq_true rfl, Nat.le_of_ble_eq_true rfl⟩ rfl hs.1.1 hs.1.2 ⟨_, _, rfl⟩ rfl (Nat.le_of_ble_eq_true rfl) dX9_origins_47 (q := 50) rfl (kZ (fun σ47 h47 c47 => ?_) (fun σ47 h47 c47 => ?_))
      · refine v_istore h (i := 7) (ls1 := [(7, .int 1), (6, .int 1), (5, .int (nI i)), (3, .long (ogN (gvT A.1.2.1) A.1.1 u v i)), (0, .ref (b_ad w 0)), (1, .int (nI u)), (2, .int (nI v))]) dX9_origins_50 (q := 52) rfl (Nat.le_of_ble_eq_true rfl) rfl ?_
        refine v_aload_n h (i := 0) dX9_origins_52 (q := 53) rfl rfl 4 rfl ?_
        refine v_iload h (i := 5) dX9_origins_53 (q := 55) rfl 2 rfl ?_
        refine v_iload_n h (i := 1) dX9_origins_55 (q := 56) rfl rfl 5 rfl ?_
        refine v_bipush h (v := 64) dX9_origins_56 (q := 58) rfl (by decide) ?_
        refine v_irem h dX9_origins_58 (q := 59) rfl (by decide) ?_
        rw [show ((nI u) - (nI u) / 64 * 64 : Int32) = nI (u % 64) from (pk_rem (d := 64) (by omega) (by decide) (by decide))]
        refine v_iload_n h (i := 2) dX9_origins_59 (q := 60) rfl rfl 6 rfl ?_
        refine v_bipush h (v := 100) dX9_origins_60 (q := 62) rfl (by decide) ?_
        refine v_irem h dX9_origins_62 (q := 63) rfl (by decide) ?_
        rw [show ((nI v) - (nI v) / 100 * 100 : Int32) = nI (v % 100) from (pk_rem (d := 100) (by omega) (by decide) (by decide))]
        refine v_callV h (As := [.int (nI i), .int (nI (u % 64)), .int (nI (v % 100))]) (rest := []) (c_X9_isHeardBehind (A := A) (σ := σ47) (c := i) (u := (u % 64)) (v := (v % 100)) hs h47 hi (by omega)) cal_X9_isHeardBehind calV_X9_isHeardBehind m689 ⟨rfl, rfl, Nat.le_of_ble_eq_true rfl, Nat.le_of_ble_eq_true rfl⟩ rfl hs.1.1 hs.1.2 ⟨_, _, rfl⟩ rfl (Nat.le_of_ble_eq_true rfl) dX9_origins_63 (q := 66) rfl (kZ (fun σ63 h63 c63 => ?_) (fun σ63 h63 c63 => ?_))
        · refine v_istore h (i := 8) (ls1 := [(8, .int 1), (7, .int 1), (6, .int 1), (5, .int (nI i)), (3, .long (ogN (gvT A.1.2.1) A.1.1 u v i)), (0, .ref (b_ad w 0)), (1, .int (nI u)), (2, .int (nI v))]) dX9_origins_66 (q := 68) rfl (Nat.le_of_ble_eq_true rfl) rfl ?_
          refine v_iload h (i := 6) dX9_origins_68 (q := 70) rfl 2 rfl ?_
          refine v_if_eq h (t := 90) dX9_origins_70 (by decide) (q := 73) rfl (fun c => absurd c (by decide)) (fun _ => ?_)
          refine v_iload h (i := 7) dX9_origins_73 (q := 75) rfl 1 rfl ?_
          refine v_if_eq h (t := 90) dX9_origins_75 (by decide) (q := 78) rfl (fun c => absurd c (by decide)) (fun _ => ?_)
          refine v_iload h (i := 8) dX9_origins_78 (q := 80) rfl 0 rfl ?_
          refine v_if_eq h (t := 90) dX9_origins_80 (by decide) (q := 83) rfl (fun c => absurd c (by decide)) (fun _ => ?_)
          refine v_lload_n h (i := 3) dX9_origins_83 (q := 84) rfl rfl 4 rfl ?_
          refine v_lconst h (v := 1) dX9_origins_84 (q := 85) rfl (by decide) ?_
          refine v_iload h (i := 5) dX9_origins_85 (q := 87) rfl 3 rfl ?_
          refine v_lshl h (v := (1 : Int64) <<< ((nI i).toInt64 &&& 63)) dX9_origins_87 (q := 88) rfl rfl ?_
          refine v_lor h dX9_origins_88 (q := 89) rfl ?_
          refine v_lstore_n h (i := 3) (ls1 := [(3, .long ((ogN (gvT A.1.2.1) A.1.1 u v i) ||| ((1 : Int64) <<< ((nI i).toInt64 &&& 63)))), (8, .int 1), (7, .int 1), (6, .int 1), (5, .int (nI i)), (0, .ref (b_ad w 0)), (1, .int (nI u)), (2, .int (nI v))]) dX9_origins_89 (q := 90) rfl rfl (Nat.le_of_ble_eq_true rfl) rfl ?_
          refine v_iinc h (p := 4) (u := nI (i + 1)) (ls1 := [(5, .int (nI (i + 1))), (3, .long ((ogN (gvT A.1.2.1) A.1.1 u v i) ||| ((1 : Int64) <<< ((nI i).toInt64 &&& 63)))), (8, .int 1), (7, .int 1), (6, .int 1), (0, .ref (b_ad w 0)), (1, .int (nI u)), (2, .int (nI v))]) dX9_origins_90 (q := 93) rfl rfl (nI_1 i) (Nat.le_of_ble_eq_true rfl) rfl ?_
          refine v_goto h (t := 5) dX9_origins_93 (by decide) ?_
          refine v_ls [0, 1, 5, 6, 7] (ls2 := [(5, .int (nI (i + 1))), (3, .long ((ogN (gvT A.1.2.1) A.1.1 u v i) ||| ((1 : Int64) <<< ((nI i).toInt64 &&& 63)))), (0, .ref (b_ad w 0)), (1, .int (nI u)), (2, .int (nI v))]) rfl ?_
          have es : ogN (gvT A.1.2.1) A.1.1 u v (i + 1) = (ogN (gvT A.1.2.1) A.1.1 u v i) ||| ((1 : Int64) <<< ((nI i).toInt64 &&& 63)) := by rw [ogN, if_pos ⟨c25, c47, c63⟩]
          have z := ih (m - 1) (by omega) (i + 1) (by omega) σ63 h63
          rw [es] at z
          exact z
        · refine v_istore h (i := 8) (ls1 := [(8, .int 0), (7, .int 1), (6, .int 1), (5, .int (nI i)), (3, .long (ogN (gvT A.1.2.1) A.1.1 u v i)), (0, .ref (b_ad w 0)), (1, .int (nI u)), (2, .int (nI v))]) dX9_origins_66 (q := 68) rfl (Nat.le_of_ble_eq_true rfl) rfl ?_
          refine v_iload h (i := 6) dX9_origins_68 (q := 70) rfl 2 rfl ?_
          refine v_if_eq h (t := 90) dX9_origins_70 (by decide) (q := 73) rfl (fun c => absurd c (by decide)) (fun _ => ?_)
          refine v_iload h (i := 7) dX9_origins_73 (q := 75) rfl 1 rfl ?_
          refine v_if_eq h (t := 90) dX9_origins_75 (by decide) (q := 78) rfl (fun c => absurd c (by decide)) (fun _ => ?_)
          refine v_iload h (i := 8) dX9_origins_78 (q := 80) rfl 0 rfl ?_
          refine v_if_eq h (t := 90) dX9_origins_80 (by decide) (q := 83) rfl (fun _ => ?_) (fun c => absurd (by decide) c)
          refine v_iinc h (p := 3) (u := nI (i + 1)) (ls1 := [(5, .int (nI (i + 1))), (8, .int 0), (7, .int 1), (6, .int 1), (3, .long (ogN (gvT A.1.2.1) A.1.1 u v i)), (0, .ref (b_ad w 0)), (1, .int (nI u)), (2, .int (nI v))]) dX9_origins_90 (q := 93) rfl rfl (nI_1 i) (Nat.le_of_ble_eq_true rfl) rfl ?_
          refine v_goto h (t := 5) dX9_origins_93 (by decide) ?_
          refine v_ls [0, 4, 5, 6, 7] (ls2 := [(5, .int (nI (i + 1))), (3, .long (ogN (gvT A.1.2.1) A.1.1 u v i)), (0, .ref (b_ad w 0)), (1, .int (nI u)), (2, .int (nI v))]) rfl ?_
          have es : ogN (gvT A.1.2.1) A.1.1 u v (i + 1) = ogN (gvT A.1.2.1) A.1.1 u v i := by rw [ogN, if_neg (fun z => c63 z.2.2)]
          have z := ih (m - 1) (by omega) (i + 1) (by omega) σ63 h63
          rw [es] at z
          exact z
      · refine v_istore h (i := 7) (ls1 := [(7, .int 0), (6, .int 1), (5, .int (nI i)), (3, .long (ogN (gvT A.1.2.1) A.1.1 u v i)), (0, .ref (b_ad w 0)), (1, .int (nI u)), (2, .int (nI v))]) dX9_origins_50 (q := 52) rfl (Nat.le_of_ble_eq_true rfl) rfl ?_
        refine v_aload_n h (i := 0) dX9_origins_52 (q := 53) rfl rfl 4 rfl ?_
        refine v_iload h (i := 5) dX9_origins_53 (q := 55) rfl 2 rfl ?_
        refine v_iload_n h (i := 1) dX9_origins_55 (q := 56) rfl rfl 5 rfl ?_
        refine v_bipush h (v := 64) dX9_origins_56 (q := 58) rfl (by decide) ?_
        refine v_irem h dX9_origins_58 (q := 59) rfl (by decide) ?_
        rw [show ((nI u) - (nI u) / 64 * 64 : Int32) = nI (u % 64) from (pk_rem (d := 64) (by omega) (by decide) (by decide))]
        refine v_iload_n h (i := 2) dX9_origins_59 (q := 60) rfl rfl 6 rfl ?_
        refine v_bipush h (v := 100) dX9_origins_60 (q := 62) rfl (by decide) ?_
        refine v_irem h dX9_origins_62 (q := 63) rfl (by decide) ?_
        rw [show ((nI v) - (nI v) / 100 * 100 : Int32) = nI (v % 100) from (pk_rem (d := 100) (by omega) (by decide) (by decide))]
        refine v_callV h (As := [.int (nI i), .int (nI (u % 64)), .int (nI (v % 100))]) (rest := []) (c_X9_isHeardBehind (A := A) (σ := σ47) (c := i) (u := (u % 64)) (v := (v % 100)) hs h47 hi (by omega)) cal_X9_isHeardBehind calV_X9_isHeardBehind m689 ⟨rfl, rfl, Nat.le_of_ble_eq_true rfl, Nat.le_of_ble_eq_true rfl⟩ rfl hs.1.1 hs.1.2 ⟨_, _, rfl⟩ rfl (Nat.le_of_ble_eq_true rfl) dX9_origins_63 (q := 66) rfl (kZ (fun σ63_1 h63_1 c63_1 => ?_) (fun σ63_1 h63_1 c63_1 => ?_))
        · refine v_istore h (i := 8) (ls1 := [(8, .int 1), (7, .int 0), (6, .int 1), (5, .int (nI i)), (3, .long (ogN (gvT A.1.2.1) A.1.1 u v i)), (0, .ref (b_ad w 0)), (1, .int (nI u)), (2, .int (nI v))]) dX9_origins_66 (q := 68) rfl (Nat.le_of_ble_eq_true rfl) rfl ?_
          refine v_iload h (i := 6) dX9_origins_68 (q := 70) rfl 2 rfl ?_
          refine v_if_eq h (t := 90) dX9_origins_70 (by decide) (q := 73) rfl (fun c => absurd c (by decide)) (fun _ => ?_)
          refine v_iload h (i := 7) dX9_origins_73 (q := 75) rfl 1 rfl ?_
          refine v_if_eq h (t := 90) dX9_origins_75 (by decide) (q := 78) rfl (fun _ => ?_) (fun c => absurd (by decide) c)
          refine v_iinc h (p := 3) (u := nI (i + 1)) (ls1 := [(5, .int (nI (i + 1))), (8, .int 1), (7, .int 0), (6, .int 1), (3, .long (ogN (gvT A.1.2.1) A.1.1 u v i)), (0, .ref (b_ad w 0)), (1, .int (nI u)), (2, .int (nI v))]) dX9_origins_90 (q := 93) rfl rfl (nI_1 i) (Nat.le_of_ble_eq_true rfl) rfl ?_
          refine v_goto h (t := 5) dX9_origins_93 (by decide) ?_
          refine v_ls [0, 4, 5, 6, 7] (ls2 := [(5, .int (nI (i + 1))), (3, .long (ogN (gvT A.1.2.1) A.1.1 u v i)), (0, .ref (b_ad w 0)), (1, .int (nI u)), (2, .int (nI v))]) rfl ?_
          have es : ogN (gvT A.1.2.1) A.1.1 u v (i + 1) = ogN (gvT A.1.2.1) A.1.1 u v i := by rw [ogN, if_neg (fun z => c47 z.2.1)]
          have z := ih (m - 1) (by omega) (i + 1) (by omega) σ63_1 h63_1
          rw [es] at z
          exact z
        · refine v_istore h (i := 8) (ls1 := [(8, .int 0), (7, .int 0), (6, .int 1), (5, .int (nI i)), (3, .long (ogN (gvT A.1.2.1) A.1.1 u v i)), (0, .ref (b_ad w 0)), (1, .int (nI u)), (2, .int (nI v))]) dX9_origins_66 (q := 68) rfl (Nat.le_of_ble_eq_true rfl) rfl ?_
          refine v_iload h (i := 6) dX9_origins_68 (q := 70) rfl 2 rfl ?_
          refine v_if_eq h (t := 90) dX9_origins_70 (by decide) (q := 73) rfl (fun c => absurd c (by decide)) (fun _ => ?_)
          refine v_iload h (i := 7) dX9_origins_73 (q := 75) rfl 1 rfl ?_
          refine v_if_eq h (t := 90) dX9_origins_75 (by decide) (q := 78) rfl (fun _ => ?_) (fun c => absurd (by decide) c)
          refine v_iinc h (p := 3) (u := nI (i + 1)) (ls1 := [(5, .int (nI (i + 1))), (8, .int 0), (7, .int 0), (6, .int 1), (3, .long (ogN (gvT A.1.2.1) A.1.1 u v i)), (0, .ref (b_ad w 0)), (1, .int (nI u)), (2, .int (nI v))]) dX9_origins_90 (q := 93) rfl rfl (nI_1 i) (Nat.le_of_ble_eq_true rfl) rfl ?_
          refine v_goto h (t := 5) dX9_origins_93 (by decide) ?_
          refine v_ls [0, 4, 5, 6, 7] (ls2 := [(5, .int (nI (i + 1))), (3, .long (ogN (gvT A.1.2.1) A.1.1 u v i)), (0, .ref (b_ad w 0)), (1, .int (nI u)), (2, .int (nI v))]) rfl ?_
          have es : ogN (gvT A.1.2.1) A.1.1 u v (i + 1) = ogN (gvT A.1.2.1) A.1.1 u v i := by rw [ogN, if_neg (fun z => c47 z.2.1)]
          have z := ih (m - 1) (by omega) (i + 1) (by omega) σ63_1 h63_1
          rw [es] at z
          exact z
    · refine v_istore h (i := 6) (ls1 := [(6, .int 0), (5, .int (nI i)), (3, .long (ogN (gvT A.1.2.1) A.1.1 u v i)), (0, .ref (b_ad w 0)), (1, .int (nI u)), (2, .int (nI v))]) dX9_origins_28 (q := 30) rfl (Nat.le_of_ble_eq_true rfl) rfl ?_
      refine v_aload_n h (i := 0) dX9_origins_30 (q := 31) rfl rfl 3 rfl ?_
      refine v_iload h (i := 5) dX9_origins_31 (q := 33) rfl 1 rfl ?_
      refine v_iload_n h (i := 1) dX9_origins_33 (q := 34) rfl rfl 4 rfl ?_
      refine v_bipush h (v := 64) dX9_origins_34 (q := 36) rfl (by decide) ?_
      refine v_idiv h dX9_origins_36 (q := 37) rfl (by decide) ?_
      rw [show ((nI u) / 64 : Int32) = nI (u / 64) from (pk_div (d := 64) (by omega) (by decide) (by decide))]
      refine v_bipush h (v := 64) dX9_origins_37 (q := 39) rfl (by decide) ?_
      refine v_irem h dX9_origins_39 (q := 40) rfl (by decide) ?_
      rw [show ((nI (u / 64)) - (nI (u / 64)) / 64 * 64 : Int32) = nI (u / 64 % 64) from (pk_rem (d := 64) (by omega) (by decide) (by decide))]
      refine v_iload_n h (i := 2) dX9_origins_40 (q := 41) rfl rfl 5 rfl ?_
      refine v_bipush h (v := 100) dX9_origins_41 (q := 43) rfl (by decide) ?_
      refine v_idiv h dX9_origins_43 (q := 44) rfl (by decide) ?_
      rw [show ((nI v) / 100 : Int32) = nI (v / 100) from (pk_div (d := 100) (by omega) (by decide) (by decide))]
      refine v_bipush h (v := 100) dX9_origins_44 (q := 46) rfl (by decide) ?_
      refine v_irem h dX9_origins_46 (q := 47) rfl (by decide) ?_
      rw [show ((nI (v / 100)) - (nI (v / 100)) / 100 * 100 : Int32) = nI (v / 100 % 100) from (pk_rem (d := 100) (by omega) (by decide) (by decide))]
      refine v_callV h (As := [.int (nI i), .int (nI (u / 64 % 64)), .int (nI (v / 100 % 100))]) (rest := []) (c_X9_isHeardBehind (A := A) (σ := σ25) (c := i) (u := (u / 64 % 64)) (v := (v / 100 % 100)) hs h25 hi (by omega)) cal_X9_isHeardBehind calV_X9_isHeardBehind m689 ⟨rfl, rfl, Nat.le_of_ble_eq_true rfl, Nat.le_of_ble_eq_true rfl⟩ rfl hs.1.1 hs.1.2 ⟨_, _, rfl⟩ rfl (Nat.le_of_ble_eq_true rfl) dX9_origins_47 (q := 50) rfl (kZ (fun σ47_1 h47_1 c47_1 => ?_) (fun σ47_1 h47_1 c47_1 => ?_))
      · refine v_istore h (i := 7) (ls1 := [(7, .int 1), (6, .int 0), (5, .int (nI i)), (3, .long (ogN (gvT A.1.2.1) A.1.1 u v i)), (0, .ref (b_ad w 0)), (1, .int (nI u)), (2, .int (nI v))]) dX9_origins_50 (q := 52) rfl (Nat.le_of_ble_eq_true rfl) rfl ?_
        refine v_aload_n h (i := 0) dX9_origins_52 (q := 53) rfl rfl 4 rfl ?_
        refine v_iload h (i := 5) dX9_origins_53 (q := 55) rfl 2 rfl ?_
        refine v_iload_n h (i := 1) dX9_origins_55 (q := 56) rfl rfl 5 rfl ?_
        refine v_bipush h (v := 64) dX9_origins_56 (q := 58) rfl (by decide) ?_
        refine v_irem h dX9_origins_58 (q := 59) rfl (by decide) ?_
        rw [show ((nI u) - (nI u) / 64 * 64 : Int32) = nI (u % 64) from (pk_rem (d := 64) (by omega) (by decide) (by decide))]
        refine v_iload_n h (i := 2) dX9_origins_59 (q := 60) rfl rfl 6 rfl ?_
        refine v_bipush h (v := 100) dX9_origins_60 (q := 62) rfl (by decide) ?_
        refine v_irem h dX9_origins_62 (q := 63) rfl (by decide) ?_
        rw [show ((nI v) - (nI v) / 100 * 100 : Int32) = nI (v % 100) from (pk_rem (d := 100) (by omega) (by decide) (by decide))]
        refine v_callV h (As := [.int (nI i), .int (nI (u % 64)), .int (nI (v % 100))]) (rest := []) (c_X9_isHeardBehind (A := A) (σ := σ47_1) (c := i) (u := (u % 64)) (v := (v % 100)) hs h47_1 hi (by omega)) cal_X9_isHeardBehind calV_X9_isHeardBehind m689 ⟨rfl, rfl, Nat.le_of_ble_eq_true rfl, Nat.le_of_ble_eq_true rfl⟩ rfl hs.1.1 hs.1.2 ⟨_, _, rfl⟩ rfl (Nat.le_of_ble_eq_true rfl) dX9_origins_63 (q := 66) rfl (kZ (fun σ63_2 h63_2 c63_2 => ?_) (fun σ63_2 h63_2 c63_2 => ?_))
        · refine v_istore h (i := 8) (ls1 := [(8, .int 1), (7, .int 1), (6, .int 0), (5, .int (nI i)), (3, .long (ogN (gvT A.1.2.1) A.1.1 u v i)), (0, .ref (b_ad w 0)), (1, .int (nI u)), (2, .int (nI v))]) dX9_origins_66 (q := 68) rfl (Nat.le_of_ble_eq_true rfl) rfl ?_
          refine v_iload h (i := 6) dX9_origins_68 (q := 70) rfl 2 rfl ?_
          refine v_if_eq h (t := 90) dX9_origins_70 (by decide) (q := 73) rfl (fun _ => ?_) (fun c => absurd (by decide) c)
          refine v_iinc h (p := 3) (u := nI (i + 1)) (ls1 := [(5, .int (nI (i + 1))), (8, .int 1), (7, .int 1), (6, .int 0), (3, .long (ogN (gvT A.1.2.1) A.1.1 u v i)), (0, .ref (b_ad w 0)), (1, .int (nI u)), (2, .int (nI v))]) dX9_origins_90 (q := 93) rfl rfl (nI_1 i) (Nat.le_of_ble_eq_true rfl) rfl ?_
          refine v_goto h (t := 5) dX9_origins_93 (by decide) ?_
          refine v_ls [0, 4, 5, 6, 7] (ls2 := [(5, .int (nI (i + 1))), (3, .long (ogN (gvT A.1.2.1) A.1.1 u v i)), (0, .ref (b_ad w 0)), (1, .int (nI u)), (2, .int (nI v))]) rfl ?_
          have es : ogN (gvT A.1.2.1) A.1.1 u v (i + 1) = ogN (gvT A.1.2.1) A.1.1 u v i := by rw [ogN, if_neg (fun z => c25 z.1)]
          have z := ih (m - 1) (by omega) (i + 1) (by omega) σ63_2 h63_2
          rw [es] at z
          exact z
        · refine v_istore h (i := 8) (ls1 := [(8, .int 0), (7, .int 1), (6, .int 0), (5, .int (nI i)), (3, .long (ogN (gvT A.1.2.1) A.1.1 u v i)), (0, .ref (b_ad w 0)), (1, .int (nI u)), (2, .int (nI v))]) dX9_origins_66 (q := 68) rfl (Nat.le_of_ble_eq_true rfl) rfl ?_
          refine v_iload h (i := 6) dX9_origins_68 (q := 70) rfl 2 rfl ?_
          refine v_if_eq h (t := 90) dX9_origins_70 (by decide) (q := 73) rfl (fun _ => ?_) (fun c => absurd (by decide) c)
          refine v_iinc h (p := 3) (u := nI (i + 1)) (ls1 := [(5, .int (nI (i + 1))), (8, .int 0), (7, .int 1), (6, .int 0), (3, .long (ogN (gvT A.1.2.1) A.1.1 u v i)), (0, .ref (b_ad w 0)), (1, .int (nI u)), (2, .int (nI v))]) dX9_origins_90 (q := 93) rfl rfl (nI_1 i) (Nat.le_of_ble_eq_true rfl) rfl ?_
          refine v_goto h (t := 5) dX9_origins_93 (by decide) ?_
          refine v_ls [0, 4, 5, 6, 7] (ls2 := [(5, .int (nI (i + 1))), (3, .long (ogN (gvT A.1.2.1) A.1.1 u v i)), (0, .ref (b_ad w 0)), (1, .int (nI u)), (2, .int (nI v))]) rfl ?_
          have es : ogN (gvT A.1.2.1) A.1.1 u v (i + 1) = ogN (gvT A.1.2.1) A.1.1 u v i := by rw [ogN, if_neg (fun z => c25 z.1)]
          have z := ih (m - 1) (by omega) (i + 1) (by omega) σ63_2 h63_2
          rw [es] at z
          exact z
      · refine v_istore h (i := 7) (ls1 := [(7, .int 0), (6, .int 0), (5, .int (nI i)), (3, .long (ogN (gvT A.1.2.1) A.1.1 u v i)), (0, .ref (b_ad w 0)), (1, .int (nI u)), (2, .int (nI v))]) dX9_origins_50 (q := 52) rfl (Nat.le_of_ble_eq_true rfl) rfl ?_
        refine v_aload_n h (i := 0) dX9_origins_52 (q := 53) rfl rfl 4 rfl ?_
        refine v_iload h (i := 5) dX9_origins_53 (q := 55) rfl 2 rfl ?_
        refine v_iload_n h (i := 1) dX9_origins_55 (q := 56) rfl rfl 5 rfl ?_
        refine v_bipush h (v := 64) dX9_origins_56 (q := 58) rfl (by decide) ?_
        refine v_irem h dX9_origins_58 (q := 59) rfl (by decide) ?_
        rw [show ((nI u) - (nI u) / 64 * 64 : Int32) = nI (u % 64) from (pk_rem (d := 64) (by omega) (by decide) (by decide))]
        refine v_iload_n h (i := 2) dX9_origins_59 (q := 60) rfl rfl 6 rfl ?_
        refine v_bipush h (v := 100) dX9_origins_60 (q := 62) rfl (by decide) ?_
        refine v_irem h dX9_origins_62 (q := 63) rfl (by decide) ?_
        rw [show ((nI v) - (nI v) / 100 * 100 : Int32) = nI (v % 100) from (pk_rem (d := 100) (by omega) (by decide) (by decide))]
        refine v_callV h (As := [.int (nI i), .int (nI (u % 64)), .int (nI (v % 100))]) (rest := []) (c_X9_isHeardBehind (A := A) (σ := σ47_1) (c := i) (u := (u % 64)) (v := (v % 100)) hs h47_1 hi (by omega)) cal_X9_isHeardBehind calV_X9_isHeardBehind m689 ⟨rfl, rfl, Nat.le_of_ble_eq_true rfl, Nat.le_of_ble_eq_true rfl⟩ rfl hs.1.1 hs.1.2 ⟨_, _, rfl⟩ rfl (Nat.le_of_ble_eq_true rfl) dX9_origins_63 (q := 66) rfl (kZ (fun σ63_3 h63_3 c63_3 => ?_) (fun σ63_3 h63_3 c63_3 => ?_))
        · refine v_istore h (i := 8) (ls1 := [(8, .int 1), (7, .int 0), (6, .int 0), (5, .int (nI i)), (3, .long (ogN (gvT A.1.2.1) A.1.1 u v i)), (0, .ref (b_ad w 0)), (1, .int (nI u)), (2, .int (nI v))]) dX9_origins_66 (q := 68) rfl (Nat.le_of_ble_eq_true rfl) rfl ?_
          refine v_iload h (i := 6) dX9_origins_68 (q := 70) rfl 2 rfl ?_
          refine v_if_eq h (t := 90) dX9_origins_70 (by decide) (q := 73) rfl (fun _ => ?_) (fun c => absurd (by decide) c)
          refine v_iinc h (p := 3) (u := nI (i + 1)) (ls1 := [(5, .int (nI (i + 1))), (8, .int 1), (7, .int 0), (6, .int 0), (3, .long (ogN (gvT A.1.2.1) A.1.1 u v i)), (0, .ref (b_ad w 0)), (1, .int (nI u)), (2, .int (nI v))]) dX9_origins_90 (q := 93) rfl rfl (nI_1 i) (Nat.le_of_ble_eq_true rfl) rfl ?_
          refine v_goto h (t := 5) dX9_origins_93 (by decide) ?_
          refine v_ls [0, 4, 5, 6, 7] (ls2 := [(5, .int (nI (i + 1))), (3, .long (ogN (gvT A.1.2.1) A.1.1 u v i)), (0, .ref (b_ad w 0)), (1, .int (nI u)), (2, .int (nI v))]) rfl ?_
          have es : ogN (gvT A.1.2.1) A.1.1 u v (i + 1) = ogN (gvT A.1.2.1) A.1.1 u v i := by rw [ogN, if_neg (fun z => c25 z.1)]
          have z := ih (m - 1) (by omega) (i + 1) (by omega) σ63_3 h63_3
          rw [es] at z
          exact z
        · refine v_istore h (i := 8) (ls1 := [(8, .int 0), (7, .int 0), (6, .int 0), (5, .int (nI i)), (3, .long (ogN (gvT A.1.2.1) A.1.1 u v i)), (0, .ref (b_ad w 0)), (1, .int (nI u)), (2, .int (nI v))]) dX9_origins_66 (q := 68) rfl (Nat.le_of_ble_eq_true rfl) rfl ?_
          refine v_iload h (i := 6) dX9_origins_68 (q := 70) rfl 2 rfl ?_
          refine v_if_eq h (t := 90) dX9_origins_70 (by decide) (q := 73) rfl (fun _ => ?_) (fun c => absurd (by decide) c)
          refine v_iinc h (p := 3) (u := nI (i + 1)) (ls1 := [(5, .int (nI (i + 1))), (8, .int 0), (7, .int 0), (6, .int 0), (3, .long (ogN (gvT A.1.2.1) A.1.1 u v i)), (0, .ref (b_ad w 0)), (1, .int (nI u)), (2, .int (nI v))]) dX9_origins_90 (q := 93) rfl rfl (nI_1 i) (Nat.le_of_ble_eq_true rfl) rfl ?_
          refine v_goto h (t := 5) dX9_origins_93 (by decide) ?_
          refine v_ls [0, 4, 5, 6, 7] (ls2 := [(5, .int (nI (i + 1))), (3, .long (ogN (gvT A.1.2.1) A.1.1 u v i)), (0, .ref (b_ad w 0)), (1, .int (nI u)), (2, .int (nI v))]) rfl ?_
          have es : ogN (gvT A.1.2.1) A.1.1 u v (i + 1) = ogN (gvT A.1.2.1) A.1.1 u v i := by rw [ogN, if_neg (fun z => c25 z.1)]
          have z := ih (m - 1) (by omega) (i + 1) (by omega) σ63_3 h63_3
          rw [es] at z
          exact z
set_option maxHeartbeats 4000000 in
set_option maxRecDepth 100000 in
theorem c_X9_origins {w : bw} {σ : bSt} {A : bA} {u v : Nat} (hs : sOpera w) (hR : RC σ A) (hu : u < 262144) (hv : v < 1000000) : MV yX9_origins cX9_origins 9 (some .long) (rmm 5 121) w [.ref (b_ad w 0), .int (nI u), .int (nI v)] σ (pRL (fun r τ => r = ogN (gvT A.1.2.1) A.1.1 u v 64 ∧ RC τ A)) := by
  refine b_met (ls := [(0, .ref (b_ad w 0)), (1, .int (nI u)), (2, .int (nI v))]) (by decide) (Nat.le_of_ble_eq_true rfl) rfl (fun x h => ?_)
  refine v_lconst h (v := 0) dX9_origins_0 (q := 1) rfl (by decide) ?_
  refine v_lstore_n h (i := 3) (ls1 := [(3, .long 0), (0, .ref (b_ad w 0)), (1, .int (nI u)), (2, .int (nI v))]) dX9_origins_1 (q := 2) rfl rfl (Nat.le_of_ble_eq_true rfl) rfl ?_
  refine v_iconst h (v := 0) dX9_origins_2 (q := 3) rfl (by decide) ?_
  refine v_istore h (i := 5) (ls1 := [(5, .int 0), (3, .long 0), (0, .ref (b_ad w 0)), (1, .int (nI u)), (2, .int (nI v))]) dX9_origins_3 (q := 5) rfl (Nat.le_of_ble_eq_true rfl) rfl ?_
  exact lX9_origins_5 hs hR hu hv h 64 0 rfl _ hR

set_option maxHeartbeats 4000000 in
set_option maxRecDepth 100000 in
theorem c_X9_fromWhere {w : bw} {σ : bSt} {A : bA} {cells lags : Int32} (hs : sOpera w) (hR : RC σ A) : MV yX9_fromWhere cX9_fromWhere 3 (some .int) (rmm 6 149) w [.ref (b_ad w 0), .int cells, .int lags] σ (pA (oFromWhere cells lags A)) := by
  refine b_met (ls := [(0, .ref (b_ad w 0)), (1, .int cells), (2, .int lags)]) (by decide) (Nat.le_of_ble_eq_true rfl) rfl (fun x h => ?_)
  refine v_iload_n h (i := 1) dX9_fromWhere_0 (q := 1) rfl rfl 1 rfl ?_
  refine v_callS h (As := [.int cells]) (rest := []) (c_X9_areThreeCells (v := cells)) cal_X9_areThreeCells m678 m677 ⟨rfl, rfl, Nat.le_of_ble_eq_true rfl, Nat.le_of_ble_eq_true rfl⟩ rfl rfl (Nat.le_of_ble_eq_true rfl) dX9_fromWhere_1 (q := 4) rfl (kB (fun c1 => ?_) (fun c1 => ?_))
  · refine v_if_eq h (t := 14) dX9_fromWhere_4 (by decide) (q := 7) rfl (fun c => absurd c (by decide)) (fun _ => ?_)
    refine v_iload_n h (i := 2) dX9_fromWhere_7 (q := 8) rfl rfl 2 rfl ?_
    refine v_callS h (As := [.int lags]) (rest := []) (c_X9_areThreeLags (v := lags)) cal_X9_areThreeLags m682 m681 ⟨rfl, rfl, Nat.le_of_ble_eq_true rfl, Nat.le_of_ble_eq_true rfl⟩ rfl rfl (Nat.le_of_ble_eq_true rfl) dX9_fromWhere_8 (q := 11) rfl (kB (fun c8 => ?_) (fun c8 => ?_))
    · refine v_if_ne h (t := 20) dX9_fromWhere_11 (by decide) (q := 14) rfl (fun _ => ?_) (fun c => absurd c (by decide))
      obtain ⟨u, hu, rfl⟩ := wi_0 (n := 262143) c1 rfl
      obtain ⟨v, hv, rfl⟩ := wi_0 (n := 999999) c8 rfl
      refine v_aload_n h (i := 0) dX9_fromWhere_20 (q := 21) rfl rfl 0 rfl ?_
      refine v_iload_n h (i := 1) dX9_fromWhere_21 (q := 22) rfl rfl 1 rfl ?_
      refine v_iload_n h (i := 2) dX9_fromWhere_22 (q := 23) rfl rfl 2 rfl ?_
      refine v_callV h (As := [.int (nI u), .int (nI v)]) (rest := []) (c_X9_origins (A := A) (σ := σ) (u := u) (v := v) hs hR (by omega) (by omega)) cal_X9_origins calV_X9_origins m685 ⟨rfl, rfl, Nat.le_of_ble_eq_true rfl, Nat.le_of_ble_eq_true rfl⟩ rfl hs.1.1 hs.1.2 ⟨_, _, rfl⟩ rfl (Nat.le_of_ble_eq_true rfl) dX9_fromWhere_23 (q := 26) rfl (kRL (fun r23 σ23 h23 => ?_))
      refine v_callS h (As := [.long r23]) (rest := []) (c_J13_bitCount_95d88 (v := r23)) cal_J13_bitCount_95d88 m694 m693 ⟨rfl, rfl, Nat.le_of_ble_eq_true rfl, Nat.le_of_ble_eq_true rfl⟩ rfl rfl (Nat.le_of_ble_eq_true rfl) dX9_fromWhere_26 (q := 29) rfl (kI ?_)
      exact v_iret h dX9_fromWhere_29 (pA_of (by unfold oFromWhere; rw [if_pos ⟨c1, c8⟩, cl_nI (n := u) (by omega), cl_nI (n := v) (by omega), h23.1, og_ct]) h23.2)
    · refine v_if_ne h (t := 20) dX9_fromWhere_11 (by decide) (q := 14) rfl (fun c => absurd (by decide) c) (fun _ => ?_)
      refine v_aload_n h (i := 0) dX9_fromWhere_14 (q := 15) rfl rfl 0 rfl ?_
      refine v_iconst h (v := 1) dX9_fromWhere_15 (q := 16) rfl (by decide) ?_
      refine v_callV h (As := [.int 1]) (rest := []) (c_ref (σ := σ) hs (e := 1) (by decide) rfl) cal_X9_refuse calV_X9_refuse m315 ⟨rfl, rfl, Nat.le_of_ble_eq_true rfl, Nat.le_of_ble_eq_true rfl⟩ rfl hs.1.1 hs.1.2 ⟨_, _, rfl⟩ rfl (Nat.le_of_ble_eq_true rfl) dX9_fromWhere_16 (q := 19) rfl (kI ?_)
      exact v_iret h dX9_fromWhere_19 (pA_of (by unfold oFromWhere; rw [if_neg (fun z => by first | exact c1 z.1 | exact c8 z.2)]; rfl) (hR.err (by decide)))
  · refine v_if_eq h (t := 14) dX9_fromWhere_4 (by decide) (q := 7) rfl (fun _ => ?_) (fun c => absurd (by decide) c)
    refine v_aload_n h (i := 0) dX9_fromWhere_14 (q := 15) rfl rfl 0 rfl ?_
    refine v_iconst h (v := 1) dX9_fromWhere_15 (q := 16) rfl (by decide) ?_
    refine v_callV h (As := [.int 1]) (rest := []) (c_ref (σ := σ) hs (e := 1) (by decide) rfl) cal_X9_refuse calV_X9_refuse m315 ⟨rfl, rfl, Nat.le_of_ble_eq_true rfl, Nat.le_of_ble_eq_true rfl⟩ rfl hs.1.1 hs.1.2 ⟨_, _, rfl⟩ rfl (Nat.le_of_ble_eq_true rfl) dX9_fromWhere_16 (q := 19) rfl (kI ?_)
    exact v_iret h dX9_fromWhere_19 (pA_of (by unfold oFromWhere; rw [if_neg (fun z => by first | exact c1 z.1 | exact c8 z.2)]; rfl) (hR.err (by decide)))

set_option maxHeartbeats 4000000 in
set_option maxRecDepth 100000 in
theorem lX9_whereFrom_38 {w : bw} {σ : bSt} {A : bA} {cells lags i : Int32} (hs : sOpera w) (hR : RC σ A) {x : bX} (h : Cx x w cX9_whereFrom RX9 8 (some .int) (rmm 6 149)) : ∀ u v q : Nat, u ≤ 262143 → v ≤ 999999 → q < 2 ^ 31 → wj cells 0 262143 ∧ wj lags 0 999999 ∧ ¬ i < 0 → cells = nI u → lags = nI v → i = nI q → ∀ τ : bSt, RC τ A → ∀ m c f : Nat, c + m = 64 → f ≤ c → wfN (ogB (gvT A.1.2.1) A.1.1 u v) q m c f = wfN (ogB (gvT A.1.2.1) A.1.1 u v) q 64 0 0 → V x w 8 (pA (oWhereFrom cells lags i A)) 38 [(7, .int (nI c)), (6, .int (nI f)), (4, .long (ogN (gvT A.1.2.1) A.1.1 u v 64)), (0, .ref (b_ad w 0)), (3, .int (nI q))] [] τ := by
  intro u v q hu hv hq hcond ecu elv eiq τ hT
  refine b_ind (fun m ih => ?_)
  intro c f hcm hfc hwf
  refine v_iload h (i := 7) dX9_whereFrom_38 (q := 40) rfl 0 rfl ?_
  refine v_bipush h (v := 64) dX9_whereFrom_40 (q := 42) rfl (by decide) ?_
  refine v_icmp_ge h (t := 78) dX9_whereFrom_42 (by decide) (q := 45) rfl (fun c42 => ?_) (fun c42 => ?_)
  · refine v_aload_n h (i := 0) dX9_whereFrom_78 (q := 79) rfl rfl 3 rfl ?_
    refine v_iconst h (v := 2) dX9_whereFrom_79 (q := 80) rfl (by decide) ?_
    refine v_callV h (As := [.int 2]) (rest := []) (c_ref (σ := τ) hs (e := 2) (by decide) rfl) cal_X9_refuse calV_X9_refuse m315 ⟨rfl, rfl, Nat.le_of_ble_eq_true rfl, Nat.le_of_ble_eq_true rfl⟩ rfl hs.1.1 hs.1.2 ⟨_, _, rfl⟩ rfl (Nat.le_of_ble_eq_true rfl) dX9_whereFrom_80 (q := 83) rfl (kI ?_)
    exact v_iret h dX9_whereFrom_83 (pA_of (by subst ecu elv eiq; unfold oWhereFrom; rw [if_pos hcond, cl_nI (n := u) (by omega), cl_nI (n := v) (by omega), cl_nI (n := q) (by omega), ← hwf, show m = 0 by have := nge (k := 64) rfl (by omega) c42; omega]; rfl) (hT.err (by decide)))
  · have hc64 : c < 64 := nlt rfl (by omega) c42
    refine v_lload h (i := 4) dX9_whereFrom_45 (q := 47) rfl 2 rfl ?_
    refine v_iload h (i := 7) dX9_whereFrom_47 (q := 49) rfl 0 rfl ?_
    refine v_lushr h (v := ushrL (ogN (gvT A.1.2.1) A.1.1 u v 64) (nI c)) dX9_whereFrom_49 (q := 50) rfl rfl ?_
    refine v_lconst h (v := 1) dX9_whereFrom_50 (q := 51) rfl (by decide) ?_
    refine v_land h dX9_whereFrom_51 (q := 52) rfl ?_
    rw [show ((ushrL (ogN (gvT A.1.2.1) A.1.1 u v 64) (nI c)) &&& 1 : Int64) = if ogB (gvT A.1.2.1) A.1.1 u v c = true then (1 : Int64) else 0 from (og_sh hc64)]
    refine v_lconst h (v := 0) dX9_whereFrom_52 (q := 53) rfl (by decide) ?_
    refine v_lcmp h dX9_whereFrom_53 (q := 54) rfl ?_
    refine v_if_ne h (t := 60) dX9_whereFrom_54 (by decide) (q := 57) rfl (fun c54 => ?_) (fun c54 => ?_)
    · have hp := Classical.not_not.mp (fun z => c54 (lg_if.mpr z))
      refine v_iload h (i := 6) dX9_whereFrom_60 (q := 62) rfl 1 rfl ?_
      refine v_iload_n h (i := 3) dX9_whereFrom_62 (q := 63) rfl rfl 4 rfl ?_
      refine v_icmp_ne h (t := 69) dX9_whereFrom_63 (by decide) (q := 66) rfl (fun c63 => ?_) (fun c63 => ?_)
      · refine v_iinc h (p := 1) (u := nI (f + 1)) (ls1 := [(6, .int (nI (f + 1))), (7, .int (nI c)), (4, .long (ogN (gvT A.1.2.1) A.1.1 u v 64)), (0, .ref (b_ad w 0)), (3, .int (nI q))]) dX9_whereFrom_69 (q := 72) rfl rfl (nI_1 f) (Nat.le_of_ble_eq_true rfl) rfl ?_
        refine v_iinc h (p := 1) (u := nI (c + 1)) (ls1 := [(7, .int (nI (c + 1))), (6, .int (nI (f + 1))), (4, .long (ogN (gvT A.1.2.1) A.1.1 u v 64)), (0, .ref (b_ad w 0)), (3, .int (nI q))]) dX9_whereFrom_72 (q := 75) rfl rfl (nI_1 c) (Nat.le_of_ble_eq_true rfl) rfl ?_
        refine v_goto h (t := 38) dX9_whereFrom_75 (by decide) ?_
        exact ih (m - 1) (by omega) (c + 1) (f + 1) (by omega) (by omega) (by rw [← hwf, show m = (m - 1) + 1 by omega, wf_go hp (fun z => c63 (congrArg nI z))]; rfl)
      · refine v_iload h (i := 7) dX9_whereFrom_66 (q := 68) rfl 0 rfl ?_
        exact v_iret h dX9_whereFrom_68 (pA_of (by subst ecu elv eiq; unfold oWhereFrom; rw [if_pos hcond, cl_nI (n := u) (by omega), cl_nI (n := v) (by omega), cl_nI (n := q) (by omega), ← hwf, show m = (m - 1) + 1 by omega, wf_hit hp (nI_inj (by omega) (by omega) c63)]; rfl) hT)
    · refine v_goto h (t := 72) dX9_whereFrom_57 (by decide) ?_
      refine v_iinc h (p := 0) (u := nI (c + 1)) (ls1 := [(7, .int (nI (c + 1))), (6, .int (nI f)), (4, .long (ogN (gvT A.1.2.1) A.1.1 u v 64)), (0, .ref (b_ad w 0)), (3, .int (nI q))]) dX9_whereFrom_72 (q := 75) rfl rfl (nI_1 c) (Nat.le_of_ble_eq_true rfl) rfl ?_
      refine v_goto h (t := 38) dX9_whereFrom_75 (by decide) ?_
      exact ih (m - 1) (by omega) (c + 1) f (by omega) (by omega) (by rw [← hwf, show m = (m - 1) + 1 by omega, wf_no (lg_if.mp c54)]; rfl)
set_option maxHeartbeats 4000000 in
set_option maxRecDepth 100000 in
theorem c_X9_whereFrom {w : bw} {σ : bSt} {A : bA} {cells lags i : Int32} (hs : sOpera w) (hR : RC σ A) : MV yX9_whereFrom cX9_whereFrom 8 (some .int) (rmm 6 149) w [.ref (b_ad w 0), .int cells, .int lags, .int i] σ (pA (oWhereFrom cells lags i A)) := by
  refine b_met (ls := [(0, .ref (b_ad w 0)), (1, .int cells), (2, .int lags), (3, .int i)]) (by decide) (Nat.le_of_ble_eq_true rfl) rfl (fun x h => ?_)
  refine v_iload_n h (i := 1) dX9_whereFrom_0 (q := 1) rfl rfl 1 rfl ?_
  refine v_callS h (As := [.int cells]) (rest := []) (c_X9_areThreeCells (v := cells)) cal_X9_areThreeCells m678 m677 ⟨rfl, rfl, Nat.le_of_ble_eq_true rfl, Nat.le_of_ble_eq_true rfl⟩ rfl rfl (Nat.le_of_ble_eq_true rfl) dX9_whereFrom_1 (q := 4) rfl (kB (fun c1 => ?_) (fun c1 => ?_))
  · refine v_if_eq h (t := 18) dX9_whereFrom_4 (by decide) (q := 7) rfl (fun c => absurd c (by decide)) (fun _ => ?_)
    refine v_iload_n h (i := 2) dX9_whereFrom_7 (q := 8) rfl rfl 2 rfl ?_
    refine v_callS h (As := [.int lags]) (rest := []) (c_X9_areThreeLags (v := lags)) cal_X9_areThreeLags m682 m681 ⟨rfl, rfl, Nat.le_of_ble_eq_true rfl, Nat.le_of_ble_eq_true rfl⟩ rfl rfl (Nat.le_of_ble_eq_true rfl) dX9_whereFrom_8 (q := 11) rfl (kB (fun c8 => ?_) (fun c8 => ?_))
    · refine v_if_eq h (t := 18) dX9_whereFrom_11 (by decide) (q := 14) rfl (fun c => absurd c (by decide)) (fun _ => ?_)
      refine v_iload_n h (i := 3) dX9_whereFrom_14 (q := 15) rfl rfl 3 rfl ?_
      refine v_if_ge h (t := 24) dX9_whereFrom_15 (by decide) (q := 18) rfl (fun c15 => ?_) (fun c15 => ?_)
      · obtain ⟨u, hu, rfl⟩ := wi_0 (n := 262143) c1 rfl
        obtain ⟨v, hv, rfl⟩ := wi_0 (n := 999999) c8 rfl
        have hi0 : ¬ i < 0 := by first | assumption | exact Int32.not_lt.mpr (by assumption)
        obtain ⟨q, hq, rfl⟩ := nI_of hi0
        refine v_aload_n h (i := 0) dX9_whereFrom_24 (q := 25) rfl rfl 0 rfl ?_
        refine v_iload_n h (i := 1) dX9_whereFrom_25 (q := 26) rfl rfl 1 rfl ?_
        refine v_iload_n h (i := 2) dX9_whereFrom_26 (q := 27) rfl rfl 2 rfl ?_
        refine v_callV h (As := [.int (nI u), .int (nI v)]) (rest := []) (c_X9_origins (A := A) (σ := σ) (u := u) (v := v) hs hR (by omega) (by omega)) cal_X9_origins calV_X9_origins m685 ⟨rfl, rfl, Nat.le_of_ble_eq_true rfl, Nat.le_of_ble_eq_true rfl⟩ rfl hs.1.1 hs.1.2 ⟨_, _, rfl⟩ rfl (Nat.le_of_ble_eq_true rfl) dX9_whereFrom_27 (q := 30) rfl (kRL (fun r27 σ27 h27 => ?_))
        refine v_lstore h (i := 4) (ls1 := [(4, .long r27), (0, .ref (b_ad w 0)), (1, .int (nI u)), (2, .int (nI v)), (3, .int (nI q))]) dX9_whereFrom_30 (q := 32) rfl (Nat.le_of_ble_eq_true rfl) rfl ?_
        refine v_iconst h (v := 0) dX9_whereFrom_32 (q := 33) rfl (by decide) ?_
        refine v_istore h (i := 6) (ls1 := [(6, .int 0), (4, .long r27), (0, .ref (b_ad w 0)), (1, .int (nI u)), (2, .int (nI v)), (3, .int (nI q))]) dX9_whereFrom_33 (q := 35) rfl (Nat.le_of_ble_eq_true rfl) rfl ?_
        refine v_iconst h (v := 0) dX9_whereFrom_35 (q := 36) rfl (by decide) ?_
        refine v_istore h (i := 7) (ls1 := [(7, .int 0), (6, .int 0), (4, .long r27), (0, .ref (b_ad w 0)), (1, .int (nI u)), (2, .int (nI v)), (3, .int (nI q))]) dX9_whereFrom_36 (q := 38) rfl (Nat.le_of_ble_eq_true rfl) rfl ?_
        refine v_ls [0, 1, 2, 3, 6] (ls2 := [(7, .int 0), (6, .int 0), (4, .long r27), (0, .ref (b_ad w 0)), (3, .int (nI q))]) rfl ?_
        rw [h27.1]
        exact lX9_whereFrom_38 hs hR h u v q hu hv hq ⟨c1, c8, hi0⟩ rfl rfl rfl _ h27.2 64 0 0 rfl (Nat.le_refl 0) rfl
      · refine v_aload_n h (i := 0) dX9_whereFrom_18 (q := 19) rfl rfl 0 rfl ?_
        refine v_iconst h (v := 1) dX9_whereFrom_19 (q := 20) rfl (by decide) ?_
        refine v_callV h (As := [.int 1]) (rest := []) (c_ref (σ := σ) hs (e := 1) (by decide) rfl) cal_X9_refuse calV_X9_refuse m315 ⟨rfl, rfl, Nat.le_of_ble_eq_true rfl, Nat.le_of_ble_eq_true rfl⟩ rfl hs.1.1 hs.1.2 ⟨_, _, rfl⟩ rfl (Nat.le_of_ble_eq_true rfl) dX9_whereFrom_20 (q := 23) rfl (kI ?_)
        exact v_iret h dX9_whereFrom_23 (pA_of (by unfold oWhereFrom; rw [if_neg (fun z => by first | exact c1 z.1 | exact c8 z.2.1 | exact z.2.2 (Int32.not_le.mp c15))]; rfl) (hR.err (by decide)))
    · refine v_if_eq h (t := 18) dX9_whereFrom_11 (by decide) (q := 14) rfl (fun _ => ?_) (fun c => absurd (by decide) c)
      refine v_aload_n h (i := 0) dX9_whereFrom_18 (q := 19) rfl rfl 0 rfl ?_
      refine v_iconst h (v := 1) dX9_whereFrom_19 (q := 20) rfl (by decide) ?_
      refine v_callV h (As := [.int 1]) (rest := []) (c_ref (σ := σ) hs (e := 1) (by decide) rfl) cal_X9_refuse calV_X9_refuse m315 ⟨rfl, rfl, Nat.le_of_ble_eq_true rfl, Nat.le_of_ble_eq_true rfl⟩ rfl hs.1.1 hs.1.2 ⟨_, _, rfl⟩ rfl (Nat.le_of_ble_eq_true rfl) dX9_whereFrom_20 (q := 23) rfl (kI ?_)
      exact v_iret h dX9_whereFrom_23 (pA_of (by unfold oWhereFrom; rw [if_neg (fun z => by first | exact c1 z.1 | exact c8 z.2.1 | exact z.2.2 (Int32.not_le.mp c15))]; rfl) (hR.err (by decide)))
  · refine v_if_eq h (t := 18) dX9_whereFrom_4 (by decide) (q := 7) rfl (fun _ => ?_) (fun c => absurd (by decide) c)
    refine v_aload_n h (i := 0) dX9_whereFrom_18 (q := 19) rfl rfl 0 rfl ?_
    refine v_iconst h (v := 1) dX9_whereFrom_19 (q := 20) rfl (by decide) ?_
    refine v_callV h (As := [.int 1]) (rest := []) (c_ref (σ := σ) hs (e := 1) (by decide) rfl) cal_X9_refuse calV_X9_refuse m315 ⟨rfl, rfl, Nat.le_of_ble_eq_true rfl, Nat.le_of_ble_eq_true rfl⟩ rfl hs.1.1 hs.1.2 ⟨_, _, rfl⟩ rfl (Nat.le_of_ble_eq_true rfl) dX9_whereFrom_20 (q := 23) rfl (kI ?_)
    exact v_iret h dX9_whereFrom_23 (pA_of (by unfold oWhereFrom; rw [if_neg (fun z => by first | exact c1 z.1 | exact c8 z.2.1 | exact z.2.2 (Int32.not_le.mp c15))]; rfl) (hR.err (by decide)))
