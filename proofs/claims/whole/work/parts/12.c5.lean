def clmp (v : Int32) : Int32 := imax 0 (imin 99 v)
def wtC (use a b : Int32) : Int32 := if use = 1 then b else if b = 0 then 0 else a / b
def gvF (σ : bSt) (f : Nat) (use a b c : Int32) : Int32 := clmp (if 0 < σ f 0 then evC (σ (f + 1)) (σ f 0).toNatClampNeg a b c else wtC use a b)
def gvS (σ : bSt) (L : Nat) (use a b c : Int32) : Int32 := if use = 0 then gvF σ (L + 2) use a b c else gvF σ (L + 5) use a b c
def okF (σ : bSt) (f : Nat) : Prop := ∃ len : Nat, σ f 0 = nI len ∧ okC (σ (f + 1)) len
def okL (σ : bSt) (L : Nat) : Prop := okF σ (L + 2) ∧ okF σ (L + 5)
def cacheOK (σ : bSt) (L : Nat) : Prop := ∀ vn tn d : Nat, 1 ≤ vn → vn ≤ 9 → tn < 32 → d < 8 → σ (L + 8) (((vn - 1) * 32 + tn) * 8 + d) = -1 ∨ σ (L + 8) (((vn - 1) * 32 + tn) * 8 + d) = gvS σ L 0 (nI d) (nI vn) (nI tn)
/-- what asking the LAWS may leave behind: the stacks and what is remembered -/
def scr (L : Nat) (σ σ' : bSt) : Prop := ∀ j, j ≠ L + 4 → j ≠ L + 7 → j ≠ L + 8 → σ' j = σ j
theorem scr_rfl {L : Nat} {σ : bSt} : scr L σ σ := fun _ _ _ _ => rfl
theorem scr.trans {L : Nat} {a b c : bSt} (h : scr L a b) (k : scr L b c) : scr L a c := fun j h1 h2 h3 => (k j h1 h2 h3).trans (h j h1 h2 h3)
theorem gvS_scr {L : Nat} {σ σ' : bSt} (h : scr L σ σ') : gvS σ' L = gvS σ L := by
  funext use a b c
  unfold gvS gvF
  rw [h (L + 2) (by omega) (by omega) (by omega), h (L + 2 + 1) (by omega) (by omega) (by omega), h (L + 5) (by omega) (by omega) (by omega), h (L + 5 + 1) (by omega) (by omega) (by omega)]
theorem okL_scr {L : Nat} {σ σ' : bSt} (h : scr L σ σ') (k : okL σ L) : okL σ' L := by
  unfold okL okF at *
  rw [h (L + 2) (by omega) (by omega) (by omega), h (L + 2 + 1) (by omega) (by omega) (by omega), h (L + 5) (by omega) (by omega) (by omega), h (L + 5 + 1) (by omega) (by omega) (by omega)]
  exact k
theorem pos_of {x : Int32} {len : Nat} (hl : x = nI len) (h50 : len ≤ 50) (c : 0 < x) : 0 < len := by
  rw [hl, i_lt, nI_toInt (by omega)] at c
  have : (0 : Int32).toInt = 0 := rfl
  omega
theorem gv_pos {σ : bSt} {f len : Nat} {use a b c r : Int32} (hl : σ f 0 = nI len) (h50 : len ≤ 50) (c0 : 0 < σ f 0) (hr : r = evC (σ (f + 1)) len a b c) : imax 0 (imin 99 r) = gvF σ f use a b c := by
  unfold gvF clmp
  rw [if_pos c0, hl, nI_clamp (by omega), hr]
theorem gv_neg {σ : bSt} {f : Nat} {use a b c r : Int32} (c0 : ¬ 0 < σ f 0) (hr : r = wtC use a b) : imax 0 (imin 99 r) = gvF σ f use a b c := by
  unfold gvF clmp
  rw [if_neg c0, hr]
theorem nI_mulN (a b : Nat) : nI a * nI b = nI (a * b) := (Int32.ofNat_mul a b).symm
theorem lag_ix {vn tn d : Nat} (h : 1 ≤ vn) : ((nI vn - 1) * 32 + nI tn) * 8 + nI d = nI (((vn - 1) * 32 + tn) * 8 + d) := by
  rw [show (1 : Int32) = nI 1 from rfl, show (32 : Int32) = nI 32 from rfl, show (8 : Int32) = nI 8 from rfl, nI_sub 1 h, nI_mulN, nI_add, nI_mulN, nI_add]
theorem tide_ix : ∀ tn : Nat, tn < 32 → (nI tn >>> (3 &&& 31)) &&& 3 = nI (tn / 8) := by decide +kernel
theorem cache_put {σ : bSt} {L vn tn d : Nat} {τ : bSt} {r : Int32} (hc : cacheOK σ L) (hs : scr L σ τ) (hk : τ (L + 8) = upd (σ (L + 8)) (((vn - 1) * 32 + tn) * 8 + d) r) (h1 : 1 ≤ vn) (h2 : vn ≤ 9) (h3 : tn < 32) (h4 : d < 8) (hr : r = gvS σ L 0 (nI d) (nI vn) (nI tn)) : cacheOK τ L := by
  intro v2 t2 d2 g1 g2 g3 g4
  rw [gvS_scr hs, hk]
  unfold upd
  by_cases e : ((v2 - 1) * 32 + t2) * 8 + d2 = ((vn - 1) * 32 + tn) * 8 + d
  · rw [if_pos e]
    have e1 : v2 = vn := by omega
    have e2 : t2 = tn := by omega
    have e3 : d2 = d := by omega
    subst e1 e2 e3
    exact Or.inr hr
  · rw [if_neg e]
    exact hc v2 t2 d2 g1 g2 g3 g4
theorem cache_same {σ τ : bSt} {L : Nat} (hc : cacheOK σ L) (hs : scr L σ τ) (hk : τ (L + 8) = σ (L + 8)) : cacheOK τ L := by
  intro v2 t2 d2 g1 g2 g3 g4
  rw [gvS_scr hs, hk]
  exact hc v2 t2 d2 g1 g2 g3 g4
theorem okF_at {σ τ : bSt} {f : Nat} (h : okF σ f) (h0 : τ f = σ f) (h1 : τ (f + 1) = σ (f + 1)) : okF τ f := by
  unfold okF at *
  rw [h0, h1]
  exact h

set_option maxHeartbeats 4000000 in
set_option maxRecDepth 100000 in
theorem c_X3_withoutText {w : bw} {σ : bSt} {use a b : Int32}  : MV yX3_withoutText cX3_withoutText 3 (some .int) (rmm 0 0) w [.int use, .int a, .int b] σ (pI (wtC use a b) σ) := by
  refine b_met (ls := [(0, .int use), (1, .int a), (2, .int b)]) (by decide) (Nat.le_of_ble_eq_true rfl) rfl (fun x h => ?_)
  refine v_iload_n h (i := 0) dX3_withoutText_0 (q := 1) rfl rfl 0 rfl ?_
  refine v_iconst h (v := 1) dX3_withoutText_1 (q := 2) rfl (by decide) ?_
  refine v_icmp_ne h (t := 7) dX3_withoutText_2 (by decide) (q := 5) rfl (fun c2 => ?_) (fun c2 => ?_)
  · refine v_iload_n h (i := 2) dX3_withoutText_7 (q := 8) rfl rfl 2 rfl ?_
    refine v_if_ne h (t := 15) dX3_withoutText_8 (by decide) (q := 11) rfl (fun c8 => ?_) (fun c8 => ?_)
    · refine v_iload_n h (i := 1) dX3_withoutText_15 (q := 16) rfl rfl 1 rfl ?_
      refine v_iload_n h (i := 2) dX3_withoutText_16 (q := 17) rfl rfl 2 rfl ?_
      refine v_idiv h dX3_withoutText_17 (q := 18) rfl c8 ?_
      exact v_iret h dX3_withoutText_18 ⟨by unfold wtC; simp [*], rfl⟩
    · refine v_iconst h (v := 0) dX3_withoutText_11 (q := 12) rfl (by decide) ?_
      refine v_goto h (t := 18) dX3_withoutText_12 (by decide) ?_
      exact v_iret h dX3_withoutText_18 ⟨by unfold wtC; simp [*], rfl⟩
  · refine v_iload_n h (i := 2) dX3_withoutText_5 (q := 6) rfl rfl 2 rfl ?_
    exact v_iret h dX3_withoutText_6 ⟨by unfold wtC; simp [*], rfl⟩

set_option maxHeartbeats 4000000 in
set_option maxRecDepth 100000 in
theorem c_X3_gives {w : bw} {σ : bSt} {me : Nat} {use a b c : Int32} (hs : sLaws w me) (hok0 : okL σ me) : MV yX3_gives cX3_gives 7 (some .int) (rmm 2 48) w [.ref (b_ad w me), .int use, .int a, .int b, .int c] σ (pR (fun r σ' => r = gvS σ me use a b c ∧ ∀ j, j ≠ me + 4 → j ≠ me + 7 → σ' j = σ j)) := by
  refine b_met (ls := [(0, .ref (b_ad w me)), (1, .int use), (2, .int a), (3, .int b), (4, .int c)]) (by decide) (Nat.le_of_ble_eq_true rfl) rfl (fun x h => ?_)
  refine v_iload_n h (i := 1) dX3_gives_0 (q := 1) rfl rfl 1 rfl ?_
  refine v_if_ne h (t := 11) dX3_gives_1 (by decide) (q := 4) rfl (fun c1 => ?_) (fun c1 => ?_)
  · refine v_aload_n h (i := 0) dX3_gives_11 (q := 12) rfl rfl 0 rfl ?_
    refine v_get h (k := 3) (v := .ref (b_ad w (me + 5))) cls3 hs.1.1 hs.1.2 (Nat.le_of_ble_eq_true rfl) m62 rfl dX3_gives_12 (q := 15) rfl ?_
    refine v_astore h (i := 5) (ls1 := [(5, .ref (b_ad w (me + 5))), (0, .ref (b_ad w me)), (1, .int use), (2, .int a), (3, .int b), (4, .int c)]) dX3_gives_15 (q := 17) rfl (Nat.le_of_ble_eq_true rfl) rfl ?_
    refine v_aload h (i := 5) dX3_gives_17 (q := 19) rfl 0 rfl ?_
    refine v_callV h (As := []) (rest := []) (c_X2_isThere (me := me + 5) (σ := σ) hs.2.2.2.1) cal_X2_isThere calV_X2_isThere m396 ⟨rfl, rfl, Nat.le_of_ble_eq_true rfl, Nat.le_of_ble_eq_true rfl⟩ rfl hs.2.2.2.1.1.1 hs.2.2.2.1.1.2 ⟨_, _, rfl⟩ rfl (Nat.le_of_ble_eq_true rfl) dX3_gives_19 (q := 22) rfl (kB (fun c19 => ?_) (fun c19 => ?_))
    · refine v_if_eq h (t := 37) dX3_gives_22 (by decide) (q := 25) rfl (fun c => absurd c (by decide)) (fun _ => ?_)
      obtain ⟨len, hl, hok⟩ := hok0.2
      have hpos := pos_of hl hok.1 c19
      refine v_aload h (i := 5) dX3_gives_25 (q := 27) rfl 0 rfl ?_
      refine v_iload_n h (i := 2) dX3_gives_27 (q := 28) rfl rfl 3 rfl ?_
      refine v_iload_n h (i := 3) dX3_gives_28 (q := 29) rfl rfl 4 rfl ?_
      refine v_iload h (i := 4) dX3_gives_29 (q := 31) rfl 5 rfl ?_
      refine v_callV h (As := [.int a, .int b, .int c]) (rest := []) (c_X2_worth (me := me + 5) (σ := σ) (a := a) (b := b) (c := c) hs.2.2.2.1 hl hok hpos) cal_X2_worth calV_X2_worth m400 ⟨rfl, rfl, Nat.le_of_ble_eq_true rfl, Nat.le_of_ble_eq_true rfl⟩ rfl hs.2.2.2.1.1.1 hs.2.2.2.1.1.2 ⟨_, _, rfl⟩ rfl (Nat.le_of_ble_eq_true rfl) dX3_gives_31 (q := 34) rfl (kR (fun r31 σ31 h31 => ?_))
      refine v_goto h (t := 43) dX3_gives_34 (by decide) ?_
      refine v_istore h (i := 6) (ls1 := [(6, .int r31), (5, .ref (b_ad w (me + 5))), (0, .ref (b_ad w me)), (1, .int use), (2, .int a), (3, .int b), (4, .int c)]) dX3_gives_43 (q := 45) rfl (Nat.le_of_ble_eq_true rfl) rfl ?_
      refine v_iconst h (v := 0) dX3_gives_45 (q := 46) rfl (by decide) ?_
      refine v_bipush h (v := 99) dX3_gives_46 (q := 48) rfl (by decide) ?_
      refine v_iload h (i := 6) dX3_gives_48 (q := 50) rfl 0 rfl ?_
      refine v_min h m410 m411 m13 m412 ⟨Nat.le_of_ble_eq_true rfl, Nat.le_of_ble_eq_true rfl⟩ dX3_gives_50 (q := 53) rfl ?_
      refine v_max h m413 m386 m13 m387 ⟨Nat.le_of_ble_eq_true rfl, Nat.le_of_ble_eq_true rfl⟩ dX3_gives_53 (q := 56) rfl ?_
      exact v_iret h dX3_gives_56 ⟨_, rfl, by unfold gvS; rw [if_neg c1]; exact gv_pos hl hok.1 c19 h31.1, fun j h1 h2 => h31.2 j (by omega)⟩
    · refine v_if_eq h (t := 37) dX3_gives_22 (by decide) (q := 25) rfl (fun _ => ?_) (fun c => absurd (by decide) c)
      refine v_iload_n h (i := 1) dX3_gives_37 (q := 38) rfl rfl 2 rfl ?_
      refine v_iload_n h (i := 2) dX3_gives_38 (q := 39) rfl rfl 3 rfl ?_
      refine v_iload_n h (i := 3) dX3_gives_39 (q := 40) rfl rfl 4 rfl ?_
      refine v_callS h (As := [.int use, .int a, .int b]) (rest := []) (c_X3_withoutText (use := use) (a := a) (b := b)) cal_X3_withoutText m408 m407 ⟨rfl, rfl, Nat.le_of_ble_eq_true rfl, Nat.le_of_ble_eq_true rfl⟩ rfl rfl (Nat.le_of_ble_eq_true rfl) dX3_gives_40 (q := 43) rfl (kI ?_)
      refine v_istore h (i := 6) (ls1 := [(6, .int (wtC use a b)), (5, .ref (b_ad w (me + 5))), (0, .ref (b_ad w me)), (1, .int use), (2, .int a), (3, .int b), (4, .int c)]) dX3_gives_43 (q := 45) rfl (Nat.le_of_ble_eq_true rfl) rfl ?_
      refine v_iconst h (v := 0) dX3_gives_45 (q := 46) rfl (by decide) ?_
      refine v_bipush h (v := 99) dX3_gives_46 (q := 48) rfl (by decide) ?_
      refine v_iload h (i := 6) dX3_gives_48 (q := 50) rfl 0 rfl ?_
      refine v_min h m410 m411 m13 m412 ⟨Nat.le_of_ble_eq_true rfl, Nat.le_of_ble_eq_true rfl⟩ dX3_gives_50 (q := 53) rfl ?_
      refine v_max h m413 m386 m13 m387 ⟨Nat.le_of_ble_eq_true rfl, Nat.le_of_ble_eq_true rfl⟩ dX3_gives_53 (q := 56) rfl ?_
      exact v_iret h dX3_gives_56 ⟨_, rfl, by unfold gvS; rw [if_neg c1]; exact gv_neg c19 rfl, fun j h1 h2 => rfl⟩
  · refine v_aload_n h (i := 0) dX3_gives_4 (q := 5) rfl rfl 0 rfl ?_
    refine v_get h (k := 2) (v := .ref (b_ad w (me + 2))) cls3 hs.1.1 hs.1.2 (Nat.le_of_ble_eq_true rfl) m61 rfl dX3_gives_5 (q := 8) rfl ?_
    refine v_goto h (t := 15) dX3_gives_8 (by decide) ?_
    refine v_astore h (i := 5) (ls1 := [(5, .ref (b_ad w (me + 2))), (0, .ref (b_ad w me)), (1, .int use), (2, .int a), (3, .int b), (4, .int c)]) dX3_gives_15 (q := 17) rfl (Nat.le_of_ble_eq_true rfl) rfl ?_
    refine v_aload h (i := 5) dX3_gives_17 (q := 19) rfl 0 rfl ?_
    refine v_callV h (As := []) (rest := []) (c_X2_isThere (me := me + 2) (σ := σ) hs.2.2.1) cal_X2_isThere calV_X2_isThere m396 ⟨rfl, rfl, Nat.le_of_ble_eq_true rfl, Nat.le_of_ble_eq_true rfl⟩ rfl hs.2.2.1.1.1 hs.2.2.1.1.2 ⟨_, _, rfl⟩ rfl (Nat.le_of_ble_eq_true rfl) dX3_gives_19 (q := 22) rfl (kB (fun c19_1 => ?_) (fun c19_1 => ?_))
    · refine v_if_eq h (t := 37) dX3_gives_22 (by decide) (q := 25) rfl (fun c => absurd c (by decide)) (fun _ => ?_)
      obtain ⟨len, hl, hok⟩ := hok0.1
      have hpos := pos_of hl hok.1 c19_1
      refine v_aload h (i := 5) dX3_gives_25 (q := 27) rfl 0 rfl ?_
      refine v_iload_n h (i := 2) dX3_gives_27 (q := 28) rfl rfl 3 rfl ?_
      refine v_iload_n h (i := 3) dX3_gives_28 (q := 29) rfl rfl 4 rfl ?_
      refine v_iload h (i := 4) dX3_gives_29 (q := 31) rfl 5 rfl ?_
      refine v_callV h (As := [.int a, .int b, .int c]) (rest := []) (c_X2_worth (me := me + 2) (σ := σ) (a := a) (b := b) (c := c) hs.2.2.1 hl hok hpos) cal_X2_worth calV_X2_worth m400 ⟨rfl, rfl, Nat.le_of_ble_eq_true rfl, Nat.le_of_ble_eq_true rfl⟩ rfl hs.2.2.1.1.1 hs.2.2.1.1.2 ⟨_, _, rfl⟩ rfl (Nat.le_of_ble_eq_true rfl) dX3_gives_31 (q := 34) rfl (kR (fun r31_1 σ31_1 h31_1 => ?_))
      refine v_goto h (t := 43) dX3_gives_34 (by decide) ?_
      refine v_istore h (i := 6) (ls1 := [(6, .int r31_1), (5, .ref (b_ad w (me + 2))), (0, .ref (b_ad w me)), (1, .int use), (2, .int a), (3, .int b), (4, .int c)]) dX3_gives_43 (q := 45) rfl (Nat.le_of_ble_eq_true rfl) rfl ?_
      refine v_iconst h (v := 0) dX3_gives_45 (q := 46) rfl (by decide) ?_
      refine v_bipush h (v := 99) dX3_gives_46 (q := 48) rfl (by decide) ?_
      refine v_iload h (i := 6) dX3_gives_48 (q := 50) rfl 0 rfl ?_
      refine v_min h m410 m411 m13 m412 ⟨Nat.le_of_ble_eq_true rfl, Nat.le_of_ble_eq_true rfl⟩ dX3_gives_50 (q := 53) rfl ?_
      refine v_max h m413 m386 m13 m387 ⟨Nat.le_of_ble_eq_true rfl, Nat.le_of_ble_eq_true rfl⟩ dX3_gives_53 (q := 56) rfl ?_
      exact v_iret h dX3_gives_56 ⟨_, rfl, by unfold gvS; rw [if_pos c1]; exact gv_pos hl hok.1 c19_1 h31_1.1, fun j h1 h2 => h31_1.2 j (by omega)⟩
    · refine v_if_eq h (t := 37) dX3_gives_22 (by decide) (q := 25) rfl (fun _ => ?_) (fun c => absurd (by decide) c)
      refine v_iload_n h (i := 1) dX3_gives_37 (q := 38) rfl rfl 2 rfl ?_
      refine v_iload_n h (i := 2) dX3_gives_38 (q := 39) rfl rfl 3 rfl ?_
      refine v_iload_n h (i := 3) dX3_gives_39 (q := 40) rfl rfl 4 rfl ?_
      refine v_callS h (As := [.int use, .int a, .int b]) (rest := []) (c_X3_withoutText (use := use) (a := a) (b := b)) cal_X3_withoutText m408 m407 ⟨rfl, rfl, Nat.le_of_ble_eq_true rfl, Nat.le_of_ble_eq_true rfl⟩ rfl rfl (Nat.le_of_ble_eq_true rfl) dX3_gives_40 (q := 43) rfl (kI ?_)
      refine v_istore h (i := 6) (ls1 := [(6, .int (wtC use a b)), (5, .ref (b_ad w (me + 2))), (0, .ref (b_ad w me)), (1, .int use), (2, .int a), (3, .int b), (4, .int c)]) dX3_gives_43 (q := 45) rfl (Nat.le_of_ble_eq_true rfl) rfl ?_
      refine v_iconst h (v := 0) dX3_gives_45 (q := 46) rfl (by decide) ?_
      refine v_bipush h (v := 99) dX3_gives_46 (q := 48) rfl (by decide) ?_
      refine v_iload h (i := 6) dX3_gives_48 (q := 50) rfl 0 rfl ?_
      refine v_min h m410 m411 m13 m412 ⟨Nat.le_of_ble_eq_true rfl, Nat.le_of_ble_eq_true rfl⟩ dX3_gives_50 (q := 53) rfl ?_
      refine v_max h m413 m386 m13 m387 ⟨Nat.le_of_ble_eq_true rfl, Nat.le_of_ble_eq_true rfl⟩ dX3_gives_53 (q := 56) rfl ?_
      exact v_iret h dX3_gives_56 ⟨_, rfl, by unfold gvS; rw [if_pos c1]; exact gv_neg c19_1 rfl, fun j h1 h2 => rfl⟩

set_option maxHeartbeats 4000000 in
set_option maxRecDepth 100000 in
theorem c_X3_tideIn {w : bw} {σ : bSt} {me tn : Nat} (hs : sLaws w me) (ht : tn < 32) : MV yX3_tideIn cX3_tideIn 2 (some .int) (rmm 0 0) w [.ref (b_ad w me), .int (nI tn)] σ (pI (σ (me + 1) (tn / 8)) σ) := by
  refine b_met (ls := [(0, .ref (b_ad w me)), (1, .int (nI tn))]) (by decide) (Nat.le_of_ble_eq_true rfl) rfl (fun x h => ?_)
  refine v_aload_n h (i := 0) dX3_tideIn_0 (q := 1) rfl rfl 0 rfl ?_
  refine v_get h (k := 1) (v := .ref (b_ad w (me + 1))) cls3 hs.1.1 hs.1.2 (Nat.le_of_ble_eq_true rfl) m59 rfl dX3_tideIn_1 (q := 4) rfl ?_
  refine v_iload_n h (i := 1) dX3_tideIn_4 (q := 5) rfl rfl 1 rfl ?_
  refine v_iconst h (v := 3) dX3_tideIn_5 (q := 6) rfl (by decide) ?_
  refine v_ishr h dX3_tideIn_6 (q := 7) rfl ?_
  refine v_iconst h (v := 3) dX3_tideIn_7 (q := 8) rfl (by decide) ?_
  refine v_iand h dX3_tideIn_8 (q := 9) rfl ?_
  rw [show (((nI tn) >>> (3 &&& 31)) &&& 3 : Int32) = nI (tn / 8) from (tide_ix tn ht)]
  refine v_iald h (k := (tn / 8)) hs.2.1.1 hs.2.1.2 (vp_in_nI (by omega) (by omega)) (nI_clamp (by omega)) dX3_tideIn_9 (q := 10) rfl ?_
  exact v_iret h dX3_tideIn_10 ⟨rfl, rfl⟩

set_option maxHeartbeats 4000000 in
set_option maxRecDepth 100000 in
theorem c_X3_lagBy {w : bw} {σ : bSt} {me vn tn d : Nat} (hs : sLaws w me) (hok0 : okL σ me) (hca : cacheOK σ me) (h1 : 1 ≤ vn) (h2 : vn ≤ 9) (h3 : tn < 32) (h4 : d < 8) : MV yX3_lagBy cX3_lagBy 5 (some .int) (rmm 3 74) w [.ref (b_ad w me), .int (nI d), .int (nI vn), .int (nI tn)] σ (pR (fun r σ' => r = gvS σ me 0 (nI d) (nI vn) (nI tn) ∧ scr me σ σ' ∧ cacheOK σ' me)) := by
  refine b_met (ls := [(0, .ref (b_ad w me)), (1, .int (nI d)), (2, .int (nI vn)), (3, .int (nI tn))]) (by decide) (Nat.le_of_ble_eq_true rfl) rfl (fun x h => ?_)
  refine v_iload_n h (i := 2) dX3_lagBy_0 (q := 1) rfl rfl 2 rfl ?_
  refine v_iconst h (v := 1) dX3_lagBy_1 (q := 2) rfl (by decide) ?_
  refine v_isub h dX3_lagBy_2 (q := 3) rfl ?_
  refine v_bipush h (v := 32) dX3_lagBy_3 (q := 5) rfl (by decide) ?_
  refine v_imul h dX3_lagBy_5 (q := 6) rfl ?_
  refine v_iload_n h (i := 3) dX3_lagBy_6 (q := 7) rfl rfl 3 rfl ?_
  refine v_iadd h dX3_lagBy_7 (q := 8) rfl ?_
  refine v_bipush h (v := 8) dX3_lagBy_8 (q := 10) rfl (by decide) ?_
  refine v_imul h dX3_lagBy_10 (q := 11) rfl ?_
  refine v_iload_n h (i := 1) dX3_lagBy_11 (q := 12) rfl rfl 1 rfl ?_
  refine v_iadd h dX3_lagBy_12 (q := 13) rfl ?_
  rw [show ((((((nI vn) - 1) * 32) + (nI tn)) * 8) + (nI d) : Int32) = nI (((vn - 1) * 32 + tn) * 8 + d) from (lag_ix h1)]
  refine v_istore h (i := 4) (ls1 := [(4, .int (nI (((vn - 1) * 32 + tn) * 8 + d))), (0, .ref (b_ad w me)), (1, .int (nI d)), (2, .int (nI vn)), (3, .int (nI tn))]) dX3_lagBy_13 (q := 15) rfl (Nat.le_of_ble_eq_true rfl) rfl ?_
  refine v_iload h (i := 4) dX3_lagBy_15 (q := 17) rfl 0 rfl ?_
  refine v_if_lt h (t := 30) dX3_lagBy_17 (by decide) (q := 20) rfl (fun c17 => absurd c17 (nI_pos (by omega))) (fun c17 => ?_)
  refine v_iload h (i := 4) dX3_lagBy_20 (q := 22) rfl 0 rfl ?_
  refine v_aload_n h (i := 0) dX3_lagBy_22 (q := 23) rfl rfl 1 rfl ?_
  refine v_get h (k := 4) (v := .ref (b_ad w (me + 8))) cls3 hs.1.1 hs.1.2 (Nat.le_of_ble_eq_true rfl) m63 rfl dX3_lagBy_23 (q := 26) rfl ?_
  refine v_aleni h (v := 2304) hs.2.2.2.2.1 hs.2.2.2.2.2 rfl dX3_lagBy_26 (q := 27) rfl ?_
  refine v_icmp_lt h (t := 39) dX3_lagBy_27 (by decide) (q := 30) rfl (fun c27 => ?_) (fun c27 => absurd (nltl (k := 2304) rfl (by omega) (by decide)) c27)
  refine v_aload_n h (i := 0) dX3_lagBy_39 (q := 40) rfl rfl 1 rfl ?_
  refine v_get h (k := 4) (v := .ref (b_ad w (me + 8))) cls3 hs.1.1 hs.1.2 (Nat.le_of_ble_eq_true rfl) m63 rfl dX3_lagBy_40 (q := 43) rfl ?_
  refine v_iload h (i := 4) dX3_lagBy_43 (q := 45) rfl 0 rfl ?_
  refine v_iald h (k := (((vn - 1) * 32 + tn) * 8 + d)) hs.2.2.2.2.1 hs.2.2.2.2.2 (vp_in_nI (by omega) (by omega)) (nI_clamp (by omega)) dX3_lagBy_45 (q := 46) rfl ?_
  refine v_iconst h (v := -1) dX3_lagBy_46 (q := 47) rfl (by decide) ?_
  refine v_icmp_ne h (t := 65) dX3_lagBy_47 (by decide) (q := 50) rfl (fun c47 => ?_) (fun c47 => ?_)
  · refine v_aload_n h (i := 0) dX3_lagBy_65 (q := 66) rfl rfl 1 rfl ?_
    refine v_get h (k := 4) (v := .ref (b_ad w (me + 8))) cls3 hs.1.1 hs.1.2 (Nat.le_of_ble_eq_true rfl) m63 rfl dX3_lagBy_66 (q := 69) rfl ?_
    refine v_iload h (i := 4) dX3_lagBy_69 (q := 71) rfl 0 rfl ?_
    refine v_iald h (k := (((vn - 1) * 32 + tn) * 8 + d)) hs.2.2.2.2.1 hs.2.2.2.2.2 (vp_in_nI (by omega) (by omega)) (nI_clamp (by omega)) dX3_lagBy_71 (q := 72) rfl ?_
    rw [show (σ (me + 8) ((((vn - 1) * 32 + tn) * 8 + d)) : Int32) = σ (me + 8) (((vn - 1) * 32 + tn) * 8 + d) from (by rfl)]
    exact v_iret h dX3_lagBy_72 ⟨_, rfl, (hca vn tn d h1 h2 h3 h4).resolve_left c47, scr_rfl, hca⟩
  · refine v_aload_n h (i := 0) dX3_lagBy_50 (q := 51) rfl rfl 1 rfl ?_
    refine v_get h (k := 4) (v := .ref (b_ad w (me + 8))) cls3 hs.1.1 hs.1.2 (Nat.le_of_ble_eq_true rfl) m63 rfl dX3_lagBy_51 (q := 54) rfl ?_
    refine v_iload h (i := 4) dX3_lagBy_54 (q := 56) rfl 0 rfl ?_
    refine v_aload_n h (i := 0) dX3_lagBy_56 (q := 57) rfl rfl 1 rfl ?_
    refine v_iconst h (v := 0) dX3_lagBy_57 (q := 58) rfl (by decide) ?_
    refine v_iload_n h (i := 1) dX3_lagBy_58 (q := 59) rfl rfl 2 rfl ?_
    refine v_iload_n h (i := 2) dX3_lagBy_59 (q := 60) rfl rfl 3 rfl ?_
    refine v_iload_n h (i := 3) dX3_lagBy_60 (q := 61) rfl rfl 4 rfl ?_
    refine v_callV h (As := [.int 0, .int (nI d), .int (nI vn), .int (nI tn)]) (rest := [.int (nI (((vn - 1) * 32 + tn) * 8 + d)), .ref (b_ad w (me + 8))]) (c_X3_gives (me := me) (σ := σ) (use := 0) (a := nI d) (b := nI vn) (c := nI tn) hs hok0) cal_X3_gives calV_X3_gives m392 ⟨rfl, rfl, Nat.le_of_ble_eq_true rfl, Nat.le_of_ble_eq_true rfl⟩ rfl hs.1.1 hs.1.2 ⟨_, _, rfl⟩ rfl (Nat.le_of_ble_eq_true rfl) dX3_lagBy_61 (q := 64) rfl (kR (fun r61 σ61 h61 => ?_))
    refine v_iast h (k := (((vn - 1) * 32 + tn) * 8 + d)) hs.2.2.2.2.1 hs.2.2.2.2.2 (vp_in_nI (by omega) (by omega)) (nI_clamp (by omega)) dX3_lagBy_64 (q := 65) rfl ?_
    generalize eσ64 : b_up σ61 (me + 8) ((((vn - 1) * 32 + tn) * 8 + d)) r61 = σ64
    refine v_aload_n h (i := 0) dX3_lagBy_65 (q := 66) rfl rfl 1 rfl ?_
    refine v_get h (k := 4) (v := .ref (b_ad w (me + 8))) cls3 hs.1.1 hs.1.2 (Nat.le_of_ble_eq_true rfl) m63 rfl dX3_lagBy_66 (q := 69) rfl ?_
    refine v_iload h (i := 4) dX3_lagBy_69 (q := 71) rfl 0 rfl ?_
    refine v_iald h (k := (((vn - 1) * 32 + tn) * 8 + d)) hs.2.2.2.2.1 hs.2.2.2.2.2 (vp_in_nI (by omega) (by omega)) (nI_clamp (by omega)) dX3_lagBy_71 (q := 72) rfl ?_
    rw [show (σ64 (me + 8) ((((vn - 1) * 32 + tn) * 8 + d)) : Int32) = r61 from (by rw [← eσ64, b_up_s]; exact if_pos rfl)]
    exact v_iret h dX3_lagBy_72 ⟨_, rfl, h61.1, fun j g1 g2 g3 => by rw [← eσ64, b_up_n g3]; exact h61.2 j g1 g2, cache_put hca (fun j g1 g2 g3 => by rw [← eσ64, b_up_n g3]; exact h61.2 j g1 g2) (by rw [← eσ64, b_up_s, h61.2 (me + 8) (by omega) (by omega)]) h1 h2 h3 h4 h61.1⟩

set_option maxHeartbeats 4000000 in
set_option maxRecDepth 100000 in
theorem c_X3_copy {w : bw} {σ : bSt} {me o : Nat} (hs : sLaws w me) (ht : sLaws w o) (hd : me + 9 ≤ o ∨ o + 9 ≤ me) : MV yX3_copy cX3_copy 2 none (rmm 2 61) w [.ref (b_ad w me), .ref (b_ad w o)] σ (pU (b_set (blk (blk (blk σ me o 2) (me + 2) (o + 2) 2) (me + 5) (o + 5) 2) (me + 8) (fun _ => -1))) := by
  refine b_met (ls := [(0, .ref (b_ad w me)), (1, .ref (b_ad w o))]) (by decide) (Nat.le_of_ble_eq_true rfl) rfl (fun x h => ?_)
  refine v_aload_n h (i := 0) dX3_copy_0 (q := 1) rfl rfl 0 rfl ?_
  refine v_aload_n h (i := 1) dX3_copy_1 (q := 2) rfl rfl 1 rfl ?_
  refine v_get h (k := 0) (v := .int (σ o 0)) cls3 ht.1.1 ht.1.2 (Nat.le_of_ble_eq_true rfl) m56 rfl dX3_copy_2 (q := 5) rfl ?_
  refine v_put h (k := 0) cls3 hs.1.1 hs.1.2 (Nat.le_of_ble_eq_true rfl) rfl m56 rfl ⟨rfl, rfl⟩ dX3_copy_5 (q := 8) rfl ?_
  refine v_aload_n h (i := 1) dX3_copy_8 (q := 9) rfl rfl 1 rfl ?_
  refine v_get h (k := 1) (v := .ref (b_ad w (o + 1))) cls3 ht.1.1 ht.1.2 (Nat.le_of_ble_eq_true rfl) m59 rfl dX3_copy_9 (q := 12) rfl ?_
  refine v_iconst h (v := 0) dX3_copy_12 (q := 13) rfl (by decide) ?_
  refine v_aload_n h (i := 0) dX3_copy_13 (q := 14) rfl rfl 0 rfl ?_
  refine v_get h (k := 1) (v := .ref (b_ad w (me + 1))) cls3 hs.1.1 hs.1.2 (Nat.le_of_ble_eq_true rfl) m59 rfl dX3_copy_14 (q := 17) rfl ?_
  refine v_iconst h (v := 0) dX3_copy_17 (q := 18) rfl (by decide) ?_
  refine v_iconst h (v := 4) dX3_copy_18 (q := 19) rfl (by decide) ?_
  refine v_acopyF h ht.2.1 hs.2.1 m804 m482 m481 m15 rfl rfl (by decide) rfl ⟨Nat.le_of_ble_eq_true rfl, Nat.le_of_ble_eq_true rfl⟩ dX3_copy_19 (q := 22) rfl ?_
  refine v_conv (σ2 := blk σ me o 2) (bEq_o (j0 := me) (fun j hj => by
    by_cases e1 : j = me + 1
    · subst e1
      rw [b_set_s, b_up_n (by omega), blk_at (by omega)]
    · rw [b_set_n e1, b_up_n hj, blk_out (by omega)]) hs.1 (fun k hk hr => by
    rw [rL_n hk hr, b_set_n (by omega), b_up_s, blk_0 (by omega)]
    exact upd_s)) ?_
  refine v_aload_n h (i := 0) dX3_copy_22 (q := 23) rfl rfl 0 rfl ?_
  refine v_get h (k := 2) (v := .ref (b_ad w (me + 2))) cls3 hs.1.1 hs.1.2 (Nat.le_of_ble_eq_true rfl) m61 rfl dX3_copy_23 (q := 26) rfl ?_
  refine v_aload_n h (i := 1) dX3_copy_26 (q := 27) rfl rfl 1 rfl ?_
  refine v_get h (k := 2) (v := .ref (b_ad w (o + 2))) cls3 ht.1.1 ht.1.2 (Nat.le_of_ble_eq_true rfl) m61 rfl dX3_copy_27 (q := 30) rfl ?_
  refine v_callV h (As := [.ref (b_ad w (o + 2))]) (rest := []) (c_X2_copy (me := me + 2) (o := o + 2) (σ := blk σ me o 2) hs.2.2.1 ht.2.2.1 (by omega)) cal_X2_copy calV_X2_copy m536 ⟨rfl, rfl, Nat.le_of_ble_eq_true rfl, Nat.le_of_ble_eq_true rfl⟩ rfl hs.2.2.1.1.1 hs.2.2.1.1.2 ⟨_, _, rfl⟩ rfl (Nat.le_of_ble_eq_true rfl) dX3_copy_30 (q := 33) rfl (kU ?_)
  refine v_aload_n h (i := 0) dX3_copy_33 (q := 34) rfl rfl 0 rfl ?_
  refine v_get h (k := 3) (v := .ref (b_ad w (me + 5))) cls3 hs.1.1 hs.1.2 (Nat.le_of_ble_eq_true rfl) m62 rfl dX3_copy_34 (q := 37) rfl ?_
  refine v_aload_n h (i := 1) dX3_copy_37 (q := 38) rfl rfl 1 rfl ?_
  refine v_get h (k := 3) (v := .ref (b_ad w (o + 5))) cls3 ht.1.1 ht.1.2 (Nat.le_of_ble_eq_true rfl) m62 rfl dX3_copy_38 (q := 41) rfl ?_
  refine v_callV h (As := [.ref (b_ad w (o + 5))]) (rest := []) (c_X2_copy (me := me + 5) (o := o + 5) (σ := blk (blk σ me o 2) (me + 2) (o + 2) 2) hs.2.2.2.1 ht.2.2.2.1 (by omega)) cal_X2_copy calV_X2_copy m536 ⟨rfl, rfl, Nat.le_of_ble_eq_true rfl, Nat.le_of_ble_eq_true rfl⟩ rfl hs.2.2.2.1.1.1 hs.2.2.2.1.1.2 ⟨_, _, rfl⟩ rfl (Nat.le_of_ble_eq_true rfl) dX3_copy_41 (q := 44) rfl (kU ?_)
  refine v_aload_n h (i := 0) dX3_copy_44 (q := 45) rfl rfl 0 rfl ?_
  refine v_get h (k := 4) (v := .ref (b_ad w (me + 8))) cls3 hs.1.1 hs.1.2 (Nat.le_of_ble_eq_true rfl) m63 rfl dX3_copy_45 (q := 48) rfl ?_
  refine v_iconst h (v := -1) dX3_copy_48 (q := 49) rfl (by decide) ?_
  refine v_callS h (As := [.ref (b_ad w (me + 8)), .int (-1)]) (rest := []) (c_J7_fill_53178 (j := me + 8) (n0 := 2304) (v := -1) (σ := blk (blk (blk σ me o 2) (me + 2) (o + 2) 2) (me + 5) (o + 5) 2) hs.2.2.2.2 (by decide)) cal_J7_fill_53178 m54 m53 ⟨rfl, rfl, Nat.le_of_ble_eq_true rfl, Nat.le_of_ble_eq_true rfl⟩ rfl rfl (Nat.le_of_ble_eq_true rfl) dX3_copy_49 (q := 52) rfl (kU ?_)
  exact v_vret h dX3_copy_52 ⟨rfl, rfl⟩
