/-! the model's texts and lags -/
def cdM (c : Int32) : Int32 :=
  if c = -1 then 10000 else if c = -2 then 10001 else if c = -3 then 10002 else if c = -124 then 20000 else if c = -38 then 20001 else if c = -60 then 20002 else if c = -61 then 20003 else if c = -62 then 20004 else
  if c = -43 then 20005 else if c = -45 then 20006 else if c = -42 then 20007 else if c = -47 then 20008 else if c = -37 then 20009 else if c = -33 then 20010 else c
theorem cd_num {v : Nat} (h : v < 10000) : cdM (nI v) = nI v := by
  have k : ∀ m : Int32, m < 0 → ¬ nI v = m := fun m hm e => nI_pos (n := v) (by omega) (e ▸ hm)
  unfold cdM
  rw [if_neg (k _ (by decide)), if_neg (k _ (by decide)), if_neg (k _ (by decide)), if_neg (k _ (by decide)), if_neg (k _ (by decide)), if_neg (k _ (by decide)), if_neg (k _ (by decide)), if_neg (k _ (by decide)), if_neg (k _ (by decide)), if_neg (k _ (by decide)), if_neg (k _ (by decide)), if_neg (k _ (by decide)), if_neg (k _ (by decide)), if_neg (k _ (by decide))]
/-- what a code of the model's is: a number, a name or a sign -/
theorem cd_kinds {s : Int32} (h : okS s) : (∃ v : Nat, v < 10000 ∧ s = nI v ∧ cdM s = nI v) ∨ (∃ j : Nat, j < 3 ∧ s = -1 - nI j ∧ cdM s = nI (10000 + j)) ∨ (s = -33 ∧ cdM s = 20010) ∨ (s < -3 ∧ ¬ s = -33 ∧ (∃ j : Nat, j < 10 ∧ cdM s = nI (20000 + j)) ∧ ∀ x y, doM (cdM s) x y = jnC (-s) x y) := by
  rcases h with ⟨v, hv, e⟩ | e | e | e | e | e | e | e | e | e | e | e | e | e | e
  · exact Or.inl ⟨v, hv, e, by rw [e, cd_num hv]⟩
  · subst e; exact Or.inr (Or.inl ⟨0, by decide, by decide, by decide⟩)
  · subst e; exact Or.inr (Or.inl ⟨1, by decide, by decide, by decide⟩)
  · subst e; exact Or.inr (Or.inl ⟨2, by decide, by decide, by decide⟩)
  · subst e; exact Or.inr (Or.inr (Or.inl ⟨rfl, by decide⟩))
  · subst e; exact Or.inr (Or.inr (Or.inr ⟨by decide, by decide, ⟨9, by decide, by decide⟩, fun x y => rfl⟩))
  · subst e; exact Or.inr (Or.inr (Or.inr ⟨by decide, by decide, ⟨1, by decide, by decide⟩, fun x y => rfl⟩))
  · subst e; exact Or.inr (Or.inr (Or.inr ⟨by decide, by decide, ⟨7, by decide, by decide⟩, fun x y => rfl⟩))
  · subst e; exact Or.inr (Or.inr (Or.inr ⟨by decide, by decide, ⟨5, by decide, by decide⟩, fun x y => rfl⟩))
  · subst e; exact Or.inr (Or.inr (Or.inr ⟨by decide, by decide, ⟨6, by decide, by decide⟩, fun x y => rfl⟩))
  · subst e; exact Or.inr (Or.inr (Or.inr ⟨by decide, by decide, ⟨8, by decide, by decide⟩, fun x y => rfl⟩))
  · subst e; exact Or.inr (Or.inr (Or.inr ⟨by decide, by decide, ⟨2, by decide, by decide⟩, fun x y => rfl⟩))
  · subst e; exact Or.inr (Or.inr (Or.inr ⟨by decide, by decide, ⟨3, by decide, by decide⟩, fun x y => rfl⟩))
  · subst e; exact Or.inr (Or.inr (Or.inr ⟨by decide, by decide, ⟨4, by decide, by decide⟩, fun x y => rfl⟩))
  · subst e; exact Or.inr (Or.inr (Or.inr ⟨by decide, by decide, ⟨0, by decide, by decide⟩, fun x y => rfl⟩))
theorem m3_tab : ∀ j : Nat, j < 3 → ¬ (-1 - nI j) < -3 ∧ ((-1 - nI j) < 0) ∧ ((-1 - nI j = -1) ↔ j = 0) ∧ ((-1 - nI j = -2) ↔ j = 1) := by decide +kernel
theorem cd_op {s : Int32} (h : okS s) (c : (20000 : Int32) ≤ cdM s) : s < -3 := by
  rcases cd_kinds h with ⟨v, hv, e, e2⟩ | ⟨j, hj, e, e2⟩ | ⟨e, _⟩ | ⟨e, _⟩
  · rw [e2] at c; exact absurd ((nI_leI (a := 20000) (by decide) (by omega)).mp c) (by omega)
  · rw [e2] at c; exact absurd ((nI_leI (a := 20000) (by decide) (by omega)).mp c) (by omega)
  · rw [e]; decide
  · exact e
theorem cd_nop {s : Int32} (h : okS s) (c : ¬ (20000 : Int32) ≤ cdM s) : ¬ s < -3 := by
  rcases cd_kinds h with ⟨v, hv, e, e2⟩ | ⟨j, hj, e, e2⟩ | ⟨e, e2⟩ | ⟨e, _, ⟨j, hj, e2⟩, _⟩
  · rw [e, i_lt, nI_toInt (by omega)]
    have : (-3 : Int32).toInt = -3 := rfl
    omega
  · rw [e]; exact (m3_tab j hj).1
  · rw [e2] at c; exact absurd (by decide) c
  · rw [e2] at c; exact absurd ((nI_leI (a := 20000) (by decide) (by omega)).mpr (by omega)) c
theorem cd_nm {s : Int32} (h : okS s) (c : ¬ (20000 : Int32) ≤ cdM s) (c2 : (10000 : Int32) ≤ cdM s) : ∃ j : Nat, j < 3 ∧ cdM s - 10000 = nI j ∧ ∀ a b d : Int32, (if j = 0 then a else if j = 1 then b else d) = pshC a b d s := by
  rcases cd_kinds h with ⟨v, hv, e, e2⟩ | ⟨j, hj, e, e2⟩ | ⟨e, e2⟩ | ⟨e, _, ⟨j, hj, e2⟩, _⟩
  · rw [e2] at c2; exact absurd ((nI_leI (a := 10000) (by decide) (by omega)).mp c2) (by omega)
  · refine ⟨j, hj, by rw [e2, show (10000 : Int32) = nI 10000 from rfl, nI_sub 10000 (by omega), show 10000 + j - 10000 = j by omega], fun a b d => ?_⟩
    have t := m3_tab j hj
    unfold pshC
    rw [e, if_pos t.2.1]
    by_cases z : j = 0
    · rw [if_pos z, if_pos (t.2.2.1.mpr z)]
    · rw [if_neg z, if_neg (fun q => z (t.2.2.1.mp q))]
      by_cases z1 : j = 1
      · rw [if_pos z1, if_pos (t.2.2.2.mpr z1)]
      · rw [if_neg z1, if_neg (fun q => z1 (t.2.2.2.mp q))]
  · rw [e2] at c; exact absurd (by decide) c
  · rw [e2] at c; exact absurd ((nI_leI (a := 20000) (by decide) (by omega)).mpr (by omega)) c
theorem cd_nb {s : Int32} (h : okS s) (c2 : ¬ (10000 : Int32) ≤ cdM s) (a b d : Int32) : cdM s = pshC a b d s := by
  rcases cd_kinds h with ⟨v, hv, e, e2⟩ | ⟨j, hj, e, e2⟩ | ⟨e, e2⟩ | ⟨e, _, ⟨j, hj, e2⟩, _⟩
  · unfold pshC
    rw [e2, e, if_neg (nI_pos (by omega))]
  · rw [e2] at c2; exact absurd ((nI_leI (a := 10000) (by decide) (by omega)).mpr (by omega)) c2
  · rw [e2] at c2; exact absurd (by decide) c2
  · rw [e2] at c2; exact absurd ((nI_leI (a := 10000) (by decide) (by omega)).mpr (by omega)) c2
theorem cd_33 {s : Int32} (h : okS s) (c : (20000 : Int32) ≤ cdM s) : cdM s = 20010 ↔ s = -33 := by
  constructor
  · intro z
    rcases cd_kinds h with ⟨v, hv, e, e2⟩ | ⟨j, hj, e, e2⟩ | ⟨e, e2⟩ | ⟨e, _, ⟨j, hj, e2⟩, _⟩
    · rw [e2] at c; exact absurd ((nI_leI (a := 20000) (by decide) (by omega)).mp c) (by omega)
    · rw [e2] at c; exact absurd ((nI_leI (a := 20000) (by decide) (by omega)).mp c) (by omega)
    · exact e
    · rw [e2] at z; exact absurd (nI_inj (b := 20010) (by omega) (by decide) z) (by omega)
  · intro z
    rw [z]
    decide
theorem cd_bin {s : Int32} (h : okS s) (c : (20000 : Int32) ≤ cdM s) (c3 : ¬ cdM s = 20010) (x y : Int32) : doM (cdM s) x y = jnC (-s) x y := by
  rcases cd_kinds h with ⟨v, hv, e, e2⟩ | ⟨j, hj, e, e2⟩ | ⟨e, e2⟩ | ⟨e, _, _, e3⟩
  · rw [e2] at c; exact absurd ((nI_leI (a := 20000) (by decide) (by omega)).mp c) (by omega)
  · rw [e2] at c; exact absurd ((nI_leI (a := 20000) (by decide) (by omega)).mp c) (by omega)
  · exact absurd e2 c3
  · exact e3 x y
/-- the texts in a row of the model's -/
def MT (row : Nat → Int32) (T : bT) : Prop := ∀ u, u < 2 → row (136 + 52 * u) = nI (T u).1 ∧ okT (T u) ∧ ∀ k, k < (T u).1 → row (137 + 52 * u + k) = cdM ((T u).2 k)
/-- what the model remembers of LAGS -/
def CM (σ : bSt) (T : bT) : Prop := ∀ v d t : Nat, 1 ≤ v → v ≤ 9 → d < 8 → t < 32 → σ 5 ((8 * v + d) * 32 + t) = 0 ∨ σ 5 ((8 * v + d) * 32 + t) = 1 + gvT T 0 (nI d) (nI v) (nI t)
def MW (σ : bSt) (N : bN) (T : bT) : Prop := (∀ k, k < 66 → k ≠ 9 → k ≠ 10 → σ 1 k = N k) ∧ IvN N ∧ MT (σ 1) T ∧ CM σ T
def sM (σ τ : bSt) : Prop := ∀ j, j ≠ 5 → j ≠ 8 → j ≠ 9 → τ j = σ j
theorem sM_rfl {σ : bSt} : sM σ σ := fun _ _ _ _ => rfl
theorem sM.trans {a b c : bSt} (h : sM a b) (k : sM b c) : sM a c := fun j h1 h2 h3 => (k j h1 h2 h3).trans (h j h1 h2 h3)
theorem MW.sc {σ τ : bSt} {N : bN} {T : bT} (h : MW σ N T) (s : sM σ τ) (c : CM τ T) : MW τ N T := by
  obtain ⟨h1, h2, h3, h4⟩ := h
  have e := s 1 (by decide) (by decide) (by decide)
  exact ⟨by rw [e]; exact h1, h2, by rw [e]; exact h3, c⟩
section MWS
variable {σ : bSt} {N : bN} {T : bT}
theorem MW.n (h : MW σ N T) {k : Nat} (hk : k < 66 ∧ k ≠ 9 ∧ k ≠ 10) : σ 1 k = N k := h.1 k hk.1 hk.2.1 hk.2.2
theorem MW.bt (h : MW σ N T) : σ 1 0 = nI (N 0).toNatClampNeg ∧ (N 0).toNatClampNeg < 20000 := by
  obtain ⟨t, ht, e⟩ := h.2.1.1
  rw [h.n (by omega), e, nI_clamp (by omega)]
  exact ⟨rfl, ht⟩
theorem MW.af (h : MW σ N T) : σ 1 7 = nI (afN N) ∧ afN N ≤ 9 := by
  rw [h.n (by omega)]
  exact h.2.1.af
theorem MW.li (h : MW σ N T) : σ 1 8 = nI (liN N) ∧ liN N ≤ 6 := by
  rw [h.n (by omega)]
  exact h.2.1.li
theorem MW.b (h : MW σ N T) {b f : Nat} (hb : b < 9) (hf : f < 4) : σ 1 (12 + f + 4 * b) = N (12 + f + 4 * b) := h.n (by omega)
end MWS
theorem gvT_u {T : bT} {u : Nat} (hu : u < 2) {a b c : Int32} : gvT T (nI u) a b c = clmp (if 0 < (T u).1 then evC (T u).2 (T u).1 a b c else wtC (nI u) a b) := by
  rcases (show u = 0 ∨ u = 1 by omega) with rfl | rfl
  · unfold gvT
    rw [if_pos (show nI 0 = 0 from rfl)]
  · unfold gvT
    rw [if_neg (show ¬ nI 1 = 0 by decide)]
theorem tgR_ext {lagf : Nat → Int32} {heard : Int32} {b : Nat} (h : ∀ d, b ≤ d → d < 9 → ushr heard (nI d) &&& 1 = 0) : ∀ k, b + k ≤ 9 → tgR lagf heard (b + k) = tgR lagf heard b
  | 0, _ => rfl
  | k + 1, hk => by
    show tgR lagf heard ((b + k) + 1) = _
    rw [tgR, tgR_ext h k (by omega)]
    cases tgR lagf heard b with
    | none => rfl
    | some x => exact if_pos (h (b + k) (by omega) (by omega))
theorem bit01 (x : Int32) (b : Nat) (hb : b < 32) : ushr x (nI b) &&& 1 = 0 ∨ ushr x (nI b) &&& 1 = 1 := by
  by_cases c : x.toBitVec.getLsbD b = true
  · right
    apply i32_ext
    intro i hi
    rw [Int32.toBitVec_and, BitVec.getLsbD_and, bv_ushr x hb, BitVec.getLsbD_ushiftRight, bx_one i hi]
    by_cases e : i = 0
    · subst e; rw [Nat.add_zero, c]; rfl
    · rw [decide_eq_false e, Bool.and_false]
  · left
    exact bx_of hb (by rw [Bool.not_eq_true] at c; exact c)
/-- only boats are heard -/
def hdN (N : bN) (heard : Int32) : Prop := ∀ d, ¬ d < afN N → d < 9 → ushr heard (nI d) &&& 1 = 0
theorem sng_hd {N : bN} : hdN N (sngN N 9) := fun d h hd => bx_of (by omega) (by
  rw [sng_sk (N := N) (t := tN N) rfl (fun _ _ => rfl) rfl 9 (Nat.le_refl 9), sk_bit 9 (Nat.le_refl 9) d (by omega), decide_eq_false (fun z => h z.2.1)])
theorem sng_stop {N : bN} {b : Nat} (h : ¬ b < afN N) : ∀ k, sngN N (b + k) = sngN N b
  | 0 => rfl
  | k + 1 => by
    show sngN N ((b + k) + 1) = _
    rw [sngN, if_neg (fun z => by omega), sng_stop h k]
theorem ntog1 {g : bG} {N : bN} {y heard : Int32} (h : bcJ heard ≤ 1) : ¬ togN g N y heard = true := by
  unfold togN tgB
  rw [Bool.and_eq_true, decide_eq_true_eq]
  intro z
  have h1 := z.1
  rw [i_le] at h h1
  have a : (1 : Int32).toInt = 1 := rfl
  have b : (2 : Int32).toInt = 2 := rfl
  omega
theorem ntog2 {g : bG} {N : bN} {y heard : Int32} {b : Nat} (hb : b ≤ 9) (h : tgR (lgN g N y) heard b = none) : ¬ togN g N y heard = true := by
  unfold togN tgB
  rw [Bool.and_eq_true]
  intro z
  have h1 := tgR_none h (9 - b)
  rw [show b + (9 - b) = 9 by omega] at h1
  rw [h1] at z
  exact absurd z.2 (by decide)
theorem tog_end {g : bG} {N : bN} {y heard f : Int32} {b : Nat} (hb : b ≤ 9) (hh : hdN N heard) (ha : ¬ b < afN N) (h1 : ¬ bcJ heard ≤ 1) (h : tgR (lgN g N y) heard b = some f) : togN g N y heard = true := by
  unfold togN tgB
  have h2 := tgR_ext (lagf := lgN g N y) (heard := heard) (b := b) (fun d hd hd2 => hh d (by omega) hd2) (9 - b) (by omega)
  rw [show b + (9 - b) = 9 by omega] at h2
  rw [h2, h, Bool.and_eq_true, decide_eq_true_eq]
  refine ⟨?_, rfl⟩
  rw [i_le] at h1 ⊢
  have a : (1 : Int32).toInt = 1 := rfl
  have b : (2 : Int32).toInt = 2 := rfl
  omega

set_option maxHeartbeats 4000000 in
set_option maxRecDepth 100000 in
theorem lX10_worked_4 {w : bw} {σ : bSt} {F L : Nat} {g : Nat → Int32} {a b c : Int32} (hm : sModel w) (hF1 : 137 ≤ F) (hF2 : F ≤ 189) (hL : σ 1 (F - 1) = nI L) (hok : okT (L, g)) (hpos : 0 < L) (hcd : ∀ k, k < L → σ 1 (F + k) = cdM (g k)) (hnm : ∀ j, j < 3 → σ 8 j = if j = 0 then a else if j = 1 then b else c) {x : bX} (h : Cx x w cX10_worked RX10 5 (some .int) (rmm 1 22)) : ∀ n i : Nat, i + n = L → ∀ (k : Nat) (τ : bSt), k = dptC g i → (∀ j, j ≠ 9 → τ j = σ j) → (∀ j, j < k → τ 9 j = (runC g a b c i).2 j) → V x w 5 (pR (fun r σ' => r = evC g L a b c ∧ ∀ j, j ≠ 9 → σ' j = σ j)) 4 [(3, .int (nI (F + i))), (2, .int (nI k)), (0, .ref (b_ad w 0)), (1, .int (nI F))] [] τ := by
  refine b_ind (fun n ih => ?_)
  intro i hin k τ hk ho hf
  have h50 := hok.1.1
  dsimp only at h50
  refine v_iload_n h (i := 3) dX10_worked_4 (q := 5) rfl rfl 0 rfl ?_
  refine v_iload_n h (i := 1) dX10_worked_5 (q := 6) rfl rfl 3 rfl ?_
  refine v_aload_n h (i := 0) dX10_worked_6 (q := 7) rfl rfl 2 rfl ?_
  refine v_get h (k := 0) (v := .ref (b_ad w 1)) cls10 hm.1.1 hm.1.2 (Nat.le_of_ble_eq_true rfl) m849 rfl dX10_worked_7 (q := 10) rfl ?_
  refine v_iload_n h (i := 1) dX10_worked_10 (q := 11) rfl rfl 3 rfl ?_
  refine v_iconst h (v := 1) dX10_worked_11 (q := 12) rfl (by decide) ?_
  refine v_isub h dX10_worked_12 (q := 13) rfl ?_
  rw [show ((nI F) - 1 : Int32) = nI (F - 1) from (nI_sub 1 (by omega))]
  refine v_iald h (k := (F - 1)) hm.2.1.1 hm.2.1.2 (vp_in_nI (by omega) (by decide)) (nI_clamp (by omega)) dX10_worked_13 (q := 14) rfl ?_
  rw [show (τ 1 ((F - 1)) : Int32) = nI L from (by rw [ho 1 (by decide)]; exact hL)]
  refine v_iadd h dX10_worked_14 (q := 15) rfl ?_
  rw [show ((nI F) + (nI L) : Int32) = nI (F + L) from (nI_add F L)]
  refine v_icmp_ge h (t := 141) dX10_worked_15 (by decide) (q := 18) rfl (fun c15 => ?_) (fun c15 => ?_)
  · have hi : L ≤ i := by
      have := (nI_leI (a := F + L) (b := F + i) (by omega) (by omega)).mp c15
      omega
    have hil : i = L := by omega
    subst hil
    have hk1 := hok.1.2.1 hpos
    dsimp only at hk1
    refine v_aload_n h (i := 0) dX10_worked_141 (q := 142) rfl rfl 2 rfl ?_
    refine v_get h (k := 14) (v := .ref (b_ad w 9)) cls10 hm.1.1 hm.1.2 (Nat.le_of_ble_eq_true rfl) m863 rfl dX10_worked_142 (q := 145) rfl ?_
    refine v_iconst h (v := 0) dX10_worked_145 (q := 146) rfl (by decide) ?_
    refine v_iald h (k := 0) hm.2.2.2.2.2.2.2.2.2.1.1 hm.2.2.2.2.2.2.2.2.2.1.2 (vp_in_nI (n := 0) (by decide) (by decide)) (by decide) dX10_worked_146 (q := 147) rfl ?_
    exact v_iret h dX10_worked_147 ⟨_, rfl, hf 0 (by omega), ho⟩
  · have hi : i < L := by
      apply Classical.byContradiction
      intro z
      exact c15 (nI_le (by omega) (by omega))
    have hki : k ≤ i := hk ▸ dptC_le _ _
    have hok1 : okS (g i) := hok.2 i hi
    have hnd := hok.1.2.2 i hi
    dsimp only at hnd
    rw [← hk] at hnd
    refine v_aload_n h (i := 0) dX10_worked_18 (q := 19) rfl rfl 2 rfl ?_
    refine v_get h (k := 0) (v := .ref (b_ad w 1)) cls10 hm.1.1 hm.1.2 (Nat.le_of_ble_eq_true rfl) m849 rfl dX10_worked_19 (q := 22) rfl ?_
    refine v_iload_n h (i := 3) dX10_worked_22 (q := 23) rfl rfl 0 rfl ?_
    refine v_iald h (k := (F + i)) hm.2.1.1 hm.2.1.2 (vp_in_nI (by omega) (by decide)) (nI_clamp (by omega)) dX10_worked_23 (q := 24) rfl ?_
    rw [show (τ 1 ((F + i)) : Int32) = cdM (g i) from (by rw [ho 1 (by decide)]; exact hcd i hi)]
    refine v_istore h (i := 4) (ls1 := [(4, .int (cdM (g i))), (3, .int (nI (F + i))), (2, .int (nI k)), (0, .ref (b_ad w 0)), (1, .int (nI F))]) dX10_worked_24 (q := 26) rfl (Nat.le_of_ble_eq_true rfl) rfl ?_
    refine v_iload h (i := 4) dX10_worked_26 (q := 28) rfl 0 rfl ?_
    refine v_sipush h (v := 20000) dX10_worked_28 (q := 31) rfl (by decide) ?_
    refine v_icmp_ge h (t := 70) dX10_worked_31 (by decide) (q := 34) rfl (fun c31 => ?_) (fun c31 => ?_)
    · have hs3 := cd_op hok1 c31
      have hnd1 := hnd hs3
      refine v_iload h (i := 4) dX10_worked_70 (q := 72) rfl 0 rfl ?_
      refine v_sipush h (v := 20010) dX10_worked_72 (q := 75) rfl (by decide) ?_
      refine v_icmp_ne h (t := 105) dX10_worked_75 (by decide) (q := 78) rfl (fun c75 => ?_) (fun c75 => ?_)
      · have h33 : ¬ g i = -33 := fun z => c75 ((cd_33 hok1 c31).mpr z)
        rw [if_neg h33] at hnd1
        refine v_iinc h (p := 2) (u := nI (k - 1)) (ls1 := [(2, .int (nI (k - 1))), (4, .int (cdM (g i))), (3, .int (nI (F + i))), (0, .ref (b_ad w 0)), (1, .int (nI F))]) dX10_worked_105 (q := 108) rfl rfl (nI_m1 (by omega)) (Nat.le_of_ble_eq_true rfl) rfl ?_
        refine v_aload_n h (i := 0) dX10_worked_108 (q := 109) rfl rfl 3 rfl ?_
        refine v_get h (k := 14) (v := .ref (b_ad w 9)) cls10 hm.1.1 hm.1.2 (Nat.le_of_ble_eq_true rfl) m863 rfl dX10_worked_109 (q := 112) rfl ?_
        refine v_iload_n h (i := 2) dX10_worked_112 (q := 113) rfl rfl 0 rfl ?_
        refine v_iconst h (v := 1) dX10_worked_113 (q := 114) rfl (by decide) ?_
        refine v_isub h dX10_worked_114 (q := 115) rfl ?_
        rw [show ((nI (k - 1)) - 1 : Int32) = nI (k - 2) from (nI_sub 1 (by omega))]
        refine v_iload h (i := 4) dX10_worked_115 (q := 117) rfl 1 rfl ?_
        refine v_aload_n h (i := 0) dX10_worked_117 (q := 118) rfl rfl 3 rfl ?_
        refine v_get h (k := 14) (v := .ref (b_ad w 9)) cls10 hm.1.1 hm.1.2 (Nat.le_of_ble_eq_true rfl) m863 rfl dX10_worked_118 (q := 121) rfl ?_
        refine v_iload_n h (i := 2) dX10_worked_121 (q := 122) rfl rfl 0 rfl ?_
        refine v_iconst h (v := 1) dX10_worked_122 (q := 123) rfl (by decide) ?_
        refine v_isub h dX10_worked_123 (q := 124) rfl ?_
        rw [show ((nI (k - 1)) - 1 : Int32) = nI (k - 2) from (nI_sub 1 (by omega))]
        refine v_iald h (k := (k - 2)) hm.2.2.2.2.2.2.2.2.2.1.1 hm.2.2.2.2.2.2.2.2.2.1.2 (vp_in_nI (by omega) (by decide)) (nI_clamp (by omega)) dX10_worked_124 (q := 125) rfl ?_
        refine v_aload_n h (i := 0) dX10_worked_125 (q := 126) rfl rfl 3 rfl ?_
        refine v_get h (k := 14) (v := .ref (b_ad w 9)) cls10 hm.1.1 hm.1.2 (Nat.le_of_ble_eq_true rfl) m863 rfl dX10_worked_126 (q := 129) rfl ?_
        refine v_iload_n h (i := 2) dX10_worked_129 (q := 130) rfl rfl 0 rfl ?_
        refine v_iald h (k := (k - 1)) hm.2.2.2.2.2.2.2.2.2.1.1 hm.2.2.2.2.2.2.2.2.2.1.2 (vp_in_nI (by omega) (by decide)) (nI_clamp (by omega)) dX10_worked_130 (q := 131) rfl ?_
        refine v_callS h (As := [.int (cdM (g i)), .int (τ 9 ((k - 2))), .int (τ 9 ((k - 1)))]) (rest := [.int (nI (k - 2)), .ref (b_ad w 9)]) (c_X10_done (op := cdM (g i)) (a := τ 9 ((k - 2))) (b := τ 9 ((k - 1)))) cal_X10_done m1015 m1014 ⟨rfl, rfl, Nat.le_of_ble_eq_true rfl, Nat.le_of_ble_eq_true rfl⟩ rfl rfl (Nat.le_of_ble_eq_true rfl) dX10_worked_131 (q := 134) rfl (kI ?_)
        rw [show (doM (cdM (g i)) (τ 9 ((k - 2))) (τ 9 ((k - 1))) : Int32) = jnC (-(g i)) (τ 9 (k - 2)) (τ 9 (k - 1)) from (cd_bin hok1 c31 c75 _ _)]
        refine v_iast h (k := (k - 2)) hm.2.2.2.2.2.2.2.2.2.1.1 hm.2.2.2.2.2.2.2.2.2.1.2 (vp_in_nI (by omega) (by decide)) (nI_clamp (by omega)) dX10_worked_134 (q := 135) rfl ?_
        generalize eσ134 : b_up τ 9 ((k - 2)) (jnC (-(g i)) (τ 9 (k - 2)) (τ 9 (k - 1))) = σ134
        refine v_iinc h (p := 2) (u := nI (F + (i + 1))) (ls1 := [(3, .int (nI (F + (i + 1)))), (2, .int (nI (k - 1))), (4, .int (cdM (g i))), (0, .ref (b_ad w 0)), (1, .int (nI F))]) dX10_worked_135 (q := 138) rfl rfl (nI_1 (F + i)) (Nat.le_of_ble_eq_true rfl) rfl ?_
        refine v_goto h (t := 4) dX10_worked_138 (by decide) ?_
        refine v_ls [0, 1, 3, 4] (ls2 := [(3, .int (nI (F + (i + 1)))), (2, .int (nI (k - 1))), (0, .ref (b_ad w 0)), (1, .int (nI F))]) rfl ?_
        have hw := wr_bin (a := a) (b := b) (c := c) (v := (jnC (-(g i)) (τ 9 (k - 2)) (τ 9 (k - 1)))) hk hs3 h33 (by omega) rfl hf
        exact ih (n - 1) (by omega) (i + 1) (by omega) (k - 1) σ134 hw.1 (fun j hj => by rw [← eσ134, b_up_n hj]; exact ho j hj) (fun j hj => by rw [← eσ134, b_up_s]; exact hw.2 j hj)
      · have h33 := (cd_33 hok1 c31).mp c75
        rw [if_pos h33] at hnd1
        refine v_aload_n h (i := 0) dX10_worked_78 (q := 79) rfl rfl 3 rfl ?_
        refine v_get h (k := 14) (v := .ref (b_ad w 9)) cls10 hm.1.1 hm.1.2 (Nat.le_of_ble_eq_true rfl) m863 rfl dX10_worked_79 (q := 82) rfl ?_
        refine v_iload_n h (i := 2) dX10_worked_82 (q := 83) rfl rfl 2 rfl ?_
        refine v_iconst h (v := 1) dX10_worked_83 (q := 84) rfl (by decide) ?_
        refine v_isub h dX10_worked_84 (q := 85) rfl ?_
        rw [show ((nI k) - 1 : Int32) = nI (k - 1) from (nI_sub 1 (by omega))]
        refine v_aload_n h (i := 0) dX10_worked_85 (q := 86) rfl rfl 3 rfl ?_
        refine v_get h (k := 14) (v := .ref (b_ad w 9)) cls10 hm.1.1 hm.1.2 (Nat.le_of_ble_eq_true rfl) m863 rfl dX10_worked_86 (q := 89) rfl ?_
        refine v_iload_n h (i := 2) dX10_worked_89 (q := 90) rfl rfl 2 rfl ?_
        refine v_iconst h (v := 1) dX10_worked_90 (q := 91) rfl (by decide) ?_
        refine v_isub h dX10_worked_91 (q := 92) rfl ?_
        rw [show ((nI k) - 1 : Int32) = nI (k - 1) from (nI_sub 1 (by omega))]
        refine v_iald h (k := (k - 1)) hm.2.2.2.2.2.2.2.2.2.1.1 hm.2.2.2.2.2.2.2.2.2.1.2 (vp_in_nI (by omega) (by decide)) (nI_clamp (by omega)) dX10_worked_92 (q := 93) rfl ?_
        refine v_if_ne h (t := 100) dX10_worked_93 (by decide) (q := 96) rfl (fun c93 => ?_) (fun c93 => ?_)
        · refine v_iconst h (v := 0) dX10_worked_100 (q := 101) rfl (by decide) ?_
          refine v_iast h (k := (k - 1)) hm.2.2.2.2.2.2.2.2.2.1.1 hm.2.2.2.2.2.2.2.2.2.1.2 (vp_in_nI (by omega) (by decide)) (nI_clamp (by omega)) dX10_worked_101 (q := 102) rfl ?_
          generalize eσ101 : b_up τ 9 ((k - 1)) 0 = σ101
          refine v_goto h (t := 135) dX10_worked_102 (by decide) ?_
          refine v_iinc h (p := 1) (u := nI (F + (i + 1))) (ls1 := [(3, .int (nI (F + (i + 1)))), (4, .int (cdM (g i))), (2, .int (nI k)), (0, .ref (b_ad w 0)), (1, .int (nI F))]) dX10_worked_135 (q := 138) rfl rfl (nI_1 (F + i)) (Nat.le_of_ble_eq_true rfl) rfl ?_
          refine v_goto h (t := 4) dX10_worked_138 (by decide) ?_
          refine v_ls [0, 2, 3, 4] (ls2 := [(3, .int (nI (F + (i + 1)))), (2, .int (nI k)), (0, .ref (b_ad w 0)), (1, .int (nI F))]) rfl ?_
          have hw := wr_not (a := a) (b := b) (c := c) (v := 0) hk hs3 h33 (by omega) (by first | rw [if_pos c93] | rw [if_neg c93]) hf
          exact ih (n - 1) (by omega) (i + 1) (by omega) k σ101 hw.1 (fun j hj => by rw [← eσ101, b_up_n hj]; exact ho j hj) (fun j hj => by rw [← eσ101, b_up_s]; exact hw.2 j hj)
        · refine v_iconst h (v := 1) dX10_worked_96 (q := 97) rfl (by decide) ?_
          refine v_goto h (t := 101) dX10_worked_97 (by decide) ?_
          refine v_iast h (k := (k - 1)) hm.2.2.2.2.2.2.2.2.2.1.1 hm.2.2.2.2.2.2.2.2.2.1.2 (vp_in_nI (by omega) (by decide)) (nI_clamp (by omega)) dX10_worked_101 (q := 102) rfl ?_
          generalize eσ101_1 : b_up τ 9 ((k - 1)) 1 = σ101_1
          refine v_goto h (t := 135) dX10_worked_102 (by decide) ?_
          refine v_iinc h (p := 1) (u := nI (F + (i + 1))) (ls1 := [(3, .int (nI (F + (i + 1)))), (4, .int (cdM (g i))), (2, .int (nI k)), (0, .ref (b_ad w 0)), (1, .int (nI F))]) dX10_worked_135 (q := 138) rfl rfl (nI_1 (F + i)) (Nat.le_of_ble_eq_true rfl) rfl ?_
          refine v_goto h (t := 4) dX10_worked_138 (by decide) ?_
          refine v_ls [0, 2, 3, 4] (ls2 := [(3, .int (nI (F + (i + 1)))), (2, .int (nI k)), (0, .ref (b_ad w 0)), (1, .int (nI F))]) rfl ?_
          have hw := wr_not (a := a) (b := b) (c := c) (v := 1) hk hs3 h33 (by omega) (by first | rw [if_pos c93] | rw [if_neg c93]) hf
          exact ih (n - 1) (by omega) (i + 1) (by omega) k σ101_1 hw.1 (fun j hj => by rw [← eσ101_1, b_up_n hj]; exact ho j hj) (fun j hj => by rw [← eσ101_1, b_up_s]; exact hw.2 j hj)
    · have hs3 := cd_nop hok1 c31
      refine v_aload_n h (i := 0) dX10_worked_34 (q := 35) rfl rfl 3 rfl ?_
      refine v_get h (k := 14) (v := .ref (b_ad w 9)) cls10 hm.1.1 hm.1.2 (Nat.le_of_ble_eq_true rfl) m863 rfl dX10_worked_35 (q := 38) rfl ?_
      refine v_iload_n h (i := 2) dX10_worked_38 (q := 39) rfl rfl 2 rfl ?_
      refine v_iload h (i := 4) dX10_worked_39 (q := 41) rfl 0 rfl ?_
      refine v_sipush h (v := 10000) dX10_worked_41 (q := 44) rfl (by decide) ?_
      refine v_icmp_ge h (t := 52) dX10_worked_44 (by decide) (q := 47) rfl (fun c44 => ?_) (fun c44 => ?_)
      · obtain ⟨j0, hj0, ej, evj⟩ := cd_nm hok1 c31 c44
        refine v_aload_n h (i := 0) dX10_worked_52 (q := 53) rfl rfl 3 rfl ?_
        refine v_get h (k := 13) (v := .ref (b_ad w 8)) cls10 hm.1.1 hm.1.2 (Nat.le_of_ble_eq_true rfl) m862 rfl dX10_worked_53 (q := 56) rfl ?_
        refine v_iload h (i := 4) dX10_worked_56 (q := 58) rfl 0 rfl ?_
        refine v_sipush h (v := 10000) dX10_worked_58 (q := 61) rfl (by decide) ?_
        refine v_isub h dX10_worked_61 (q := 62) rfl ?_
        rw [show ((cdM (g i)) - 10000 : Int32) = nI j0 from ej]
        refine v_iald h (k := j0) hm.2.2.2.2.2.2.2.2.1.1 hm.2.2.2.2.2.2.2.2.1.2 (vp_in_nI (by omega) (by decide)) (nI_clamp (by omega)) dX10_worked_62 (q := 63) rfl ?_
        rw [show (τ 8 j0 : Int32) = pshC a b c (g i) from (by rw [ho 8 (by decide)]; exact (hnm j0 hj0).trans (evj a b c))]
        refine v_iast h (k := k) hm.2.2.2.2.2.2.2.2.2.1.1 hm.2.2.2.2.2.2.2.2.2.1.2 (vp_in_nI (by omega) (by decide)) (nI_clamp (by omega)) dX10_worked_63 (q := 64) rfl ?_
        generalize eσ63 : b_up τ 9 k (pshC a b c (g i)) = σ63
        refine v_iinc h (p := 2) (u := nI (k + 1)) (ls1 := [(2, .int (nI (k + 1))), (4, .int (cdM (g i))), (3, .int (nI (F + i))), (0, .ref (b_ad w 0)), (1, .int (nI F))]) dX10_worked_64 (q := 67) rfl rfl (nI_1 k) (Nat.le_of_ble_eq_true rfl) rfl ?_
        refine v_goto h (t := 135) dX10_worked_67 (by decide) ?_
        refine v_iinc h (p := 2) (u := nI (F + (i + 1))) (ls1 := [(3, .int (nI (F + (i + 1)))), (2, .int (nI (k + 1))), (4, .int (cdM (g i))), (0, .ref (b_ad w 0)), (1, .int (nI F))]) dX10_worked_135 (q := 138) rfl rfl (nI_1 (F + i)) (Nat.le_of_ble_eq_true rfl) rfl ?_
        refine v_goto h (t := 4) dX10_worked_138 (by decide) ?_
        refine v_ls [0, 1, 3, 4] (ls2 := [(3, .int (nI (F + (i + 1)))), (2, .int (nI (k + 1))), (0, .ref (b_ad w 0)), (1, .int (nI F))]) rfl ?_
        have hw := wr_push (a := a) (b := b) (c := c) (v := (pshC a b c (g i))) hk hs3 (by first | rfl | exact cd_nb hok1 c44 a b c) hf
        exact ih (n - 1) (by omega) (i + 1) (by omega) (k + 1) σ63 hw.1 (fun j hj => by rw [← eσ63, b_up_n hj]; exact ho j hj) (fun j hj => by rw [← eσ63, b_up_s]; exact hw.2 j hj)
      · refine v_iload h (i := 4) dX10_worked_47 (q := 49) rfl 0 rfl ?_
        refine v_goto h (t := 63) dX10_worked_49 (by decide) ?_
        refine v_iast h (k := k) hm.2.2.2.2.2.2.2.2.2.1.1 hm.2.2.2.2.2.2.2.2.2.1.2 (vp_in_nI (by omega) (by decide)) (nI_clamp (by omega)) dX10_worked_63 (q := 64) rfl ?_
        generalize eσ63_1 : b_up τ 9 k (cdM (g i)) = σ63_1
        refine v_iinc h (p := 2) (u := nI (k + 1)) (ls1 := [(2, .int (nI (k + 1))), (4, .int (cdM (g i))), (3, .int (nI (F + i))), (0, .ref (b_ad w 0)), (1, .int (nI F))]) dX10_worked_64 (q := 67) rfl rfl (nI_1 k) (Nat.le_of_ble_eq_true rfl) rfl ?_
        refine v_goto h (t := 135) dX10_worked_67 (by decide) ?_
        refine v_iinc h (p := 2) (u := nI (F + (i + 1))) (ls1 := [(3, .int (nI (F + (i + 1)))), (2, .int (nI (k + 1))), (4, .int (cdM (g i))), (0, .ref (b_ad w 0)), (1, .int (nI F))]) dX10_worked_135 (q := 138) rfl rfl (nI_1 (F + i)) (Nat.le_of_ble_eq_true rfl) rfl ?_
        refine v_goto h (t := 4) dX10_worked_138 (by decide) ?_
        refine v_ls [0, 1, 3, 4] (ls2 := [(3, .int (nI (F + (i + 1)))), (2, .int (nI (k + 1))), (0, .ref (b_ad w 0)), (1, .int (nI F))]) rfl ?_
        have hw := wr_push (a := a) (b := b) (c := c) (v := (cdM (g i))) hk hs3 (by first | rfl | exact cd_nb hok1 c44 a b c) hf
        exact ih (n - 1) (by omega) (i + 1) (by omega) (k + 1) σ63_1 hw.1 (fun j hj => by rw [← eσ63_1, b_up_n hj]; exact ho j hj) (fun j hj => by rw [← eσ63_1, b_up_s]; exact hw.2 j hj)
set_option maxHeartbeats 4000000 in
set_option maxRecDepth 100000 in
theorem c_X10_worked {w : bw} {σ : bSt} {F L : Nat} {g : Nat → Int32} {a b c : Int32} (hm : sModel w) (hF1 : 137 ≤ F) (hF2 : F ≤ 189) (hL : σ 1 (F - 1) = nI L) (hok : okT (L, g)) (hpos : 0 < L) (hcd : ∀ k, k < L → σ 1 (F + k) = cdM (g k)) (hnm : ∀ j, j < 3 → σ 8 j = if j = 0 then a else if j = 1 then b else c) : MV yX10_worked cX10_worked 5 (some .int) (rmm 1 22) w [.ref (b_ad w 0), .int (nI F)] σ (pR (fun r σ' => r = evC g L a b c ∧ ∀ j, j ≠ 9 → σ' j = σ j)) := by
  refine b_met (ls := [(0, .ref (b_ad w 0)), (1, .int (nI F))]) (by decide) (Nat.le_of_ble_eq_true rfl) rfl (fun x h => ?_)
  refine v_iconst h (v := 0) dX10_worked_0 (q := 1) rfl (by decide) ?_
  refine v_istore_n h (i := 2) (ls1 := [(2, .int 0), (0, .ref (b_ad w 0)), (1, .int (nI F))]) dX10_worked_1 (q := 2) rfl rfl (Nat.le_of_ble_eq_true rfl) rfl ?_
  refine v_iload_n h (i := 1) dX10_worked_2 (q := 3) rfl rfl 2 rfl ?_
  refine v_istore_n h (i := 3) (ls1 := [(3, .int (nI F)), (2, .int 0), (0, .ref (b_ad w 0)), (1, .int (nI F))]) dX10_worked_3 (q := 4) rfl rfl (Nat.le_of_ble_eq_true rfl) rfl ?_
  exact lX10_worked_4 hm hF1 hF2 hL hok hpos hcd hnm h L 0 (by omega) 0 σ rfl (fun _ _ => rfl) (fun j hj => absurd hj (Nat.not_lt_zero j))

set_option maxHeartbeats 4000000 in
set_option maxRecDepth 100000 in
theorem c_X10_hasText {w : bw} {σ : bSt} {u : Nat} (hm : sModel w) (hu : u < 2) : MV yX10_hasText cX10_hasText 2 (some .boolean) (rmm 0 0) w [.ref (b_ad w 0), .int (nI u)] σ (pB (0 < σ 1 (136 + 52 * u)) σ) := by
  refine b_met (ls := [(0, .ref (b_ad w 0)), (1, .int (nI u))]) (by decide) (Nat.le_of_ble_eq_true rfl) rfl (fun x h => ?_)
  refine v_aload_n h (i := 0) dX10_hasText_0 (q := 1) rfl rfl 0 rfl ?_
  refine v_get h (k := 0) (v := .ref (b_ad w 1)) cls10 hm.1.1 hm.1.2 (Nat.le_of_ble_eq_true rfl) m849 rfl dX10_hasText_1 (q := 4) rfl ?_
  refine v_sipush h (v := 136) dX10_hasText_4 (q := 7) rfl (by decide) ?_
  refine v_bipush h (v := 52) dX10_hasText_7 (q := 9) rfl (by decide) ?_
  refine v_iload_n h (i := 1) dX10_hasText_9 (q := 10) rfl rfl 1 rfl ?_
  refine v_imul h dX10_hasText_10 (q := 11) rfl ?_
  rw [show (52 * (nI u) : Int32) = nI (52 * u) from (nI_mulN 52 u)]
  refine v_iadd h dX10_hasText_11 (q := 12) rfl ?_
  rw [show (136 + (nI (52 * u)) : Int32) = nI (136 + 52 * u) from (nI_add 136 _)]
  refine v_iald h (k := (136 + 52 * u)) hm.2.1.1 hm.2.1.2 (vp_in_nI (by omega) (by decide)) (nI_clamp (by omega)) dX10_hasText_12 (q := 13) rfl ?_
  refine v_if_le h (t := 20) dX10_hasText_13 (by decide) (q := 16) rfl (fun c13 => ?_) (fun c13 => ?_)
  · refine v_iconst h (v := 0) dX10_hasText_20 (q := 21) rfl (by decide) ?_
    exact v_zret h rfl dX10_hasText_21 (pB0 (fun z => absurd (by assumption) (Int32.not_le.mpr z)))
  · refine v_iconst h (v := 1) dX10_hasText_16 (q := 17) rfl (by decide) ?_
    refine v_goto h (t := 21) dX10_hasText_17 (by decide) ?_
    exact v_zret h rfl dX10_hasText_21 (pB1 (Int32.not_le.mp (by assumption)))

set_option maxHeartbeats 4000000 in
set_option maxRecDepth 100000 in
theorem c_X10_given {w : bw} {σ : bSt} {u : Nat} {a b c : Int32} {T : bT} (hm : sModel w) (hu : u < 2) (hT : MT (σ 1) T) : MV yX10_given cX10_given 6 (some .int) (rmm 2 46) w [.ref (b_ad w 0), .int (nI u), .int a, .int b, .int c] σ (pR (fun r σ' => r = gvT T (nI u) a b c ∧ ∀ j, j ≠ 8 → j ≠ 9 → σ' j = σ j)) := by
  refine b_met (ls := [(0, .ref (b_ad w 0)), (1, .int (nI u)), (2, .int a), (3, .int b), (4, .int c)]) (by decide) (Nat.le_of_ble_eq_true rfl) rfl (fun x h => ?_)
  have ht := hT u hu
  have hnm : ∀ j, j < 3 → (b_up (b_up (b_up σ 8 0 a) 8 1 b) 8 2 c) 8 j = if j = 0 then a else if j = 1 then b else c := fun j hj => by
    rcases (show j = 0 ∨ j = 1 ∨ j = 2 by omega) with rfl | rfl | rfl
    · rw [b_up_s, upd_n (by decide), b_up_s, upd_n (by decide), b_up_s, upd_s]; rfl
    · rw [b_up_s, upd_n (by decide), b_up_s, upd_s]; rfl
    · rw [b_up_s, upd_s]; rfl
  have ho8 : ∀ j, j ≠ 8 → (b_up (b_up (b_up σ 8 0 a) 8 1 b) 8 2 c) j = σ j := fun j hj => by rw [b_up_n hj, b_up_n hj, b_up_n hj]
  refine v_aload_n h (i := 0) dX10_given_0 (q := 1) rfl rfl 0 rfl ?_
  refine v_get h (k := 13) (v := .ref (b_ad w 8)) cls10 hm.1.1 hm.1.2 (Nat.le_of_ble_eq_true rfl) m862 rfl dX10_given_1 (q := 4) rfl ?_
  refine v_iconst h (v := 0) dX10_given_4 (q := 5) rfl (by decide) ?_
  refine v_iload_n h (i := 2) dX10_given_5 (q := 6) rfl rfl 2 rfl ?_
  refine v_iast h (k := 0) hm.2.2.2.2.2.2.2.2.1.1 hm.2.2.2.2.2.2.2.2.1.2 (vp_in_nI (n := 0) (by decide) (by decide)) (by decide) dX10_given_6 (q := 7) rfl ?_
  refine v_aload_n h (i := 0) dX10_given_7 (q := 8) rfl rfl 0 rfl ?_
  refine v_get h (k := 13) (v := .ref (b_ad w 8)) cls10 hm.1.1 hm.1.2 (Nat.le_of_ble_eq_true rfl) m862 rfl dX10_given_8 (q := 11) rfl ?_
  refine v_iconst h (v := 1) dX10_given_11 (q := 12) rfl (by decide) ?_
  refine v_iload_n h (i := 3) dX10_given_12 (q := 13) rfl rfl 3 rfl ?_
  refine v_iast h (k := 1) hm.2.2.2.2.2.2.2.2.1.1 hm.2.2.2.2.2.2.2.2.1.2 (vp_in_nI (n := 1) (by decide) (by decide)) (by decide) dX10_given_13 (q := 14) rfl ?_
  refine v_aload_n h (i := 0) dX10_given_14 (q := 15) rfl rfl 0 rfl ?_
  refine v_get h (k := 13) (v := .ref (b_ad w 8)) cls10 hm.1.1 hm.1.2 (Nat.le_of_ble_eq_true rfl) m862 rfl dX10_given_15 (q := 18) rfl ?_
  refine v_iconst h (v := 2) dX10_given_18 (q := 19) rfl (by decide) ?_
  refine v_iload h (i := 4) dX10_given_19 (q := 21) rfl 4 rfl ?_
  refine v_iast h (k := 2) hm.2.2.2.2.2.2.2.2.1.1 hm.2.2.2.2.2.2.2.2.1.2 (vp_in_nI (n := 2) (by decide) (by decide)) (by decide) dX10_given_21 (q := 22) rfl ?_
  refine v_iload_n h (i := 1) dX10_given_22 (q := 23) rfl rfl 1 rfl ?_
  refine v_iconst h (v := 1) dX10_given_23 (q := 24) rfl (by decide) ?_
  refine v_icmp_ne h (t := 31) dX10_given_24 (by decide) (q := 27) rfl (fun c24 => ?_) (fun c24 => ?_)
  · refine v_iload_n h (i := 3) dX10_given_31 (q := 32) rfl rfl 3 rfl ?_
    refine v_if_ne h (t := 39) dX10_given_32 (by decide) (q := 35) rfl (fun c32 => ?_) (fun c32 => ?_)
    · refine v_iload_n h (i := 2) dX10_given_39 (q := 40) rfl rfl 2 rfl ?_
      refine v_iload_n h (i := 3) dX10_given_40 (q := 41) rfl rfl 3 rfl ?_
      refine v_idiv h dX10_given_41 (q := 42) rfl (by assumption) ?_
      refine v_istore h (i := 5) (ls1 := [(5, .int (a / b)), (0, .ref (b_ad w 0)), (1, .int (nI u)), (2, .int a), (3, .int b), (4, .int c)]) dX10_given_42 (q := 44) rfl (Nat.le_of_ble_eq_true rfl) rfl ?_
      refine v_aload_n h (i := 0) dX10_given_44 (q := 45) rfl rfl 1 rfl ?_
      refine v_iload_n h (i := 1) dX10_given_45 (q := 46) rfl rfl 2 rfl ?_
      refine v_callV h (As := [.int (nI u)]) (rest := []) (c_X10_hasText (σ := b_up (b_up (b_up σ 8 0 a) 8 1 b) 8 2 c) (u := u) hm hu) cal_X10_hasText calV_X10_hasText m1006 ⟨rfl, rfl, Nat.le_of_ble_eq_true rfl, Nat.le_of_ble_eq_true rfl⟩ rfl hm.1.1 hm.1.2 ⟨_, _, rfl⟩ rfl (Nat.le_of_ble_eq_true rfl) dX10_given_46 (q := 49) rfl (kB (fun c46 => ?_) (fun c46 => ?_))
      · refine v_if_eq h (t := 69) dX10_given_49 (by decide) (q := 52) rfl (fun c => absurd c (by decide)) (fun _ => ?_)
        have hlen : 0 < (T u).1 := by
          have hz := c46
          rw [ho8 1 (by decide), ht.1] at hz
          exact pos_of rfl ht.2.1.1.1 hz
        refine v_aload_n h (i := 0) dX10_given_52 (q := 53) rfl rfl 1 rfl ?_
        refine v_sipush h (v := 136) dX10_given_53 (q := 56) rfl (by decide) ?_
        refine v_bipush h (v := 52) dX10_given_56 (q := 58) rfl (by decide) ?_
        refine v_iload_n h (i := 1) dX10_given_58 (q := 59) rfl rfl 2 rfl ?_
        refine v_imul h dX10_given_59 (q := 60) rfl ?_
        rw [show (52 * (nI u) : Int32) = nI (52 * u) from (nI_mulN 52 u)]
        refine v_iadd h dX10_given_60 (q := 61) rfl ?_
        rw [show (136 + (nI (52 * u)) : Int32) = nI (136 + 52 * u) from (nI_add 136 _)]
        refine v_iconst h (v := 1) dX10_given_61 (q := 62) rfl (by decide) ?_
        refine v_iadd h dX10_given_62 (q := 63) rfl ?_
        rw [show ((nI (136 + 52 * u)) + 1 : Int32) = nI (137 + 52 * u) from (by rw [nI_1]; congr 1; omega)]
        refine v_callV h (As := [.int (nI (137 + 52 * u))]) (rest := []) (c_X10_worked (σ := b_up (b_up (b_up σ 8 0 a) 8 1 b) 8 2 c) (F := 137 + 52 * u) (L := (T u).1) (g := (T u).2) (a := a) (b := b) (c := c) hm (by omega) (by omega) (by rw [ho8 1 (by decide), show 137 + 52 * u - 1 = 136 + 52 * u by omega]; exact ht.1) ht.2.1 hlen (by rw [ho8 1 (by decide)]; exact ht.2.2) hnm) cal_X10_worked calV_X10_worked m1010 ⟨rfl, rfl, Nat.le_of_ble_eq_true rfl, Nat.le_of_ble_eq_true rfl⟩ rfl hm.1.1 hm.1.2 ⟨_, _, rfl⟩ rfl (Nat.le_of_ble_eq_true rfl) dX10_given_63 (q := 66) rfl (kR (fun r63 σ63 h63 => ?_))
        refine v_goto h (t := 71) dX10_given_66 (by decide) ?_
        refine v_iconst h (v := 0) dX10_given_71 (q := 72) rfl (by decide) ?_
        refine v_bipush h (v := 99) dX10_given_72 (q := 74) rfl (by decide) ?_
        refine v_callS h (As := [.int r63, .int 0, .int 99]) (rest := []) (c_X10_held (v := r63) (l := 0) (m := 99)) cal_X10_held m1018 m1017 ⟨rfl, rfl, Nat.le_of_ble_eq_true rfl, Nat.le_of_ble_eq_true rfl⟩ rfl rfl (Nat.le_of_ble_eq_true rfl) dX10_given_74 (q := 77) rfl (kI ?_)
        exact v_iret h dX10_given_77 ⟨_, rfl, by rw [gvT_u hu, if_pos hlen, ← h63.1]; rfl, fun j h8 h9 => by rw [h63.2 j h9, ho8 j h8]⟩
      · refine v_if_eq h (t := 69) dX10_given_49 (by decide) (q := 52) rfl (fun _ => ?_) (fun c => absurd (by decide) c)
        have hlen : ¬ 0 < (T u).1 := by
          intro z
          refine c46 ?_
          rw [ho8 1 (by decide), ht.1]
          exact nI_lt (a := 0) z (by have := ht.2.1.1.1; omega)
        refine v_iload h (i := 5) dX10_given_69 (q := 71) rfl 0 rfl ?_
        refine v_iconst h (v := 0) dX10_given_71 (q := 72) rfl (by decide) ?_
        refine v_bipush h (v := 99) dX10_given_72 (q := 74) rfl (by decide) ?_
        refine v_callS h (As := [.int (a / b), .int 0, .int 99]) (rest := []) (c_X10_held (v := a / b) (l := 0) (m := 99)) cal_X10_held m1018 m1017 ⟨rfl, rfl, Nat.le_of_ble_eq_true rfl, Nat.le_of_ble_eq_true rfl⟩ rfl rfl (Nat.le_of_ble_eq_true rfl) dX10_given_74 (q := 77) rfl (kI ?_)
        exact v_iret h dX10_given_77 ⟨_, rfl, by rw [gvT_u hu, if_neg hlen]; unfold wtC; first | (rw [if_pos (by assumption)]; rfl) | (rw [if_neg (by assumption), if_pos (by assumption)]; rfl) | (rw [if_neg (by assumption), if_neg (by assumption)]; rfl), fun j h8 h9 => ho8 j h8⟩
    · refine v_iconst h (v := 0) dX10_given_35 (q := 36) rfl (by decide) ?_
      refine v_goto h (t := 42) dX10_given_36 (by decide) ?_
      refine v_istore h (i := 5) (ls1 := [(5, .int 0), (0, .ref (b_ad w 0)), (1, .int (nI u)), (2, .int a), (3, .int b), (4, .int c)]) dX10_given_42 (q := 44) rfl (Nat.le_of_ble_eq_true rfl) rfl ?_
      refine v_aload_n h (i := 0) dX10_given_44 (q := 45) rfl rfl 1 rfl ?_
      refine v_iload_n h (i := 1) dX10_given_45 (q := 46) rfl rfl 2 rfl ?_
      refine v_callV h (As := [.int (nI u)]) (rest := []) (c_X10_hasText (σ := b_up (b_up (b_up σ 8 0 a) 8 1 b) 8 2 c) (u := u) hm hu) cal_X10_hasText calV_X10_hasText m1006 ⟨rfl, rfl, Nat.le_of_ble_eq_true rfl, Nat.le_of_ble_eq_true rfl⟩ rfl hm.1.1 hm.1.2 ⟨_, _, rfl⟩ rfl (Nat.le_of_ble_eq_true rfl) dX10_given_46 (q := 49) rfl (kB (fun c46_1 => ?_) (fun c46_1 => ?_))
      · refine v_if_eq h (t := 69) dX10_given_49 (by decide) (q := 52) rfl (fun c => absurd c (by decide)) (fun _ => ?_)
        have hlen : 0 < (T u).1 := by
          have hz := c46_1
          rw [ho8 1 (by decide), ht.1] at hz
          exact pos_of rfl ht.2.1.1.1 hz
        refine v_aload_n h (i := 0) dX10_given_52 (q := 53) rfl rfl 1 rfl ?_
        refine v_sipush h (v := 136) dX10_given_53 (q := 56) rfl (by decide) ?_
        refine v_bipush h (v := 52) dX10_given_56 (q := 58) rfl (by decide) ?_
        refine v_iload_n h (i := 1) dX10_given_58 (q := 59) rfl rfl 2 rfl ?_
        refine v_imul h dX10_given_59 (q := 60) rfl ?_
        rw [show (52 * (nI u) : Int32) = nI (52 * u) from (nI_mulN 52 u)]
        refine v_iadd h dX10_given_60 (q := 61) rfl ?_
        rw [show (136 + (nI (52 * u)) : Int32) = nI (136 + 52 * u) from (nI_add 136 _)]
        refine v_iconst h (v := 1) dX10_given_61 (q := 62) rfl (by decide) ?_
        refine v_iadd h dX10_given_62 (q := 63) rfl ?_
        rw [show ((nI (136 + 52 * u)) + 1 : Int32) = nI (137 + 52 * u) from (by rw [nI_1]; congr 1; omega)]
        refine v_callV h (As := [.int (nI (137 + 52 * u))]) (rest := []) (c_X10_worked (σ := b_up (b_up (b_up σ 8 0 a) 8 1 b) 8 2 c) (F := 137 + 52 * u) (L := (T u).1) (g := (T u).2) (a := a) (b := b) (c := c) hm (by omega) (by omega) (by rw [ho8 1 (by decide), show 137 + 52 * u - 1 = 136 + 52 * u by omega]; exact ht.1) ht.2.1 hlen (by rw [ho8 1 (by decide)]; exact ht.2.2) hnm) cal_X10_worked calV_X10_worked m1010 ⟨rfl, rfl, Nat.le_of_ble_eq_true rfl, Nat.le_of_ble_eq_true rfl⟩ rfl hm.1.1 hm.1.2 ⟨_, _, rfl⟩ rfl (Nat.le_of_ble_eq_true rfl) dX10_given_63 (q := 66) rfl (kR (fun r63_1 σ63_1 h63_1 => ?_))
        refine v_goto h (t := 71) dX10_given_66 (by decide) ?_
        refine v_iconst h (v := 0) dX10_given_71 (q := 72) rfl (by decide) ?_
        refine v_bipush h (v := 99) dX10_given_72 (q := 74) rfl (by decide) ?_
        refine v_callS h (As := [.int r63_1, .int 0, .int 99]) (rest := []) (c_X10_held (v := r63_1) (l := 0) (m := 99)) cal_X10_held m1018 m1017 ⟨rfl, rfl, Nat.le_of_ble_eq_true rfl, Nat.le_of_ble_eq_true rfl⟩ rfl rfl (Nat.le_of_ble_eq_true rfl) dX10_given_74 (q := 77) rfl (kI ?_)
        exact v_iret h dX10_given_77 ⟨_, rfl, by rw [gvT_u hu, if_pos hlen, ← h63_1.1]; rfl, fun j h8 h9 => by rw [h63_1.2 j h9, ho8 j h8]⟩
      · refine v_if_eq h (t := 69) dX10_given_49 (by decide) (q := 52) rfl (fun _ => ?_) (fun c => absurd (by decide) c)
        have hlen : ¬ 0 < (T u).1 := by
          intro z
          refine c46_1 ?_
          rw [ho8 1 (by decide), ht.1]
          exact nI_lt (a := 0) z (by have := ht.2.1.1.1; omega)
        refine v_iload h (i := 5) dX10_given_69 (q := 71) rfl 0 rfl ?_
        refine v_iconst h (v := 0) dX10_given_71 (q := 72) rfl (by decide) ?_
        refine v_bipush h (v := 99) dX10_given_72 (q := 74) rfl (by decide) ?_
        refine v_callS h (As := [.int 0, .int 0, .int 99]) (rest := []) (c_X10_held (v := 0) (l := 0) (m := 99)) cal_X10_held m1018 m1017 ⟨rfl, rfl, Nat.le_of_ble_eq_true rfl, Nat.le_of_ble_eq_true rfl⟩ rfl rfl (Nat.le_of_ble_eq_true rfl) dX10_given_74 (q := 77) rfl (kI ?_)
        exact v_iret h dX10_given_77 ⟨_, rfl, by rw [gvT_u hu, if_neg hlen]; unfold wtC; first | (rw [if_pos (by assumption)]; rfl) | (rw [if_neg (by assumption), if_pos (by assumption)]; rfl) | (rw [if_neg (by assumption), if_neg (by assumption)]; rfl), fun j h8 h9 => ho8 j h8⟩
  · refine v_iload_n h (i := 3) dX10_given_27 (q := 28) rfl rfl 3 rfl ?_
    refine v_goto h (t := 42) dX10_given_28 (by decide) ?_
    refine v_istore h (i := 5) (ls1 := [(5, .int b), (0, .ref (b_ad w 0)), (1, .int (nI u)), (2, .int a), (3, .int b), (4, .int c)]) dX10_given_42 (q := 44) rfl (Nat.le_of_ble_eq_true rfl) rfl ?_
    refine v_aload_n h (i := 0) dX10_given_44 (q := 45) rfl rfl 1 rfl ?_
    refine v_iload_n h (i := 1) dX10_given_45 (q := 46) rfl rfl 2 rfl ?_
    refine v_callV h (As := [.int (nI u)]) (rest := []) (c_X10_hasText (σ := b_up (b_up (b_up σ 8 0 a) 8 1 b) 8 2 c) (u := u) hm hu) cal_X10_hasText calV_X10_hasText m1006 ⟨rfl, rfl, Nat.le_of_ble_eq_true rfl, Nat.le_of_ble_eq_true rfl⟩ rfl hm.1.1 hm.1.2 ⟨_, _, rfl⟩ rfl (Nat.le_of_ble_eq_true rfl) dX10_given_46 (q := 49) rfl (kB (fun c46_2 => ?_) (fun c46_2 => ?_))
    · refine v_if_eq h (t := 69) dX10_given_49 (by decide) (q := 52) rfl (fun c => absurd c (by decide)) (fun _ => ?_)
      have hlen : 0 < (T u).1 := by
        have hz := c46_2
        rw [ho8 1 (by decide), ht.1] at hz
        exact pos_of rfl ht.2.1.1.1 hz
      refine v_aload_n h (i := 0) dX10_given_52 (q := 53) rfl rfl 1 rfl ?_
      refine v_sipush h (v := 136) dX10_given_53 (q := 56) rfl (by decide) ?_
      refine v_bipush h (v := 52) dX10_given_56 (q := 58) rfl (by decide) ?_
      refine v_iload_n h (i := 1) dX10_given_58 (q := 59) rfl rfl 2 rfl ?_
      refine v_imul h dX10_given_59 (q := 60) rfl ?_
      rw [show (52 * (nI u) : Int32) = nI (52 * u) from (nI_mulN 52 u)]
      refine v_iadd h dX10_given_60 (q := 61) rfl ?_
      rw [show (136 + (nI (52 * u)) : Int32) = nI (136 + 52 * u) from (nI_add 136 _)]
      refine v_iconst h (v := 1) dX10_given_61 (q := 62) rfl (by decide) ?_
      refine v_iadd h dX10_given_62 (q := 63) rfl ?_
      rw [show ((nI (136 + 52 * u)) + 1 : Int32) = nI (137 + 52 * u) from (by rw [nI_1]; congr 1; omega)]
      refine v_callV h (As := [.int (nI (137 + 52 * u))]) (rest := []) (c_X10_worked (σ := b_up (b_up (b_up σ 8 0 a) 8 1 b) 8 2 c) (F := 137 + 52 * u) (L := (T u).1) (g := (T u).2) (a := a) (b := b) (c := c) hm (by omega) (by omega) (by rw [ho8 1 (by decide), show 137 + 52 * u - 1 = 136 + 52 * u by omega]; exact ht.1) ht.2.1 hlen (by rw [ho8 1 (by decide)]; exact ht.2.2) hnm) cal_X10_worked calV_X10_worked m1010 ⟨rfl, rfl, Nat.le_of_ble_eq_true rfl, Nat.le_of_ble_eq_true rfl⟩ rfl hm.1.1 hm.1.2 ⟨_, _, rfl⟩ rfl (Nat.le_of_ble_eq_true rfl) dX10_given_63 (q := 66) rfl (kR (fun r63_2 σ63_2 h63_2 => ?_))
      refine v_goto h (t := 71) dX10_given_66 (by decide) ?_
      refine v_iconst h (v := 0) dX10_given_71 (q := 72) rfl (by decide) ?_
      refine v_bipush h (v := 99) dX10_given_72 (q := 74) rfl (by decide) ?_
      refine v_callS h (As := [.int r63_2, .int 0, .int 99]) (rest := []) (c_X10_held (v := r63_2) (l := 0) (m := 99)) cal_X10_held m1018 m1017 ⟨rfl, rfl, Nat.le_of_ble_eq_true rfl, Nat.le_of_ble_eq_true rfl⟩ rfl rfl (Nat.le_of_ble_eq_true rfl) dX10_given_74 (q := 77) rfl (kI ?_)
      exact v_iret h dX10_given_77 ⟨_, rfl, by rw [gvT_u hu, if_pos hlen, ← h63_2.1]; rfl, fun j h8 h9 => by rw [h63_2.2 j h9, ho8 j h8]⟩
    · refine v_if_eq h (t := 69) dX10_given_49 (by decide) (q := 52) rfl (fun _ => ?_) (fun c => absurd (by decide) c)
      have hlen : ¬ 0 < (T u).1 := by
        intro z
        refine c46_2 ?_
        rw [ho8 1 (by decide), ht.1]
        exact nI_lt (a := 0) z (by have := ht.2.1.1.1; omega)
      refine v_iload h (i := 5) dX10_given_69 (q := 71) rfl 0 rfl ?_
      refine v_iconst h (v := 0) dX10_given_71 (q := 72) rfl (by decide) ?_
      refine v_bipush h (v := 99) dX10_given_72 (q := 74) rfl (by decide) ?_
      refine v_callS h (As := [.int b, .int 0, .int 99]) (rest := []) (c_X10_held (v := b) (l := 0) (m := 99)) cal_X10_held m1018 m1017 ⟨rfl, rfl, Nat.le_of_ble_eq_true rfl, Nat.le_of_ble_eq_true rfl⟩ rfl rfl (Nat.le_of_ble_eq_true rfl) dX10_given_74 (q := 77) rfl (kI ?_)
      exact v_iret h dX10_given_77 ⟨_, rfl, by rw [gvT_u hu, if_neg hlen]; unfold wtC; first | (rw [if_pos (by assumption)]; rfl) | (rw [if_neg (by assumption), if_pos (by assumption)]; rfl) | (rw [if_neg (by assumption), if_neg (by assumption)]; rfl), fun j h8 h9 => ho8 j h8⟩
