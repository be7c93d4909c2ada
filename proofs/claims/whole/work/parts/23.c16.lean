/-! what a run has come to, whichever of the two systems keeps it -/
abbrev bT : Type := Nat → Nat × (Nat → Int32)
/-- what an image keeps: the lagoon's numbers, the texts, the tape, what was told -/
abbrev bD : Type := bN × bT × (Nat × (Nat → Int32)) × (Nat × (Nat → Int32))
/-- that now, that kept, how many images, how many refusals, the trace, the sheets -/
abbrev bA : Type := bD × bD × Int32 × (Nat → Int32) × (Nat × (Nat → Int32)) × (Nat → Int32 × Nat × (Nat → Int32))
def gvT (T : bT) : bG := fun use a b c => clmp (if 0 < (T (if use = 0 then 0 else 1)).1 then evC (T (if use = 0 then 0 else 1)).2 (T (if use = 0 then 0 else 1)).1 a b c else wtC use a b)
def okS (c : Int32) : Prop := (∃ v : Nat, v < 10000 ∧ c = nI v) ∨ c = -1 ∨ c = -2 ∨ c = -3 ∨ c = -33 ∨ c = -37 ∨ c = -38 ∨ c = -42 ∨ c = -43 ∨ c = -45 ∨ c = -47 ∨ c = -60 ∨ c = -61 ∨ c = -62 ∨ c = -124
def okT (p : Nat × (Nat → Int32)) : Prop := okC p.2 p.1 ∧ ∀ k, k < p.1 → okS (p.2 k)
def IvB (N : bN) : Prop := IvN N ∧ ∃ t, t ≤ 9999 ∧ N 0 = nI t
/-- the texts in Laws at L -/
def RDt (σ : bSt) (L : Nat) (T : bT) : Prop := ∀ u, u < 2 → σ (L + 2 + 3 * u) 0 = nI (T u).1 ∧ okT (T u) ∧ ∀ k, k < (T u).1 → σ (L + 3 + 3 * u) k = (T u).2 k
/-- an image's part, in a Scene at sc, Laws at L, a Desk at dk -/
def RD (σ : bSt) (sc L dk : Nat) (D : bD) : Prop :=
  vw σ sc L = D.1 ∧ IvB D.1 ∧ RDt σ L D.2.1 ∧ σ dk 1 = nI D.2.2.1.1 ∧ D.2.2.1.1 ≤ 50 ∧ (∀ k, k < 50 → σ (dk + 1) k = D.2.2.1.2 k) ∧ σ dk 3 = nI D.2.2.2.1 ∧ D.2.2.2.1 ≤ 20 ∧ ∀ k, k < 20 → σ (dk + 2) k = D.2.2.2.2 k
def bitsOK (b : Int32) : Prop := b = 0 ∨ b = 8 ∨ b = 16 ∨ b = 32
def RS4 (σ : bSt) (S : Nat → Int32 × Nat × (Nat → Int32)) : Prop := ∀ s, s < 4 → σ (44 + 2 * s) 0 = (S s).1 ∧ bitsOK (S s).1 ∧ σ (44 + 2 * s) 1 = nI (S s).2.1 ∧ (S s).2.1 ≤ 40 ∧ ((S s).1 = 0 → (S s).2.1 = 0) ∧ ∀ k, k < 40 → σ (45 + 2 * s) k = wrS (S s).1 ((S s).2.2 k)
/-- what the look-out's rows hold is cells -/
def RO (σ : bSt) : Prop := ∀ j, 77 ≤ j → j < 206 → ∀ b, b < 9 → ∃ c, c < 64 ∧ σ j b = nI c
def RC (σ : bSt) (A : bA) : Prop :=
  RD σ 10 1 19 A.1 ∧ cacheOK σ 1 ∧ σ 0 6 = A.2.2.1 ∧ (¬ A.2.2.1 = 0 → RD σ 31 22 40 A.2.1) ∧ (∀ k, k < 6 → σ 54 k = A.2.2.2.1 k) ∧ (σ 52 1 = nI A.2.2.2.2.1.1 ∧ A.2.2.2.2.1.1 ≤ 40 ∧ ∀ k, k < 40 → σ 53 k = A.2.2.2.2.1.2 k) ∧ RS4 σ A.2.2.2.2.2 ∧ RO σ
/-- a call's end: its answer, and what the run has come to -/
def pA (r : Int32 × bA) : Option Value → bSt → Prop := fun v σ' => v = some (.int r.1) ∧ RC σ' r.2
def pAL (r : Int64 × bA) : Option Value → bSt → Prop := fun v σ' => v = some (.long r.1) ∧ RC σ' r.2
theorem pA_of {r : Int32 × bA} {x : Int32} {A' : bA} {σ' : bSt} (e : r = (x, A')) (h : RC σ' A') : pA r (some (.int x)) σ' := by
  subst e
  exact ⟨rfl, h⟩
theorem pAL_of {r : Int64 × bA} {x : Int64} {A' : bA} {σ' : bSt} (e : r = (x, A')) (h : RC σ' A') : pAL r (some (.long x)) σ' := by
  subst e
  exact ⟨rfl, h⟩
theorem runC_congr {g h : Nat → Int32} {a b c : Int32} : ∀ n, (∀ k, k < n → g k = h k) → runC g a b c n = runC h a b c n
  | 0, _ => rfl
  | n + 1, e => by
    rw [runC, runC, runC_congr n (fun k hk => e k (by omega)), e n (by omega)]
theorem dptC_congr {g h : Nat → Int32} : ∀ n, (∀ k, k < n → g k = h k) → dptC g n = dptC h n
  | 0, _ => rfl
  | n + 1, e => by
    rw [dptC, dptC, dptC_congr n (fun k hk => e k (by omega)), e n (by omega)]
theorem okC_congr {g h : Nat → Int32} {n : Nat} (e : ∀ k, k < n → g k = h k) (k : okC g n) : okC h n := by
  obtain ⟨h1, h2, h3⟩ := k
  refine ⟨h1, fun hp => by rw [← dptC_congr n e]; exact h2 hp, fun i hi hs => ?_⟩
  rw [← e i hi] at hs ⊢
  rw [← dptC_congr i (fun k hk => e k (by omega))]
  exact h3 i hi hs
theorem gvF_T {σ : bSt} {f : Nat} {p : Nat × (Nat → Int32)} {use a b c : Int32} (h0 : σ f 0 = nI p.1) (hk : okT p) (h1 : ∀ k, k < p.1 → σ (f + 1) k = p.2 k) : gvF σ f use a b c = clmp (if 0 < p.1 then evC p.2 p.1 a b c else wtC use a b) := by
  have h50 := hk.1.1
  unfold gvF
  rw [h0, nI_clamp (by omega)]
  congr 1
  by_cases c0 : 0 < p.1
  · rw [if_pos c0, if_pos (by rw [i_lt, nI_toInt (by omega)]; show (0 : Int) < _; omega)]
    unfold evC
    rw [runC_congr _ h1]
  · rw [if_neg c0, if_neg (by rw [i_lt, nI_toInt (by omega)]; show ¬ (0 : Int) < _; omega)]
theorem gvS_T {σ : bSt} {L : Nat} {T : bT} (h : RDt σ L T) : gvS σ L = gvT T := by
  funext use a b c
  unfold gvS gvT
  by_cases c0 : use = 0
  · rw [if_pos c0, if_pos c0]
    have h0 := h 0 (by decide)
    exact gvF_T h0.1 h0.2.1 h0.2.2
  · rw [if_neg c0, if_neg c0]
    have h0 := h 1 (by decide)
    exact gvF_T h0.1 h0.2.1 h0.2.2
theorem okL_T {σ : bSt} {L : Nat} {T : bT} (h : RDt σ L T) : okL σ L := by
  have h0 := h 0 (by decide)
  have h1 := h 1 (by decide)
  exact ⟨⟨_, h0.1, okC_congr (fun k hk => (h0.2.2 k hk).symm) h0.2.1.1⟩, ⟨_, h1.1, okC_congr (fun k hk => (h1.2.2 k hk).symm) h1.2.1.1⟩⟩
section RDS
variable {σ τ : bSt} {sc L dk : Nat} {D : bD}
theorem RDt.at {T : bT} (h : RDt σ L T) (ho : ∀ j, L + 2 ≤ j → j < L + 7 → j ≠ L + 4 → τ j = σ j) : RDt τ L T := by
  intro u hu
  obtain ⟨h1, h2, h3⟩ := h u hu
  rcases (show u = 0 ∨ u = 1 by omega) with rfl | rfl
  · exact ⟨by rw [ho (L + 2 + 3 * 0) (by omega) (by omega) (by omega)]; exact h1, h2, fun k hk => by rw [ho (L + 3 + 3 * 0) (by omega) (by omega) (by omega)]; exact h3 k hk⟩
  · exact ⟨by rw [ho (L + 2 + 3 * 1) (by omega) (by omega) (by omega)]; exact h1, h2, fun k hk => by rw [ho (L + 3 + 3 * 1) (by omega) (by omega) (by omega)]; exact h3 k hk⟩
/-- none of an image's cells but the texts' stacks and what is remembered of LAGS are written -/
def keeps (sc L dk : Nat) (σ τ : bSt) : Prop := (∀ j, sc ≤ j → j < sc + 9 → τ j = σ j) ∧ (∀ j, L ≤ j → j < L + 7 → j ≠ L + 4 → τ j = σ j) ∧ ∀ j, dk ≤ j → j < dk + 3 → τ j = σ j
theorem vw_keep (h1 : ∀ j, sc ≤ j → j < sc + 9 → τ j = σ j) (h2 : ∀ j, L ≤ j → j < L + 2 → τ j = σ j) : vw τ sc L = vw σ sc L :=
  vw_ext (fun k _ => by rw [h1 sc (by omega) (by omega)]) (by rw [h2 L (by omega) (by omega)]) (h2 (L + 1) (by omega) (by omega)) (by rw [h1 (sc + 1) (by omega) (by omega)]) (fun f _ hf => h1 (sc + f) (by omega) (by omega))
theorem RD.at (h : RD σ sc L dk D) (k : keeps sc L dk σ τ) : RD τ sc L dk D := by
  obtain ⟨h1, h2, h3, h4, h5, h6, h7, h8, h9⟩ := h
  obtain ⟨k1, k2, k3⟩ := k
  refine ⟨?_, h2, h3.at (fun j a b c => k2 j (by omega) b c), ?_, h5, ?_, ?_, h8, ?_⟩
  · rw [← h1]
    exact vw_keep k1 (fun j a b => k2 j a (by omega) (by omega))
  · rw [k3 dk (by omega) (by omega)]; exact h4
  · rw [k3 (dk + 1) (by omega) (by omega)]; exact h6
  · rw [k3 dk (by omega) (by omega)]; exact h7
  · rw [k3 (dk + 2) (by omega) (by omega)]; exact h9
theorem RS4.at {S : Nat → Int32 × Nat × (Nat → Int32)} (h : RS4 σ S) (ho : ∀ j, 44 ≤ j → j < 52 → τ j = σ j) : RS4 τ S := by
  intro s hs
  obtain ⟨h1, h2, h3, h4⟩ := h s hs
  exact ⟨by rw [ho _ (by omega) (by omega)]; exact h1, h2, by rw [ho _ (by omega) (by omega)]; exact h3, h4.1, h4.2.1, fun k hk => by rw [ho _ (by omega) (by omega)]; exact h4.2.2 k hk⟩
theorem cacheOK_at (h : cacheOK σ L) (ho : ∀ j, L + 2 ≤ j → j < L + 9 → j ≠ L + 4 → j ≠ L + 7 → τ j = σ j) : cacheOK τ L := by
  have e : gvS τ L = gvS σ L := by
    funext use a b c
    unfold gvS gvF
    rw [ho (L + 2) (by omega) (by omega) (by omega) (by omega), ho (L + 2 + 1) (by omega) (by omega) (by omega) (by omega), ho (L + 5) (by omega) (by omega) (by omega) (by omega), ho (L + 5 + 1) (by omega) (by omega) (by omega) (by omega)]
  intro v2 t2 d2 g1 g2 g3 g4
  rw [e, ho (L + 8) (by omega) (by omega) (by omega) (by omega)]
  exact h v2 t2 d2 g1 g2 g3 g4
end RDS
theorem RO.at {σ τ : bSt} (h : RO σ) (ho : ∀ j, 77 ≤ j → j < 206 → τ j = σ j) : RO τ := fun j a b => by rw [ho j a b]; exact h j a b
section RCS
variable {σ τ : bSt} {A : bA}
/-- only what is no one's is written -/
theorem RC.scrE (h : RC σ A) (ho : ∀ j, j ≠ 5 → j ≠ 8 → j ≠ 9 → j < 55 → τ j = σ j) (hc : cacheOK τ 1) (hro : RO τ) : RC τ A := by
  obtain ⟨h1, h2, h3, h4, h5, h6, h7, h8⟩ := h
  refine ⟨h1.at ⟨fun j a b => ho j (by omega) (by omega) (by omega) (by omega), fun j a b c => ho j (by omega) (by omega) (by omega) (by omega), fun j a b => ho j (by omega) (by omega) (by omega) (by omega)⟩, hc, by rw [ho 0 (by decide) (by decide) (by decide) (by decide)]; exact h3,
    fun z => (h4 z).at ⟨fun j a b => ho j (by omega) (by omega) (by omega) (by omega), fun j a b c => ho j (by omega) (by omega) (by omega) (by omega), fun j a b => ho j (by omega) (by omega) (by omega) (by omega)⟩,
    by rw [ho 54 (by decide) (by decide) (by decide) (by decide)]; exact h5, by rw [ho 52 (by decide) (by decide) (by decide) (by decide), ho 53 (by decide) (by decide) (by decide) (by decide)]; exact h6, h7.at (fun j a b => ho j (by omega) (by omega) (by omega) (by omega)), hro⟩
/-- the lagoon's numbers are written -/
def setN (A : bA) (N : bN) : bA := ((N, A.1.2), A.2)
theorem RC.num {N : bN} (h : RC σ A) (ho : ∀ j, (j < 10 ∨ 19 ≤ j) → j ≠ 1 → j ≠ 2 → j ≠ 5 → j ≠ 8 → j ≠ 9 → j < 55 → τ j = σ j) (hc : cacheOK τ 1) (hro : RO τ) (hv : vw τ 10 1 = N) (hI : IvB N) : RC τ (setN A N) := by
  obtain ⟨⟨g1, g2, g3, g4, g5, g6, g7, g8, g9⟩, h2, h3, h4, h5, h6, h7, h8⟩ := h
  refine ⟨⟨hv, hI, g3.at (fun j a b c => ho j (by omega) (by omega) (by omega) (by omega) (by omega) (by omega) (by omega)), by rw [ho 19 (by omega) (by omega) (by omega) (by omega) (by omega) (by omega) (by omega)]; exact g4, g5, by rw [ho (19 + 1) (by omega) (by omega) (by omega) (by omega) (by omega) (by omega) (by omega)]; exact g6, by rw [ho 19 (by omega) (by omega) (by omega) (by omega) (by omega) (by omega) (by omega)]; exact g7, g8, by rw [ho (19 + 2) (by omega) (by omega) (by omega) (by omega) (by omega) (by omega) (by omega)]; exact g9⟩, hc, by rw [ho 0 (by omega) (by omega) (by omega) (by omega) (by omega) (by omega) (by omega)]; exact h3,
    fun z => (h4 z).at ⟨fun j a b => ho j (by omega) (by omega) (by omega) (by omega) (by omega) (by omega) (by omega), fun j a b c => ho j (by omega) (by omega) (by omega) (by omega) (by omega) (by omega) (by omega), fun j a b => ho j (by omega) (by omega) (by omega) (by omega) (by omega) (by omega) (by omega)⟩,
    by rw [ho 54 (by omega) (by omega) (by omega) (by omega) (by omega) (by omega) (by omega)]; exact h5, by rw [ho 52 (by omega) (by omega) (by omega) (by omega) (by omega) (by omega) (by omega), ho 53 (by omega) (by omega) (by omega) (by omega) (by omega) (by omega) (by omega)]; exact h6, h7.at (fun j a b => ho j (by omega) (by omega) (by omega) (by omega) (by omega) (by omega) (by omega)), hro⟩
def errA (e : Nat) (A : bA) : bA := (A.1, A.2.1, A.2.2.1, upd A.2.2.2.1 e (A.2.2.2.1 e + 1), A.2.2.2.2)
/-- a refusal -/
def refA (e : Nat) (A : bA) : Int32 × bA := (-1000000000 - nI e, errA e A)
theorem RC.err {e : Nat} (h : RC σ A) (he : e < 6) : RC (b_up σ 54 e (σ 54 e + 1)) (errA e A) := by
  obtain ⟨h1, h2, h3, h4, h5, h6, h7, h8⟩ := h
  have ho : ∀ j, j ≠ 54 → b_up σ 54 e (σ 54 e + 1) j = σ j := fun j hj => b_up_n hj
  refine ⟨h1.at ⟨fun j a b => ho j (by omega), fun j a b c => ho j (by omega), fun j a b => ho j (by omega)⟩, cacheOK_at h2 (fun j a b _ _ => ho j (by omega)), by rw [ho 0 (by decide)]; exact h3,
    fun z => (h4 z).at ⟨fun j a b => ho j (by omega), fun j a b c => ho j (by omega), fun j a b => ho j (by omega)⟩, fun k hk => ?_, by rw [ho 52 (by decide), ho 53 (by decide)]; exact h6, h7.at (fun j a b => ho j (by omega)), h8.at (fun j a b => ho j (by omega))⟩
  rw [b_up_s, h5 e he]
  show upd _ e _ k = upd _ e _ k
  unfold upd
  by_cases c : k = e
  · rw [if_pos c, if_pos c]
  · rw [if_neg c, if_neg c]
    exact h5 k hk
theorem RC.vwE (h : RC σ A) : vw σ 10 1 = A.1.1 := h.1.1
theorem RC.iv (h : RC σ A) : IvN (vw σ 10 1) := by rw [h.vwE]; exact h.1.2.1.1
theorem RC.gv (h : RC σ A) : gvS σ 1 = gvT A.1.2.1 := gvS_T h.1.2.2.1
theorem RC.ok (h : RC σ A) : okL σ 1 := okL_T h.1.2.2.1
theorem RC.ca (h : RC σ A) : cacheOK σ 1 := h.2.1
theorem RC.ro (h : RC σ A) : RO σ := h.2.2.2.2.2.2.2
end RCS

set_option maxHeartbeats 4000000 in
set_option maxRecDepth 100000 in
theorem c_X9_refuse {w : bw} {σ : bSt} {e : Nat} (hs : sOpera w) (he : e < 6) : MV yX9_refuse cX9_refuse 2 (some .int) (rmm 0 0) w [.ref (b_ad w 0), .int (nI e)] σ (pI (-1000000000 - nI e) (b_up σ 54 e (σ 54 e + 1))) := by
  refine b_met (ls := [(0, .ref (b_ad w 0)), (1, .int (nI e))]) (by decide) (Nat.le_of_ble_eq_true rfl) rfl (fun x h => ?_)
  refine v_iload_n h (i := 1) dX9_refuse_0 (q := 1) rfl rfl 1 rfl ?_
  refine v_if_lt h (t := 23) dX9_refuse_1 (by decide) (q := 4) rfl (fun c1 => absurd c1 (nI_pos (by omega))) (fun c1 => ?_)
  refine v_iload_n h (i := 1) dX9_refuse_4 (q := 5) rfl rfl 1 rfl ?_
  refine v_aload_n h (i := 0) dX9_refuse_5 (q := 6) rfl rfl 0 rfl ?_
  refine v_get h (k := 9) (v := .ref (b_ad w 54)) cls9 hs.1.1 hs.1.2 (Nat.le_of_ble_eq_true rfl) m274 rfl dX9_refuse_6 (q := 9) rfl ?_
  refine v_aleni h (v := 6) hs.2.2.2.2.2.2.2.2.2.2.1.1 hs.2.2.2.2.2.2.2.2.2.2.1.2 rfl dX9_refuse_9 (q := 10) rfl ?_
  refine v_icmp_ge h (t := 23) dX9_refuse_10 (by decide) (q := 13) rfl (fun c10 => absurd c10 (nnle (k := 6) rfl he (by decide))) (fun c10 => ?_)
  refine v_aload_n h (i := 0) dX9_refuse_13 (q := 14) rfl rfl 0 rfl ?_
  refine v_get h (k := 9) (v := .ref (b_ad w 54)) cls9 hs.1.1 hs.1.2 (Nat.le_of_ble_eq_true rfl) m274 rfl dX9_refuse_14 (q := 17) rfl ?_
  refine v_iload_n h (i := 1) dX9_refuse_17 (q := 18) rfl rfl 1 rfl ?_
  refine v_dup2 h dX9_refuse_18 (q := 19) rfl rfl rfl ?_
  refine v_iald h (k := e) hs.2.2.2.2.2.2.2.2.2.2.1.1 hs.2.2.2.2.2.2.2.2.2.2.1.2 (vp_in_nI he (by decide)) (nI_clamp (by omega)) dX9_refuse_19 (q := 20) rfl ?_
  refine v_iconst h (v := 1) dX9_refuse_20 (q := 21) rfl (by decide) ?_
  refine v_iadd h dX9_refuse_21 (q := 22) rfl ?_
  refine v_iast h (k := e) hs.2.2.2.2.2.2.2.2.2.2.1.1 hs.2.2.2.2.2.2.2.2.2.2.1.2 (vp_in_nI he (by decide)) (nI_clamp (by omega)) dX9_refuse_22 (q := 23) rfl ?_
  refine v_ldcw h (v := -1000000000) m319 dX9_refuse_23 (q := 26) rfl ?_
  refine v_iload_n h (i := 1) dX9_refuse_26 (q := 27) rfl rfl 1 rfl ?_
  refine v_isub h dX9_refuse_27 (q := 28) rfl ?_
  exact v_iret h dX9_refuse_28 ⟨rfl, rfl⟩
