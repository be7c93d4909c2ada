theorem tel_vw {σ : bSt} {sc l : Nat} {what : Int32} (hl : l < 6) (hw : wi what 0 3) : (if what = 0 then σ (sc + 6) l else if what = 1 then σ (sc + 7) l else if what = 2 then σ (sc + 8) l else if togN (gvS σ 1) (vw σ sc 1) (σ (sc + 6) l) (sngN (vw σ sc 1) 9) = true then 1 else 0) = telN (gvS σ 1) (vw σ sc 1) l what := by
  unfold telN
  by_cases c0 : what = 0
  · rw [if_pos c0, c0, if_neg (by decide)]
    exact (vw_l0 hl).symm
  · rw [if_neg c0]
    by_cases c1 : what = 1
    · rw [if_pos c1, c1, if_neg (by decide)]
      exact (vw_l1 hl).symm
    · rw [if_neg c1]
      by_cases c2 : what = 2
      · rw [if_pos c2, c2, if_neg (by decide)]
        exact (vw_l2 hl).symm
      · rw [if_neg c2, if_pos (wh_3 hw c0 c1 c2), vw_l0 hl]
/-- a look ahead leaves all as it was -/
theorem RC.look {σ τ τ2 : bSt} {A : bA} (h : RC σ A) (k : offS 60 1 (blk σ 60 10 9) τ) (hs : scr 1 τ τ2) (hc : cacheOK τ2 1) : RC τ2 A := by
  have key : ∀ j, j ≠ 5 → j ≠ 8 → j ≠ 9 → (j < 60 ∨ 69 ≤ j) → τ2 j = σ j := fun j a b c d => by rw [hs j (by omega) (by omega) (by omega), k j (by omega) (by omega) (by omega) (by omega), blk_out (by omega)]
  exact h.scrE (fun j a b c d => key j a b c (by omega)) hc (h.ro.at (fun j a b => key j (by omega) (by omega) (by omega) (by omega)))
theorem gv_look {σ τ : bSt} {A : bA} (h : RC σ A) (k : offS 60 1 (blk σ 60 10 9) τ) : gvS τ 1 = gvT A.1.2.1 := by
  rw [gvS_off k (by decide), ← h.gv]
  funext use a b c
  unfold gvS gvF
  rw [blk_out (by omega), blk_out (by omega), blk_out (by omega), blk_out (by omega)]
theorem ok_look {σ τ : bSt} {A : bA} (h : RC σ A) (k : offS 60 1 (blk σ 60 10 9) τ) : okL τ 1 := okL_off k (by decide) (okL_T (h.1.2.2.1.at (fun j a b c => blk_out (by omega))))
theorem ca_blk {σ : bSt} (h : cacheOK σ 1) : cacheOK (blk σ 60 10 9) 1 := cacheOK_at h (fun j a b c d => blk_out (by omega))
def ckN (g : bG) (N : bN) (wl : Nat → Int32) (l : Nat) : Nat → Nat → Int32
  | 0, _ => 0
  | r + 1, k => if wl k = goN g false N (k + 1) (49 + 3 * l) then ckN g N wl l r (k + 1) else 1 + nI k
def oCheck (l : Int32) (A : bA) : Int32 × bA := if inN l (liN A.1.1) then (ckN (gvT A.1.2.1) A.1.1 A.1.2.2.2.2 (cl l) A.1.2.2.2.1 0, setWt A (0, A.1.2.2.2.2)) else refA 1 (setWt A (0, A.1.2.2.2.2))
theorem RC.wt0 {σ : bSt} {A : bA} (h : RC σ A) : RC (b_up σ 19 3 0) (setWt A (0, A.1.2.2.2.2)) :=
  h.dsk (p := A.1.2.2.1) (q := (0, A.1.2.2.2.2)) (fun j a b c => b_up_n a) (by rw [b_up_s, upd_n (by decide)]; exact h.fed.1) h.fed.2.1 (by rw [b_up_n (by decide)]; exact h.fed.2.2) (by rw [b_up_s, upd_s]; rfl) (Nat.zero_le _) (by rw [b_up_n (by decide)]; exact h.wt.2.2)
theorem RC.fed0 {σ : bSt} {A : bA} (h : RC σ A) : RC (b_up σ 19 1 0) (setTp A (0, A.1.2.2.1.2)) :=
  h.dsk (p := (0, A.1.2.2.1.2)) (q := A.1.2.2.2) (fun j a b c => b_up_n a) (by rw [b_up_s, upd_s]; rfl) (Nat.zero_le _) (by rw [b_up_n (by decide)]; exact h.fed.2.2) (by rw [b_up_s, upd_n (by decide)]; exact h.wt.1) h.wt.2.1 (by rw [b_up_n (by decide)]; exact h.wt.2.2)
theorem RD.mv {σ τ : bSt} {sc L dk sc2 L2 dk2 : Nat} {D : bD} (h : RD σ sc L dk D) (k1 : ∀ i, i < 9 → τ (sc2 + i) = σ (sc + i)) (k2 : ∀ i, i < 7 → i ≠ 4 → τ (L2 + i) = σ (L + i)) (k3 : ∀ i, i < 3 → τ (dk2 + i) = σ (dk + i)) : RD τ sc2 L2 dk2 D := by
  obtain ⟨h1, h2, h3, h4, h5, h6, h7, h8, h9⟩ := h
  refine ⟨?_, h2, ?_, ?_, h5, ?_, ?_, h8, ?_⟩
  · rw [← h1]
    exact vw_ext (fun k _ => by rw [show τ sc2 = σ sc from k1 0 (by decide)]) (by rw [show τ L2 = σ L from k2 0 (by decide) (by decide)]) (k2 1 (by decide) (by decide)) (by rw [k1 1 (by decide)]) (fun f _ hf => k1 f hf)
  · intro u hu
    obtain ⟨a, b, c⟩ := h3 u hu
    refine ⟨?_, b, fun k hk => ?_⟩
    · rw [show L2 + 2 + 3 * u = L2 + (2 + 3 * u) by omega, k2 (2 + 3 * u) (by omega) (by omega), ← a]
      congr 1
      omega
    · rw [show L2 + 3 + 3 * u = L2 + (3 + 3 * u) by omega, k2 (3 + 3 * u) (by omega) (by omega), ← c k hk, show L + (3 + 3 * u) = L + 3 + 3 * u by omega]
  · rw [show τ dk2 = σ dk from k3 0 (by decide)]; exact h4
  · rw [k3 1 (by decide)]; exact h6
  · rw [show τ dk2 = σ dk from k3 0 (by decide)]; exact h7
  · rw [k3 2 (by decide)]; exact h9
def oImage (A : bA) : Int32 × bA := (A.2.2.1 + 1, (A.1, A.1, A.2.2.1 + 1, A.2.2.2))
def oRestore (A : bA) : Int32 × bA := if A.2.2.1 = 0 then refA 2 A else (A.2.1.1 0, (A.2.1, A.2))
def cpL (a b : Nat) (σ : bSt) : bSt := b_set (blk (blk (blk σ a b 2) (a + 2) (b + 2) 2) (a + 5) (b + 5) 2) (a + 8) (fun _ => -1)
def cpA (L2 L sc2 sc dk2 dk : Nat) (σ : bSt) : bSt := blk (blk (cpL L2 L σ) sc2 sc 9) dk2 dk 3
theorem cpL_in {a b i : Nat} {σ : bSt} (h : i < 7) (h4 : i ≠ 4) (hd : a + 9 ≤ b ∨ b + 9 ≤ a) : cpL a b σ (a + i) = σ (b + i) := by
  unfold cpL
  rw [b_set_n (by omega)]
  rcases (show i < 2 ∨ (2 ≤ i ∧ i < 4) ∨ (5 ≤ i ∧ i < 7) by omega) with e | e | e
  · rw [blk_out (by omega), blk_out (by omega), blk_in (by omega) (by omega)]
    congr 1
    omega
  · rw [blk_out (by omega), blk_in (by omega) (by omega), blk_out (by omega)]
    congr 1
    omega
  · rw [blk_in (by omega) (by omega), blk_out (by omega), blk_out (by omega)]
    congr 1
    omega
theorem cpL_out {a b j : Nat} {σ : bSt} (h : j < a ∨ a + 9 ≤ j) : cpL a b σ j = σ j := by
  unfold cpL
  rw [b_set_n (by omega), blk_out (by omega), blk_out (by omega), blk_out (by omega)]
theorem cpA_keep {σ : bSt} {D : bD} (h : RD σ 10 1 19 D) : RD (cpA 22 1 31 10 40 19 σ) 31 22 40 D := by
  refine h.mv (fun i hi => ?_) (fun i hi h4 => ?_) (fun i hi => ?_)
  · unfold cpA
    rw [blk_out (by omega), blk_in (by omega) (by omega), cpL_out (by omega)]
    congr 1
    omega
  · unfold cpA
    rw [blk_out (by omega), blk_out (by omega), cpL_in hi h4 (by decide)]
  · unfold cpA
    rw [blk_in (by omega) (by omega), blk_out (by omega), cpL_out (by omega)]
    congr 1
    omega
theorem cpA_back {σ : bSt} {D : bD} (h : RD σ 31 22 40 D) : RD (cpA 1 22 10 31 19 40 σ) 10 1 19 D := by
  refine h.mv (fun i hi => ?_) (fun i hi h4 => ?_) (fun i hi => ?_)
  · unfold cpA
    rw [blk_out (by omega), blk_in (by omega) (by omega), cpL_out (by omega)]
    congr 1
    omega
  · unfold cpA
    rw [blk_out (by omega), blk_out (by omega), cpL_in hi h4 (by decide)]
  · unfold cpA
    rw [blk_in (by omega) (by omega), blk_out (by omega), cpL_out (by omega)]
    congr 1
    omega
theorem cpA_out1 {σ : bSt} {j : Nat} (h : j < 22 ∨ 43 ≤ j) : cpA 22 1 31 10 40 19 σ j = σ j := by
  unfold cpA
  rw [blk_out (by omega), blk_out (by omega), cpL_out (by omega)]
theorem cpA_out2 {σ : bSt} {j : Nat} (h : j < 1 ∨ 22 ≤ j) : cpA 1 22 10 31 19 40 σ j = σ j := by
  unfold cpA
  rw [blk_out (by omega), blk_out (by omega), cpL_out (by omega)]
theorem RC.image {σ : bSt} {A : bA} (h : RC σ A) : RC (b_up (cpA 22 1 31 10 40 19 σ) 0 6 (σ 0 6 + 1)) (oImage A).2 := by
  have ho : ∀ j, j ≠ 0 → (j < 22 ∨ 43 ≤ j) → b_up (cpA 22 1 31 10 40 19 σ) 0 6 (σ 0 6 + 1) j = σ j := fun j a b => by rw [b_up_n a, cpA_out1 b]
  have hk := cpA_keep h.1
  obtain ⟨h1, h2, h3, h4, h5, h6, h7, h8⟩ := h
  refine ⟨h1.at ⟨fun j a b => ho j (by omega) (by omega), fun j a b c => ho j (by omega) (by omega), fun j a b => ho j (by omega) (by omega)⟩, cacheOK_at h2 (fun j a b _ _ => ho j (by omega) (by omega)), ?_, fun _ => hk.at ⟨fun j a b => b_up_n (by omega), fun j a b c => b_up_n (by omega), fun j a b => b_up_n (by omega)⟩,
    by rw [ho 54 (by omega) (by omega)]; exact h5, by rw [ho 52 (by omega) (by omega), ho 53 (by omega) (by omega)]; exact h6, h7.at (fun j a b => ho j (by omega) (by omega)), h8.at (fun j a b => ho j (by omega) (by omega))⟩
  rw [b_up_s, upd_s, h3]
  rfl
theorem cacheOK_new {σ : bSt} {L : Nat} (h : ∀ k, σ (L + 8) k = -1) : cacheOK σ L := fun _ _ _ _ _ _ _ => Or.inl (h _)
theorem RC.restore {σ : bSt} {A : bA} (h : RC σ A) (hz : ¬ A.2.2.1 = 0) : RC (cpA 1 22 10 31 19 40 σ) (A.2.1, A.2) := by
  have ho : ∀ j, (j < 1 ∨ 22 ≤ j) → cpA 1 22 10 31 19 40 σ j = σ j := fun j b => cpA_out2 b
  obtain ⟨h1, h2, h3, h4, h5, h6, h7, h8⟩ := h
  have hk := cpA_back (h4 hz)
  refine ⟨hk, cacheOK_new (fun k => ?_), by rw [ho 0 (by omega)]; exact h3, fun z => (h4 z).at ⟨fun j a b => ho j (by omega), fun j a b c => ho j (by omega), fun j a b => ho j (by omega)⟩,
    by rw [ho 54 (by omega)]; exact h5, by rw [ho 52 (by omega), ho 53 (by omega)]; exact h6, h7.at (fun j a b => ho j (by omega)), h8.at (fun j a b => ho j (by omega))⟩
  unfold cpA
  rw [blk_out (by omega), blk_out (by omega)]
  unfold cpL
  rw [b_set_s]

set_option maxHeartbeats 4000000 in
set_option maxRecDepth 100000 in
theorem c_X9_image {w : bw} {σ : bSt} {A : bA} (hs : sOpera w) (hR : RC σ A) : MV yX9_image cX9_image 1 (some .int) (rmm 3 82) w [.ref (b_ad w 0)] σ (pA (oImage A)) := by
  refine b_met (ls := [(0, .ref (b_ad w 0))]) (by decide) (Nat.le_of_ble_eq_true rfl) rfl (fun x h => ?_)
  refine v_aload_n h (i := 0) dX9_image_0 (q := 1) rfl rfl 0 rfl ?_
  refine v_get h (k := 3) (v := .ref (b_ad w 22)) cls9 hs.1.1 hs.1.2 (Nat.le_of_ble_eq_true rfl) m268 rfl dX9_image_1 (q := 4) rfl ?_
  refine v_aload_n h (i := 0) dX9_image_4 (q := 5) rfl rfl 0 rfl ?_
  refine v_get h (k := 0) (v := .ref (b_ad w 1)) cls9 hs.1.1 hs.1.2 (Nat.le_of_ble_eq_true rfl) m265 rfl dX9_image_5 (q := 8) rfl ?_
  refine v_callV h (As := [.ref (b_ad w 1)]) (rest := []) (c_X3_copy (me := 22) (o := 1) (σ := σ) hs.2.2.2.2.1 hs.2.1 (by omega)) cal_X3_copy calV_X3_copy m800 ⟨rfl, rfl, Nat.le_of_ble_eq_true rfl, Nat.le_of_ble_eq_true rfl⟩ rfl hs.2.2.2.2.1.1.1 hs.2.2.2.2.1.1.2 ⟨_, _, rfl⟩ rfl (Nat.le_of_ble_eq_true rfl) dX9_image_8 (q := 11) rfl (kU ?_)
  refine v_aload_n h (i := 0) dX9_image_11 (q := 12) rfl rfl 0 rfl ?_
  refine v_get h (k := 4) (v := .ref (b_ad w 31)) cls9 hs.1.1 hs.1.2 (Nat.le_of_ble_eq_true rfl) m269 rfl dX9_image_12 (q := 15) rfl ?_
  refine v_aload_n h (i := 0) dX9_image_15 (q := 16) rfl rfl 0 rfl ?_
  refine v_get h (k := 1) (v := .ref (b_ad w 10)) cls9 hs.1.1 hs.1.2 (Nat.le_of_ble_eq_true rfl) m266 rfl dX9_image_16 (q := 19) rfl ?_
  refine v_callV h (As := [.ref (b_ad w 10)]) (rest := []) (c_X6_copy (me := 31) (o := 10) (σ := b_set (blk (blk (blk σ 22 1 2) (22 + 2) (1 + 2) 2) (22 + 5) (1 + 5) 2) (22 + 8) (fun _ => -1)) hs.2.2.2.2.2.1 hs.2.2.1 (by omega)) cal_X6_copy calV_X6_copy m624 ⟨rfl, rfl, Nat.le_of_ble_eq_true rfl, Nat.le_of_ble_eq_true rfl⟩ rfl hs.2.2.2.2.2.1.1.1 hs.2.2.2.2.2.1.1.2 ⟨_, _, rfl⟩ rfl (Nat.le_of_ble_eq_true rfl) dX9_image_19 (q := 22) rfl (kU ?_)
  refine v_aload_n h (i := 0) dX9_image_22 (q := 23) rfl rfl 0 rfl ?_
  refine v_get h (k := 5) (v := .ref (b_ad w 40)) cls9 hs.1.1 hs.1.2 (Nat.le_of_ble_eq_true rfl) m270 rfl dX9_image_23 (q := 26) rfl ?_
  refine v_aload_n h (i := 0) dX9_image_26 (q := 27) rfl rfl 0 rfl ?_
  refine v_get h (k := 2) (v := .ref (b_ad w 19)) cls9 hs.1.1 hs.1.2 (Nat.le_of_ble_eq_true rfl) m267 rfl dX9_image_27 (q := 30) rfl ?_
  refine v_callV h (As := [.ref (b_ad w 19)]) (rest := []) (c_X1_copy (me := 40) (o := 19) (σ := blk (b_set (blk (blk (blk σ 22 1 2) (22 + 2) (1 + 2) 2) (22 + 5) (1 + 5) 2) (22 + 8) (fun _ => -1)) 31 10 9) hs.2.2.2.2.2.2.1 hs.2.2.2.1 (by omega)) cal_X1_copy calV_X1_copy m805 ⟨rfl, rfl, Nat.le_of_ble_eq_true rfl, Nat.le_of_ble_eq_true rfl⟩ rfl hs.2.2.2.2.2.2.1.1.1 hs.2.2.2.2.2.2.1.1.2 ⟨_, _, rfl⟩ rfl (Nat.le_of_ble_eq_true rfl) dX9_image_30 (q := 33) rfl (kU ?_)
  rw [show (blk (blk (b_set (blk (blk (blk σ 22 1 2) (22 + 2) (1 + 2) 2) (22 + 5) (1 + 5) 2) (22 + 8) (fun _ => -1)) 31 10 9) 40 19 3 : bSt) = cpA 22 1 31 10 40 19 σ from rfl]
  refine v_aload_n h (i := 0) dX9_image_33 (q := 34) rfl rfl 0 rfl ?_
  refine v_dup h dX9_image_34 (q := 35) rfl rfl ?_
  refine v_get h (k := 6) (v := .int ((cpA 22 1 31 10 40 19 σ) 0 6)) cls9 hs.1.1 hs.1.2 (Nat.le_of_ble_eq_true rfl) m271 rfl dX9_image_35 (q := 38) rfl ?_
  rw [show ((cpA 22 1 31 10 40 19 σ) 0 6 : Int32) = σ 0 6 from (by rw [cpA_out1 (by omega)])]
  refine v_iconst h (v := 1) dX9_image_38 (q := 39) rfl (by decide) ?_
  refine v_iadd h dX9_image_39 (q := 40) rfl ?_
  refine v_put h (k := 6) cls9 hs.1.1 hs.1.2 (Nat.le_of_ble_eq_true rfl) rfl m271 rfl ⟨rfl, rfl⟩ dX9_image_40 (q := 43) rfl ?_
  refine v_aload_n h (i := 0) dX9_image_43 (q := 44) rfl rfl 0 rfl ?_
  refine v_get h (k := 6) (v := .int ((b_up (cpA 22 1 31 10 40 19 σ) 0 6 ((σ 0 6) + 1)) 0 6)) cls9 hs.1.1 hs.1.2 (Nat.le_of_ble_eq_true rfl) m271 rfl dX9_image_44 (q := 47) rfl ?_
  rw [show ((b_up (cpA 22 1 31 10 40 19 σ) 0 6 ((σ 0 6) + 1)) 0 6 : Int32) = σ 0 6 + 1 from (by rw [b_up_s, upd_s])]
  exact v_iret h dX9_image_47 (pA_of (by unfold oImage; rw [show A.2.2.1 = σ 0 6 from hR.2.2.1.symm]) (by have := hR.image; unfold oImage at this; rw [show A.2.2.1 = σ 0 6 from hR.2.2.1.symm] at this; exact this))

set_option maxHeartbeats 4000000 in
set_option maxRecDepth 100000 in
theorem c_X9_restore {w : bw} {σ : bSt} {A : bA} (hs : sOpera w) (hR : RC σ A) : MV yX9_restore cX9_restore 1 (some .int) (rmm 3 82) w [.ref (b_ad w 0)] σ (pA (oRestore A)) := by
  refine b_met (ls := [(0, .ref (b_ad w 0))]) (by decide) (Nat.le_of_ble_eq_true rfl) rfl (fun x h => ?_)
  refine v_aload_n h (i := 0) dX9_restore_0 (q := 1) rfl rfl 0 rfl ?_
  refine v_get h (k := 6) (v := .int (σ 0 6)) cls9 hs.1.1 hs.1.2 (Nat.le_of_ble_eq_true rfl) m271 rfl dX9_restore_1 (q := 4) rfl ?_
  rw [show (σ 0 6 : Int32) = A.2.2.1 from hR.2.2.1]
  refine v_if_ne h (t := 13) dX9_restore_4 (by decide) (q := 7) rfl (fun c4 => ?_) (fun c4 => ?_)
  · refine v_aload_n h (i := 0) dX9_restore_13 (q := 14) rfl rfl 0 rfl ?_
    refine v_get h (k := 0) (v := .ref (b_ad w 1)) cls9 hs.1.1 hs.1.2 (Nat.le_of_ble_eq_true rfl) m265 rfl dX9_restore_14 (q := 17) rfl ?_
    refine v_aload_n h (i := 0) dX9_restore_17 (q := 18) rfl rfl 0 rfl ?_
    refine v_get h (k := 3) (v := .ref (b_ad w 22)) cls9 hs.1.1 hs.1.2 (Nat.le_of_ble_eq_true rfl) m268 rfl dX9_restore_18 (q := 21) rfl ?_
    refine v_callV h (As := [.ref (b_ad w 22)]) (rest := []) (c_X3_copy (me := 1) (o := 22) (σ := σ) hs.2.1 hs.2.2.2.2.1 (by omega)) cal_X3_copy calV_X3_copy m800 ⟨rfl, rfl, Nat.le_of_ble_eq_true rfl, Nat.le_of_ble_eq_true rfl⟩ rfl hs.2.1.1.1 hs.2.1.1.2 ⟨_, _, rfl⟩ rfl (Nat.le_of_ble_eq_true rfl) dX9_restore_21 (q := 24) rfl (kU ?_)
    refine v_aload_n h (i := 0) dX9_restore_24 (q := 25) rfl rfl 0 rfl ?_
    refine v_get h (k := 1) (v := .ref (b_ad w 10)) cls9 hs.1.1 hs.1.2 (Nat.le_of_ble_eq_true rfl) m266 rfl dX9_restore_25 (q := 28) rfl ?_
    refine v_aload_n h (i := 0) dX9_restore_28 (q := 29) rfl rfl 0 rfl ?_
    refine v_get h (k := 4) (v := .ref (b_ad w 31)) cls9 hs.1.1 hs.1.2 (Nat.le_of_ble_eq_true rfl) m269 rfl dX9_restore_29 (q := 32) rfl ?_
    refine v_callV h (As := [.ref (b_ad w 31)]) (rest := []) (c_X6_copy (me := 10) (o := 31) (σ := b_set (blk (blk (blk σ 1 22 2) (1 + 2) (22 + 2) 2) (1 + 5) (22 + 5) 2) (1 + 8) (fun _ => -1)) hs.2.2.1 hs.2.2.2.2.2.1 (by omega)) cal_X6_copy calV_X6_copy m624 ⟨rfl, rfl, Nat.le_of_ble_eq_true rfl, Nat.le_of_ble_eq_true rfl⟩ rfl hs.2.2.1.1.1 hs.2.2.1.1.2 ⟨_, _, rfl⟩ rfl (Nat.le_of_ble_eq_true rfl) dX9_restore_32 (q := 35) rfl (kU ?_)
    refine v_aload_n h (i := 0) dX9_restore_35 (q := 36) rfl rfl 0 rfl ?_
    refine v_get h (k := 2) (v := .ref (b_ad w 19)) cls9 hs.1.1 hs.1.2 (Nat.le_of_ble_eq_true rfl) m267 rfl dX9_restore_36 (q := 39) rfl ?_
    refine v_aload_n h (i := 0) dX9_restore_39 (q := 40) rfl rfl 0 rfl ?_
    refine v_get h (k := 5) (v := .ref (b_ad w 40)) cls9 hs.1.1 hs.1.2 (Nat.le_of_ble_eq_true rfl) m270 rfl dX9_restore_40 (q := 43) rfl ?_
    refine v_callV h (As := [.ref (b_ad w 40)]) (rest := []) (c_X1_copy (me := 19) (o := 40) (σ := blk (b_set (blk (blk (blk σ 1 22 2) (1 + 2) (22 + 2) 2) (1 + 5) (22 + 5) 2) (1 + 8) (fun _ => -1)) 10 31 9) hs.2.2.2.1 hs.2.2.2.2.2.2.1 (by omega)) cal_X1_copy calV_X1_copy m805 ⟨rfl, rfl, Nat.le_of_ble_eq_true rfl, Nat.le_of_ble_eq_true rfl⟩ rfl hs.2.2.2.1.1.1 hs.2.2.2.1.1.2 ⟨_, _, rfl⟩ rfl (Nat.le_of_ble_eq_true rfl) dX9_restore_43 (q := 46) rfl (kU ?_)
    rw [show (blk (blk (b_set (blk (blk (blk σ 1 22 2) (1 + 2) (22 + 2) 2) (1 + 5) (22 + 5) 2) (1 + 8) (fun _ => -1)) 10 31 9) 19 40 3 : bSt) = cpA 1 22 10 31 19 40 σ from rfl]
    refine v_aload_n h (i := 0) dX9_restore_46 (q := 47) rfl rfl 0 rfl ?_
    refine v_get h (k := 1) (v := .ref (b_ad w 10)) cls9 hs.1.1 hs.1.2 (Nat.le_of_ble_eq_true rfl) m266 rfl dX9_restore_47 (q := 50) rfl ?_
    refine v_getN h (k := 0) (v := .int ((cpA 1 22 10 31 19 40 σ) 10 0)) cls6 hs.2.2.1.1.1 hs.2.2.1.1.2 (Nat.le_of_ble_eq_true rfl) m113 rfl dX9_restore_50 (q := 53) rfl ?_
    exact v_iret h dX9_restore_53 (pA_of (by unfold oRestore; rw [if_neg (by assumption), ← (hR.restore (by assumption)).vwE]; rfl) (hR.restore (by assumption)))
  · refine v_aload_n h (i := 0) dX9_restore_7 (q := 8) rfl rfl 0 rfl ?_
    refine v_iconst h (v := 2) dX9_restore_8 (q := 9) rfl (by decide) ?_
    refine v_callV h (As := [.int 2]) (rest := []) (c_ref (σ := σ) hs (e := 2) (by decide) rfl) cal_X9_refuse calV_X9_refuse m315 ⟨rfl, rfl, Nat.le_of_ble_eq_true rfl, Nat.le_of_ble_eq_true rfl⟩ rfl hs.1.1 hs.1.2 ⟨_, _, rfl⟩ rfl (Nat.le_of_ble_eq_true rfl) dX9_restore_9 (q := 12) rfl (kI ?_)
    exact v_iret h dX9_restore_12 (pA_of (by unfold oRestore; rw [if_pos (by assumption)]; rfl) (hR.err (by decide)))

set_option maxHeartbeats 4000000 in
set_option maxRecDepth 100000 in
theorem lX9_thenListener_47 {w : bw} {σ : bSt} {A : bA} {n l what : Int32} (hs : sOpera w) (hR : RC σ A) {x : bX} (h : Cx x w cX9_thenListener RX9 5 (some .int) (rmm 6 155)) : ∀ k y : Nat, k ≤ 128 → y < liN A.1.1 → y < 6 → wj n 0 128 ∧ inN l (liN A.1.1) ∧ wj what 0 3 → n = nI k → l = nI y → ∀ m i : Nat, i + m = k → ∀ τ : bSt, gon false 60 (blk σ 60 10 9) A.1.1 (gvT A.1.2.1) i τ → V x w 5 (pA (oThenL n l what A)) 47 [(4, .int (nI i)), (0, .ref (b_ad w 0)), (1, .int (nI k)), (2, .int (nI y)), (3, .int what)] [] τ := by
  intro k y hk hy hy6 hcond hnk hly
  have hbt := hR.1.2.1.bt
  refine b_ind (fun m ih => ?_)
  intro i him τ hg
  have hiv := IvN_go (lo := false) (gvT_B A.1.2.1) hR.1.2.1.1 hbt.1 i (by omega)
  have hgv : gvS τ 1 = gvT A.1.2.1 := gv_look hR hg.2.2
  refine v_iload h (i := 4) dX9_thenListener_47 (q := 49) rfl 0 rfl ?_
  refine v_iload_n h (i := 1) dX9_thenListener_49 (q := 50) rfl rfl 2 rfl ?_
  refine v_icmp_ge h (t := 71) dX9_thenListener_50 (by decide) (q := 53) rfl (fun c50 => ?_) (fun c50 => ?_)
  · have hik : i = k := by have := nge (k := k) (nI_toInt (by omega)) (by omega) c50; omega
    subst hik
    have hle : y < liN (vw τ 60 1) := by rw [hg.1]; unfold liN at hy ⊢; rw [liN_go]; exact hy
    refine v_aload_n h (i := 0) dX9_thenListener_71 (q := 72) rfl rfl 1 rfl ?_
    refine v_get h (k := 11) (v := .ref (b_ad w 60)) cls9 hs.1.1 hs.1.2 (Nat.le_of_ble_eq_true rfl) m276 rfl dX9_thenListener_72 (q := 75) rfl ?_
    refine v_aload_n h (i := 0) dX9_thenListener_75 (q := 76) rfl rfl 1 rfl ?_
    refine v_get h (k := 0) (v := .ref (b_ad w 1)) cls9 hs.1.1 hs.1.2 (Nat.le_of_ble_eq_true rfl) m265 rfl dX9_thenListener_76 (q := 79) rfl ?_
    refine v_iload_n h (i := 2) dX9_thenListener_79 (q := 80) rfl rfl 3 rfl ?_
    refine v_iload_n h (i := 3) dX9_thenListener_80 (q := 81) rfl rfl 4 rfl ?_
    refine v_callV h (As := [.ref (b_ad w 1), .int (nI y), .int what]) (rest := []) (c_X6_tellOf (me := 60) (L := 1) (l := y) (what := what) (σ := τ) hs.2.2.2.2.2.2.2.2.2.2.2.2.1 hs.2.1 (ok_look hR hg.2.2) hg.2.1 (by rw [hg.1]; exact hiv.1) (by decide) hle) cal_X6_tellOf calV_X6_tellOf m434 ⟨rfl, rfl, Nat.le_of_ble_eq_true rfl, Nat.le_of_ble_eq_true rfl⟩ rfl hs.2.2.2.2.2.2.2.2.2.2.2.2.1.1.1 hs.2.2.2.2.2.2.2.2.2.2.2.2.1.1.2 ⟨_, _, rfl⟩ rfl (Nat.le_of_ble_eq_true rfl) dX9_thenListener_81 (q := 84) rfl (kR (fun r81 σ81 h81 => ?_))
    exact v_iret h dX9_thenListener_84 (pA_of (by subst hnk hly; unfold oThenL; rw [if_pos hcond, cl_nI (by omega), cl_nI (by omega), h81.1, tel_vw hy6 hcond.2.2, hgv, hg.1]) (hR.look hg.2.2 h81.2.1 h81.2.2))
  · have hik : i < k := nlt (nI_toInt (by omega)) (by omega) c50
    refine v_aload_n h (i := 0) dX9_thenListener_53 (q := 54) rfl rfl 1 rfl ?_
    refine v_get h (k := 11) (v := .ref (b_ad w 60)) cls9 hs.1.1 hs.1.2 (Nat.le_of_ble_eq_true rfl) m276 rfl dX9_thenListener_54 (q := 57) rfl ?_
    refine v_aload_n h (i := 0) dX9_thenListener_57 (q := 58) rfl rfl 1 rfl ?_
    refine v_get h (k := 0) (v := .ref (b_ad w 1)) cls9 hs.1.1 hs.1.2 (Nat.le_of_ble_eq_true rfl) m265 rfl dX9_thenListener_58 (q := 61) rfl ?_
    refine v_iconst h (v := 0) dX9_thenListener_61 (q := 62) rfl (by decide) ?_
    refine v_callV h (As := [.ref (b_ad w 1), .int 0]) (rest := []) (c_X6_goBy (me := 60) (L := 1) (lo := 0) (σ := τ) hs.2.2.2.2.2.2.2.2.2.2.2.2.1 hs.2.1 (ok_look hR hg.2.2) hg.2.1 (by rw [hg.1]; exact hiv.1) (by decide) ⟨btOf A.1.1 + i, by omega, by rw [← hiv.2, ← hg.1]; rfl⟩) cal_X6_goBy calV_X6_goBy m554 ⟨rfl, rfl, Nat.le_of_ble_eq_true rfl, Nat.le_of_ble_eq_true rfl⟩ rfl hs.2.2.2.2.2.2.2.2.2.2.2.2.1.1.1 hs.2.2.2.2.2.2.2.2.2.2.2.2.1.1.2 ⟨_, _, rfl⟩ rfl (Nat.le_of_ble_eq_true rfl) dX9_thenListener_62 (q := 65) rfl (kV (fun σ62 h62 => ?_))
    refine v_iinc h (p := 0) (u := nI (i + 1)) (ls1 := [(4, .int (nI (i + 1))), (0, .ref (b_ad w 0)), (1, .int (nI k)), (2, .int (nI y)), (3, .int what)]) dX9_thenListener_65 (q := 68) rfl rfl (nI_1 i) (Nat.le_of_ble_eq_true rfl) rfl ?_
    refine v_goto h (t := 47) dX9_thenListener_68 (by decide) ?_
    exact ih (m - 1) (by omega) (i + 1) (by omega) σ62 (gon_s hg (lv := 0) (by decide) hgv h62)
set_option maxHeartbeats 4000000 in
set_option maxRecDepth 100000 in
theorem c_X9_thenListener {w : bw} {σ : bSt} {A : bA} {n l what : Int32} (hs : sOpera w) (hR : RC σ A) : MV yX9_thenListener cX9_thenListener 5 (some .int) (rmm 6 155) w [.ref (b_ad w 0), .int n, .int l, .int what] σ (pA (oThenL n l what A)) := by
  refine b_met (ls := [(0, .ref (b_ad w 0)), (1, .int n), (2, .int l), (3, .int what)]) (by decide) (Nat.le_of_ble_eq_true rfl) rfl (fun x h => ?_)
  refine v_iload_n h (i := 1) dX9_thenListener_0 (q := 1) rfl rfl 1 rfl ?_
  refine v_callS h (As := [.int n]) (rest := []) (c_X9_isAhead (v := n)) cal_X9_isAhead m594 m593 ⟨rfl, rfl, Nat.le_of_ble_eq_true rfl, Nat.le_of_ble_eq_true rfl⟩ rfl rfl (Nat.le_of_ble_eq_true rfl) dX9_thenListener_1 (q := 4) rfl (kB (fun c1 => ?_) (fun c1 => ?_))
  · refine v_if_eq h (t := 27) dX9_thenListener_4 (by decide) (q := 7) rfl (fun c => absurd c (by decide)) (fun _ => ?_)
    refine v_aload_n h (i := 0) dX9_thenListener_7 (q := 8) rfl rfl 0 rfl ?_
    refine v_get h (k := 1) (v := .ref (b_ad w 10)) cls9 hs.1.1 hs.1.2 (Nat.le_of_ble_eq_true rfl) m266 rfl dX9_thenListener_8 (q := 11) rfl ?_
    refine v_iload_n h (i := 2) dX9_thenListener_11 (q := 12) rfl rfl 2 rfl ?_
    refine v_callV h (As := [.int l]) (rest := []) (c_X6_seats (me := 10) (σ := σ) (l := l) hs.2.2.1 ) cal_X6_seats calV_X6_seats m430 ⟨rfl, rfl, Nat.le_of_ble_eq_true rfl, Nat.le_of_ble_eq_true rfl⟩ rfl hs.2.2.1.1.1 hs.2.2.1.1.2 ⟨_, _, rfl⟩ rfl (Nat.le_of_ble_eq_true rfl) dX9_thenListener_12 (q := 15) rfl (kB (fun c12 => ?_) (fun c12 => ?_))
    · refine v_if_eq h (t := 27) dX9_thenListener_15 (by decide) (q := 18) rfl (fun c => absurd c (by decide)) (fun _ => ?_)
      refine v_iload_n h (i := 3) dX9_thenListener_18 (q := 19) rfl rfl 3 rfl ?_
      refine v_iconst h (v := 0) dX9_thenListener_19 (q := 20) rfl (by decide) ?_
      refine v_iconst h (v := 3) dX9_thenListener_20 (q := 21) rfl (by decide) ?_
      refine v_callS h (As := [.int what, .int 0, .int 3]) (rest := []) (c_X9_within (v := what) (l := 0) (m := 3)) cal_X9_within m313 m312 ⟨rfl, rfl, Nat.le_of_ble_eq_true rfl, Nat.le_of_ble_eq_true rfl⟩ rfl rfl (Nat.le_of_ble_eq_true rfl) dX9_thenListener_21 (q := 24) rfl (kB (fun c21 => ?_) (fun c21 => ?_))
      · refine v_if_ne h (t := 33) dX9_thenListener_24 (by decide) (q := 27) rfl (fun _ => ?_) (fun c => absurd c (by decide))
        obtain ⟨y, hy, rfl⟩ := inN_nI ((seat_iff hR).mp c12)
        obtain ⟨k, hk, rfl⟩ := wi_0 (n := 128) c1 rfl
        have hy6 : y < 6 := by have := hR.li.2; omega
        refine v_aload_n h (i := 0) dX9_thenListener_33 (q := 34) rfl rfl 0 rfl ?_
        refine v_get h (k := 11) (v := .ref (b_ad w 60)) cls9 hs.1.1 hs.1.2 (Nat.le_of_ble_eq_true rfl) m276 rfl dX9_thenListener_34 (q := 37) rfl ?_
        refine v_aload_n h (i := 0) dX9_thenListener_37 (q := 38) rfl rfl 0 rfl ?_
        refine v_get h (k := 1) (v := .ref (b_ad w 10)) cls9 hs.1.1 hs.1.2 (Nat.le_of_ble_eq_true rfl) m266 rfl dX9_thenListener_38 (q := 41) rfl ?_
        refine v_callV h (As := [.ref (b_ad w 10)]) (rest := []) (c_X6_copy (me := 60) (o := 10) (σ := σ) hs.2.2.2.2.2.2.2.2.2.2.2.2.1 hs.2.2.1 (by omega)) cal_X6_copy calV_X6_copy m624 ⟨rfl, rfl, Nat.le_of_ble_eq_true rfl, Nat.le_of_ble_eq_true rfl⟩ rfl hs.2.2.2.2.2.2.2.2.2.2.2.2.1.1.1 hs.2.2.2.2.2.2.2.2.2.2.2.2.1.1.2 ⟨_, _, rfl⟩ rfl (Nat.le_of_ble_eq_true rfl) dX9_thenListener_41 (q := 44) rfl (kU ?_)
        refine v_iconst h (v := 0) dX9_thenListener_44 (q := 45) rfl (by decide) ?_
        refine v_istore h (i := 4) (ls1 := [(4, .int 0), (0, .ref (b_ad w 0)), (1, .int (nI k)), (2, .int (nI y)), (3, .int what)]) dX9_thenListener_45 (q := 47) rfl (Nat.le_of_ble_eq_true rfl) rfl ?_
        exact lX9_thenListener_47 hs hR h k y hk hy hy6 ⟨c1, (seat_iff hR).mp c12, c21⟩ rfl rfl k 0 (by omega) _ ⟨by rw [vw_ahead]; exact hR.vwE, ca_blk hR.ca, offS_rfl⟩
      · refine v_if_ne h (t := 33) dX9_thenListener_24 (by decide) (q := 27) rfl (fun c => absurd (by decide) c) (fun _ => ?_)
        refine v_aload_n h (i := 0) dX9_thenListener_27 (q := 28) rfl rfl 0 rfl ?_
        refine v_iconst h (v := 1) dX9_thenListener_28 (q := 29) rfl (by decide) ?_
        refine v_callV h (As := [.int 1]) (rest := []) (c_ref (σ := σ) hs (e := 1) (by decide) rfl) cal_X9_refuse calV_X9_refuse m315 ⟨rfl, rfl, Nat.le_of_ble_eq_true rfl, Nat.le_of_ble_eq_true rfl⟩ rfl hs.1.1 hs.1.2 ⟨_, _, rfl⟩ rfl (Nat.le_of_ble_eq_true rfl) dX9_thenListener_29 (q := 32) rfl (kI ?_)
        exact v_iret h dX9_thenListener_32 (pA_of (by unfold oThenL; rw [if_neg (fun z => by first | exact c1 z.1 | exact c12 ((seat_iff hR).mpr z.2.1) | exact c21 z.2.2)]; rfl) (hR.err (by decide)))
    · refine v_if_eq h (t := 27) dX9_thenListener_15 (by decide) (q := 18) rfl (fun _ => ?_) (fun c => absurd (by decide) c)
      refine v_aload_n h (i := 0) dX9_thenListener_27 (q := 28) rfl rfl 0 rfl ?_
      refine v_iconst h (v := 1) dX9_thenListener_28 (q := 29) rfl (by decide) ?_
      refine v_callV h (As := [.int 1]) (rest := []) (c_ref (σ := σ) hs (e := 1) (by decide) rfl) cal_X9_refuse calV_X9_refuse m315 ⟨rfl, rfl, Nat.le_of_ble_eq_true rfl, Nat.le_of_ble_eq_true rfl⟩ rfl hs.1.1 hs.1.2 ⟨_, _, rfl⟩ rfl (Nat.le_of_ble_eq_true rfl) dX9_thenListener_29 (q := 32) rfl (kI ?_)
      exact v_iret h dX9_thenListener_32 (pA_of (by unfold oThenL; rw [if_neg (fun z => by first | exact c1 z.1 | exact c12 ((seat_iff hR).mpr z.2.1) | exact c21 z.2.2)]; rfl) (hR.err (by decide)))
  · refine v_if_eq h (t := 27) dX9_thenListener_4 (by decide) (q := 7) rfl (fun _ => ?_) (fun c => absurd (by decide) c)
    refine v_aload_n h (i := 0) dX9_thenListener_27 (q := 28) rfl rfl 0 rfl ?_
    refine v_iconst h (v := 1) dX9_thenListener_28 (q := 29) rfl (by decide) ?_
    refine v_callV h (As := [.int 1]) (rest := []) (c_ref (σ := σ) hs (e := 1) (by decide) rfl) cal_X9_refuse calV_X9_refuse m315 ⟨rfl, rfl, Nat.le_of_ble_eq_true rfl, Nat.le_of_ble_eq_true rfl⟩ rfl hs.1.1 hs.1.2 ⟨_, _, rfl⟩ rfl (Nat.le_of_ble_eq_true rfl) dX9_thenListener_29 (q := 32) rfl (kI ?_)
    exact v_iret h dX9_thenListener_32 (pA_of (by unfold oThenL; rw [if_neg (fun z => by first | exact c1 z.1 | exact c12 ((seat_iff hR).mpr z.2.1) | exact c21 z.2.2)]; rfl) (hR.err (by decide)))
