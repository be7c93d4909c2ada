def qe (q r : bQ) : Prop := q.1 = r.1 ∧ ∀ k, k < 40 → q.2 k = r.2 k
theorem qe.push {q r : bQ} {b : Int32} (h : qe q r) : qe (pushT b q) (pushT b r) := by
  obtain ⟨h1, h2⟩ := h
  unfold pushT
  rw [h1]
  by_cases c : r.1 < 40
  · rw [if_pos c, if_pos c]
    refine ⟨rfl, fun k hk => ?_⟩
    show upd _ _ _ k = upd _ _ _ k
    unfold upd
    by_cases e : k = r.1
    · rw [if_pos e, if_pos e]
    · rw [if_neg e, if_neg e]
      exact h2 k hk
  · rw [if_neg c, if_neg c]
    exact ⟨h1, h2⟩
theorem vE_qe (K : Nat) (n m : Int32) : ∀ (f body : Nat) (x : Int32) (q r : bQ), qe q r → (vE K n m f body x q).1 = (vE K n m f body x r).1 ∧ qe (vE K n m f body x q).2 (vE K n m f body x r).2
  | 0, _, _, _, _, h => ⟨rfl, h⟩
  | f + 1, body, x, q, r, h => by
    have ih := vE_qe K n m f
    rw [vE, vE]
    by_cases c10 : body = 10
    · simp only [if_pos c10]
      exact ⟨by trivial, h.push⟩
    simp only [if_neg c10]
    by_cases c11 : body = 11
    · simp only [if_pos c11]
      have h1 := ih (bdN K 0) x (pushT 11 q) (pushT 11 r) h.push
      exact ⟨by rw [h1.1], h1.2⟩
    simp only [if_neg c11]
    by_cases c12 : body = 12
    · simp only [if_pos c12]
      exact ⟨by trivial, h.push⟩
    simp only [if_neg c12]
    by_cases c13 : body = 13
    · simp only [if_pos c13]
      have h1 := ih (bdN K 1) x (pushT 13 q) (pushT 13 r) h.push
      have h2 := ih (bdN K 2) x _ _ h1.2
      exact ⟨by rw [h1.1, h2.1], h2.2⟩
    simp only [if_neg c13]
    by_cases c20 : body = 20
    · simp only [if_pos c20]
      have h1 := ih (bdN 0 1) x (pushT 20 q) (pushT 20 r) h.push
      have h2 := ih (bdN K 2) 1 _ _ h1.2
      exact ⟨by rw [h1.1, h2.1], h2.2⟩
    simp only [if_neg c20]
    by_cases c30 : body = 30
    · simp only [if_pos c30]
      have h1 := ih (bdN 0 0) x (pushT 30 q) (pushT 30 r) h.push
      exact ⟨by rw [h1.1], h1.2⟩
    simp only [if_neg c30]
    by_cases c40 : body = 40
    · simp only [if_pos c40]
      have h1 := ih (bdN 0 2) x (pushT 40 q) (pushT 40 r) h.push
      exact ⟨by rw [h1.1], h1.2⟩
    simp only [if_neg c40]
    by_cases c50 : body = 50
    · simp only [if_pos c50]
      have h1 := ih (bdN 1 1) (x + 1) (pushT 50 q) (pushT 50 r) h.push
      exact h1
    simp only [if_neg c50]
    by_cases c60 : body = 60
    · simp only [if_pos c60]
      have h1 := ih (bdN 2 3) x (pushT 60 q) (pushT 60 r) h.push
      have h2 := ih (bdN K 0) 2 _ _ h1.2
      exact ⟨by rw [h1.1, h2.1], h2.2⟩
    simp only [if_neg c60]
    by_cases c70 : body = 70
    · simp only [if_pos c70]
      have h1 := ih (bdN 3 2) x (pushT 70 q) (pushT 70 r) h.push
      exact ⟨by rw [h1.1], h1.2⟩
    simp only [if_neg c70]
    have h1 := ih (bdN K 1) x (pushT 71 q) (pushT 71 r) h.push
    have h2 := ih (bdN 3 3) x _ _ h1.2
    exact ⟨by rw [h1.1, h2.1], h2.2⟩
theorem RC.voice {σ : bSt} {A : bA} {K a : Nat} {n m v : Int32} (h : RC σ A) (x y z : Int32) : RC (VS (b_up (b_up (b_up σ 52 2 x) 52 3 y) 52 4 z) 52 (vE K n m 8 a v (0, σ 53)).2) (A.1, A.2.1, A.2.2.1, A.2.2.2.1, (vE K n m 8 a v (0, A.2.2.2.2.1.2)).2, A.2.2.2.2.2) := by
  have hq := vE_qe K n m 8 a v (0, σ 53) (0, A.2.2.2.2.1.2) ⟨rfl, fun k hk => h.tr.2.2 k hk⟩
  have hle := vE_le K n m 8 a v (0, A.2.2.2.2.1.2) (Nat.zero_le _)
  have ho : ∀ j, j ≠ 52 → j ≠ 53 → VS (b_up (b_up (b_up σ 52 2 x) 52 3 y) 52 4 z) 52 (vE K n m 8 a v (0, σ 53)).2 j = σ j := fun j e1 e2 => by
    unfold VS
    rw [b_up_n e1, b_set_n e2, b_up_n e1, b_up_n e1, b_up_n e1]
  obtain ⟨g1, g2, g3, g4, g5, g6, g7, g8⟩ := h
  refine ⟨g1.at ⟨fun j a b => ho j (by omega) (by omega), fun j a b c => ho j (by omega) (by omega), fun j a b => ho j (by omega) (by omega)⟩, cacheOK_at g2 (fun j a b _ _ => ho j (by omega) (by omega)), by rw [ho 0 (by omega) (by omega)]; exact g3,
    fun z => (g4 z).at ⟨fun j a b => ho j (by omega) (by omega), fun j a b c => ho j (by omega) (by omega), fun j a b => ho j (by omega) (by omega)⟩, by rw [ho 54 (by omega) (by omega)]; exact g5, ⟨?_, hle, fun k hk => ?_⟩, g7.at (fun j a b => ho j (by omega) (by omega)), g8.at (fun j a b => ho j (by omega) (by omega))⟩
  · rw [VS_1, hq.2.1]
  · rw [← hq.2.2 k hk]
    unfold VS
    rw [b_up_n (by decide), b_set_s]
theorem RC.kd {σ : bSt} {A : bA} (h : RC σ A) {b : Nat} (hb : b < 9) : ∃ K, K < 7 ∧ A.1.1 (12 + 4 * b) = nI K := by
  obtain ⟨u, hu, e⟩ := (h.1.2.1.1.2.2.2.2.2.2.1 b hb).1
  exact ⟨u, by omega, e⟩
theorem voice_eq {σ : bSt} {A : bA} {K a : Nat} {n m v : Int32} (h : RC σ A) : (vE K n m 8 a v (0, σ 53)).1 = (vE K n m 8 a v (0, A.2.2.2.2.1.2)).1 := (vE_qe K n m 8 a v (0, σ 53) (0, A.2.2.2.2.1.2) ⟨rfl, fun k hk => h.tr.2.2 k hk⟩).1

set_option maxHeartbeats 4000000 in
set_option maxRecDepth 100000 in
theorem c_X9_voice {w : bw} {σ : bSt} {A : bA} {b act v : Int32} (hs : sOpera w) (hR : RC σ A) : MV yX9_voice cX9_voice 5 (some .int) (rmm 61 1225) w [.ref (b_ad w 0), .int b, .int act, .int v] σ (pA (oVoice b act v A)) := by
  refine b_met (ls := [(0, .ref (b_ad w 0)), (1, .int b), (2, .int act), (3, .int v)]) (by decide) (Nat.le_of_ble_eq_true rfl) rfl (fun x h => ?_)
  refine v_aload_n h (i := 0) dX9_voice_0 (q := 1) rfl rfl 0 rfl ?_
  refine v_get h (k := 1) (v := .ref (b_ad w 10)) cls9 hs.1.1 hs.1.2 (Nat.le_of_ble_eq_true rfl) m266 rfl dX9_voice_1 (q := 4) rfl ?_
  refine v_getN h (k := 3) (v := .ref (b_ad w 11)) cls6 hs.2.2.1.1.1 hs.2.2.1.1.2 (Nat.le_of_ble_eq_true rfl) m120 rfl dX9_voice_4 (q := 7) rfl ?_
  refine v_astore h (i := 4) (ls1 := [(4, .ref (b_ad w 11)), (0, .ref (b_ad w 0)), (1, .int b), (2, .int act), (3, .int v)]) dX9_voice_7 (q := 9) rfl (Nat.le_of_ble_eq_true rfl) rfl ?_
  refine v_aload h (i := 4) dX9_voice_9 (q := 11) rfl 0 rfl ?_
  refine v_iload_n h (i := 1) dX9_voice_11 (q := 12) rfl rfl 2 rfl ?_
  refine v_callV h (As := [.int b]) (rest := []) (c_X0_hold (me := 11) (σ := σ) (b := b) hs.2.2.1.2.1) cal_X0_hold calV_X0_hold m342 ⟨rfl, rfl, Nat.le_of_ble_eq_true rfl, Nat.le_of_ble_eq_true rfl⟩ rfl hs.2.2.1.2.1.1.1 hs.2.2.1.2.1.1.2 ⟨_, _, rfl⟩ rfl (Nat.le_of_ble_eq_true rfl) dX9_voice_12 (q := 15) rfl (kB (fun c12 => ?_) (fun c12 => ?_))
  · refine v_if_eq h (t := 27) dX9_voice_15 (by decide) (q := 18) rfl (fun c => absurd c (by decide)) (fun _ => ?_)
    refine v_iload_n h (i := 2) dX9_voice_18 (q := 19) rfl rfl 3 rfl ?_
    refine v_iconst h (v := 0) dX9_voice_19 (q := 20) rfl (by decide) ?_
    refine v_iconst h (v := 3) dX9_voice_20 (q := 21) rfl (by decide) ?_
    refine v_callS h (As := [.int act, .int 0, .int 3]) (rest := []) (c_X9_within (v := act) (l := 0) (m := 3)) cal_X9_within m313 m312 ⟨rfl, rfl, Nat.le_of_ble_eq_true rfl, Nat.le_of_ble_eq_true rfl⟩ rfl rfl (Nat.le_of_ble_eq_true rfl) dX9_voice_21 (q := 24) rfl (kB (fun c21 => ?_) (fun c21 => ?_))
    · refine v_if_ne h (t := 33) dX9_voice_24 (by decide) (q := 27) rfl (fun _ => ?_) (fun c => absurd c (by decide))
      obtain ⟨n, hn, rfl⟩ := inN_nI ((hold_iff hR).mp c12)
      have hb9 : n < 9 := by have := hR.af.2; omega
      obtain ⟨a, ha, rfl⟩ := wi_0 (n := 3) c21 rfl
      obtain ⟨K, hK, eK⟩ := hR.kd hb9
      refine v_aload_n h (i := 0) dX9_voice_33 (q := 34) rfl rfl 1 rfl ?_
      refine v_get h (k := 8) (v := .ref (b_ad w 52)) cls9 hs.1.1 hs.1.2 (Nat.le_of_ble_eq_true rfl) m273 rfl dX9_voice_34 (q := 37) rfl ?_
      refine v_iload_n h (i := 1) dX9_voice_37 (q := 38) rfl rfl 2 rfl ?_
      refine v_aload h (i := 4) dX9_voice_38 (q := 40) rfl 0 rfl ?_
      refine v_getN h (k := 1) (v := .ref (b_ad w 12)) cls0 hs.2.2.1.2.1.1.1 hs.2.2.1.2.1.1.2 (Nat.le_of_ble_eq_true rfl) m91 rfl dX9_voice_40 (q := 43) rfl ?_
      refine v_iload_n h (i := 1) dX9_voice_43 (q := 44) rfl rfl 2 rfl ?_
      refine v_iald h (k := n) hs.2.2.1.2.1.2.1.1 hs.2.2.1.2.1.2.1.2 (vp_in_nI hb9 (by decide)) (nI_clamp (by omega)) dX9_voice_44 (q := 45) rfl ?_
      rw [show (σ 12 n : Int32) = nI K from (by rw [← eK]; exact hR.nb (f := 0) hb9 (by decide))]
      refine v_aload h (i := 4) dX9_voice_45 (q := 47) rfl 0 rfl ?_
      refine v_getN h (k := 2) (v := .ref (b_ad w 13)) cls0 hs.2.2.1.2.1.1.1 hs.2.2.1.2.1.1.2 (Nat.le_of_ble_eq_true rfl) m93 rfl dX9_voice_47 (q := 50) rfl ?_
      refine v_iload_n h (i := 1) dX9_voice_50 (q := 51) rfl rfl 2 rfl ?_
      refine v_iald h (k := n) hs.2.2.1.2.1.2.2.1.1 hs.2.2.1.2.1.2.2.1.2 (vp_in_nI hb9 (by decide)) (nI_clamp (by omega)) dX9_voice_51 (q := 52) rfl ?_
      rw [show (σ 13 n : Int32) = A.1.1 (13 + 4 * n) from (hR.nb (f := 1) hb9 (by decide))]
      refine v_iload_n h (i := 2) dX9_voice_52 (q := 53) rfl rfl 3 rfl ?_
      refine v_iload_n h (i := 3) dX9_voice_53 (q := 54) rfl rfl 4 rfl ?_
      refine v_callV h (As := [.int (nI n), .int (nI K), .int (A.1.1 (13 + 4 * n)), .int (nI a), .int v]) (rest := []) ((c_X8_raise (me := 52) (K := K) (a := a) (n := nI n) (m := A.1.1 (13 + 4 * n)) (v := v) (σ := σ) hs.2.2.2.2.2.2.2.2.2.1 hK (by omega))) cal_X8_raise calV_X8_raise m715 ⟨rfl, rfl, Nat.le_of_ble_eq_true rfl, Nat.le_of_ble_eq_true rfl⟩ rfl hs.2.2.2.2.2.2.2.2.2.1.1.1 hs.2.2.2.2.2.2.2.2.2.1.1.2 ⟨_, _, rfl⟩ rfl (Nat.le_of_ble_eq_true rfl) dX9_voice_54 (q := 57) rfl (kI ?_)
      exact v_iret h dX9_voice_57 (pA_of (by unfold oVoice; rw [if_pos ⟨(hold_iff hR).mp c12, c21⟩, cl_nI (n := n) (by omega), cl_nI (n := a) (by omega), eK, cl_nI (by omega), voice_eq hR]) (hR.voice _ _ _))
    · refine v_if_ne h (t := 33) dX9_voice_24 (by decide) (q := 27) rfl (fun c => absurd (by decide) c) (fun _ => ?_)
      refine v_aload_n h (i := 0) dX9_voice_27 (q := 28) rfl rfl 1 rfl ?_
      refine v_iconst h (v := 1) dX9_voice_28 (q := 29) rfl (by decide) ?_
      refine v_callV h (As := [.int 1]) (rest := []) (c_ref (σ := σ) hs (e := 1) (by decide) rfl) cal_X9_refuse calV_X9_refuse m315 ⟨rfl, rfl, Nat.le_of_ble_eq_true rfl, Nat.le_of_ble_eq_true rfl⟩ rfl hs.1.1 hs.1.2 ⟨_, _, rfl⟩ rfl (Nat.le_of_ble_eq_true rfl) dX9_voice_29 (q := 32) rfl (kI ?_)
      exact v_iret h dX9_voice_32 (pA_of (by unfold oVoice; rw [if_neg (fun z => by first | exact c12 ((hold_iff hR).mpr z.1) | exact c21 z.2)]; rfl) (hR.err (by decide)))
  · refine v_if_eq h (t := 27) dX9_voice_15 (by decide) (q := 18) rfl (fun _ => ?_) (fun c => absurd (by decide) c)
    refine v_aload_n h (i := 0) dX9_voice_27 (q := 28) rfl rfl 1 rfl ?_
    refine v_iconst h (v := 1) dX9_voice_28 (q := 29) rfl (by decide) ?_
    refine v_callV h (As := [.int 1]) (rest := []) (c_ref (σ := σ) hs (e := 1) (by decide) rfl) cal_X9_refuse calV_X9_refuse m315 ⟨rfl, rfl, Nat.le_of_ble_eq_true rfl, Nat.le_of_ble_eq_true rfl⟩ rfl hs.1.1 hs.1.2 ⟨_, _, rfl⟩ rfl (Nat.le_of_ble_eq_true rfl) dX9_voice_29 (q := 32) rfl (kI ?_)
    exact v_iret h dX9_voice_32 (pA_of (by unfold oVoice; rw [if_neg (fun z => by first | exact c12 ((hold_iff hR).mpr z.1) | exact c21 z.2)]; rfl) (hR.err (by decide)))
