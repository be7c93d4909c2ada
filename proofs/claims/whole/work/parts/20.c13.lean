def pB2 (P : Prop) (σ1 σ0 : bSt) : Option Value → bSt → Prop := fun v σ' => (P ∧ v = some (.int 1) ∧ σ' = σ1) ∨ (¬ P ∧ v = some (.int 0) ∧ σ' = σ0)
theorem kB2 {x : bX} {w : bw} {nL : Nat} {post : Option Value → bSt → Prop} {q : Nat} {ls : List (Nat × Value)} {rest : List Value} {σ1 σ0 : bSt} {P : Prop} (a : P → V x w nL post q ls (.int 1 :: rest) σ1) (b : ¬ P → V x w nL post q ls (.int 0 :: rest) σ0) : ∀ (v : Option Value) (σ' : bSt), pB2 P σ1 σ0 v σ' → V x w nL post q ls (v.toList ++ rest) σ' := by
  rintro v σ' (⟨h, rfl, rfl⟩ | ⟨h, rfl, rfl⟩)
  · exact a h
  · exact b h
theorem pB2_1 {P : Prop} {σ1 σ0 σ' : bSt} (h : P) (e : σ' = σ1) : pB2 P σ1 σ0 (some (.int 1)) σ' := Or.inl ⟨h, rfl, e⟩
theorem pB2_0 {P : Prop} {σ1 σ0 σ' : bSt} (h : ¬ P) (e : σ' = σ0) : pB2 P σ1 σ0 (some (.int 0)) σ' := Or.inr ⟨h, rfl, e⟩
/-! how a TEXT is read: where it stands, how many steps are laid, the steps -/
abbrev bR : Type := Nat × Nat × (Nat → Int32)
def byR (tp : Nat → Int32) (n p : Nat) : Int32 := if p < n then tp p else -1
def emR (c : Int32) (S : bR) : bR := (S.1, S.2.1 + 1, upd S.2.2 S.2.1 c)
def advR (S : bR) : bR := (S.1 + 1, S.2.1, S.2.2)
def isDg (c : Int32) : Prop := ¬ c < 48 ∧ ¬ (57 : Int32) < c
def dgB (c : Int32) : Bool := decide (¬ c < 48) && decide (¬ (57 : Int32) < c)
theorem dgB_iff {c : Int32} : isDg c ↔ dgB c = true := by
  unfold isDg dgB
  rw [Bool.and_eq_true, decide_eq_true_eq, decide_eq_true_eq]
def nbR (bf : Nat → Int32) : Nat → Nat → Int32 → Nat × Int32
  | 0, p, v => (p, v)
  | r + 1, p, v => if dgB (bf p) = true then nbR bf r (p + 1) (v * 10 + bf p - 48) else (p, v)
def nmR (use : Nat) (c : Int32) : Nat := if c = b_tNA (use * 3) then 0 else if c = b_tNA (use * 3 + 1) then 1 else if c = b_tNA (use * 3 + 2) then 2 else 3
def opR (lev : Nat) (c : Int32) : Bool :=
  if lev = 5 then decide (c = 124) else if lev = 4 then decide (c = 38) else if lev = 2 then decide (c = 43) || decide (c = 45) else
  if lev = 3 then decide (c = 60) || (decide (c = 61) || decide (c = 62)) else decide (c = 42) || (decide (c = 47) || decide (c = 37))
def lpR (sub : bR → Bool × bR) (op : Int32 → Bool) (bf : Nat → Int32) : Nat → bR → Bool × bR
  | 0, S => (true, S)
  | k + 1, S => if op (bf S.1) = true then (if (sub (advR S)).1 = true then lpR sub op bf k (emR (-(bf S.1)) (sub (advR S)).2) else (false, (sub (advR S)).2)) else (true, S)
def prR (bf : Nat → Int32) (use : Nat) : Nat → Nat → Nat → bR → Bool × bR
  | 0, _, _, S => (false, S)
  | f + 1, lev, o, S =>
    if lev = 0 then
      (if dgB (bf S.1) = true then (true, emR (nbR bf 4 S.1 0).2 ((nbR bf 4 S.1 0).1, S.2.1, S.2.2)) else
       if nmR use (bf S.1) < 3 then (true, emR (-1 - nI (nmR use (bf S.1))) (advR S)) else
       if 5 ≤ o then (false, S) else
       if bf S.1 = 33 then (if (prR bf use f 0 (o + 1) (advR S)).1 = true then (true, emR (-33) (prR bf use f 0 (o + 1) (advR S)).2) else (false, (prR bf use f 0 (o + 1) (advR S)).2)) else
       if bf S.1 = 40 then (if (prR bf use f 5 (o + 1) (advR S)).1 = true then (if bf (prR bf use f 5 (o + 1) (advR S)).2.1 = 41 then (true, advR (prR bf use f 5 (o + 1) (advR S)).2) else (false, (prR bf use f 5 (o + 1) (advR S)).2)) else (false, (prR bf use f 5 (o + 1) (advR S)).2)) else (false, S))
    else
      if (prR bf use f (lev - 1) o S).1 = true then lpR (prR bf use f (lev - 1) o) (opR lev) bf (if lev = 3 then 1 else 50) (prR bf use f (lev - 1) o S).2 else (false, (prR bf use f (lev - 1) o S).2)
/-- no more steps are laid than bytes are passed -/
def pgR (n : Nat) (S S' : bR) : Prop := S.1 ≤ S'.1 ∧ S'.1 ≤ n ∧ S'.2.1 + S.1 ≤ S.2.1 + S'.1
theorem byR_lt {tp : Nat → Int32} {n p : Nat} (h : ¬ byR tp n p = -1) : p < n := by
  unfold byR at h
  rcases Nat.lt_or_ge p n with c | c
  · exact c
  · rw [if_neg (by omega)] at h
    exact absurd rfl h
theorem pgR.em {n : Nat} {S S' : bR} {c : Int32} (h : pgR n (advR S) S') : pgR n S (emR c S') := by
  obtain ⟨h1, h2, h3⟩ := h
  unfold advR at h1 h3
  unfold emR
  exact ⟨by dsimp only at *; omega, h2, by dsimp only at *; omega⟩
theorem pgR.tr {n : Nat} {S S' S'' : bR} (h : pgR n S S') (k : pgR n S' S'') : pgR n S S'' := ⟨Nat.le_trans h.1 k.1, k.2.1, by have := h.2.2; have := k.2.2; omega⟩
theorem pgR.adv {n : Nat} {S : bR} (h : S.1 < n) : pgR n S (advR S) := ⟨Nat.le_succ _, h, by unfold advR; dsimp only; omega⟩
theorem pgR.rf {n : Nat} {S : bR} (h : S.1 ≤ n) : pgR n S S := ⟨Nat.le_refl _, h, Nat.le_refl _⟩
theorem opR_ne {lev : Nat} {c : Int32} (h : opR lev c = true) : ¬ c = -1 := by
  intro e
  subst e
  unfold opR at h
  repeat' split at h
  all_goals exact absurd h (by decide)
theorem lpR_pg {sub : bR → Bool × bR} {lev : Nat} {tp : Nat → Int32} {n : Nat} (hs : ∀ S : bR, S.1 ≤ n → pgR n S (sub S).2) : ∀ (k : Nat) (S : bR), S.1 ≤ n → pgR n S (lpR sub (opR lev) (byR tp n) k S).2
  | 0, S, h => pgR.rf h
  | k + 1, S, h => by
    rw [lpR]
    by_cases c : opR lev (byR tp n S.1) = true
    · rw [if_pos c]
      have hl := byR_lt (opR_ne c)
      have h1 := hs (advR S) hl
      by_cases c2 : (sub (advR S)).1 = true
      · rw [if_pos c2]
        have h2 : pgR n S (emR (-(byR tp n S.1)) (sub (advR S)).2) := h1.em
        exact h2.tr (lpR_pg hs k _ h2.2.1)
      · rw [if_neg c2]
        exact (pgR.adv hl).tr h1
    · rw [if_neg c]
      exact pgR.rf h
theorem dgB_ne {c : Int32} (h : dgB c = true) : ¬ c = -1 := by
  intro e
  subst e
  exact absurd h (by decide)
theorem nbR_le {tp : Nat → Int32} {n : Nat} : ∀ (r p : Nat) (v : Int32), p ≤ n → p ≤ (nbR (byR tp n) r p v).1 ∧ (nbR (byR tp n) r p v).1 ≤ n
  | 0, p, v, h => ⟨Nat.le_refl _, h⟩
  | r + 1, p, v, h => by
    rw [nbR]
    by_cases c : dgB (byR tp n p) = true
    · rw [if_pos c]
      have hl := byR_lt (dgB_ne c)
      have := nbR_le (tp := tp) r (p + 1) (v * 10 + byR tp n p - 48) hl
      exact ⟨by omega, this.2⟩
    · rw [if_neg c]
      exact ⟨Nat.le_refl _, h⟩
theorem nmR_ne {use : Nat} {c : Int32} (hu : use < 2) (h : nmR use c < 3) : ¬ c = -1 := by
  intro e
  subst e
  exact absurd h ((show ∀ u : Nat, u < 2 → ¬ nmR u (-1) < 3 by decide +kernel) use hu)
theorem prR_pg {tp : Nat → Int32} {n use : Nat} (hu : use < 2) : ∀ (f lev o : Nat) (S : bR), S.1 ≤ n → pgR n S (prR (byR tp n) use f lev o S).2
  | 0, _, _, _, h => pgR.rf h
  | f + 1, lev, o, S, h => by
    have ih := prR_pg (tp := tp) (n := n) hu f
    rw [prR]
    by_cases c0 : lev = 0
    · rw [if_pos c0]
      by_cases c1 : dgB (byR tp n S.1) = true
      · rw [if_pos c1]
        have hl := byR_lt (dgB_ne c1)
        have e : nbR (byR tp n) 4 S.1 0 = nbR (byR tp n) 3 (S.1 + 1) (0 * 10 + byR tp n S.1 - 48) := by rw [nbR, if_pos c1]
        have := nbR_le (tp := tp) (n := n) 3 (S.1 + 1) (0 * 10 + byR tp n S.1 - 48) hl
        rw [← e] at this
        unfold emR
        exact ⟨by dsimp only; omega, this.2, by dsimp only; omega⟩
      · rw [if_neg c1]
        by_cases c2 : nmR use (byR tp n S.1) < 3
        · rw [if_pos c2]
          have hl := byR_lt (nmR_ne hu c2)
          exact (pgR.rf (S := advR S) hl).em
        · rw [if_neg c2]
          by_cases c3 : 5 ≤ o
          · rw [if_pos c3]; exact pgR.rf h
          · rw [if_neg c3]
            by_cases c4 : byR tp n S.1 = 33
            · rw [if_pos c4]
              have hl := byR_lt (n := n) (p := S.1) (tp := tp) (by rw [c4]; decide)
              have h1 := ih 0 (o + 1) (advR S) hl
              split
              · exact h1.em
              · exact (pgR.adv hl).tr h1
            · rw [if_neg c4]
              by_cases c5 : byR tp n S.1 = 40
              · rw [if_pos c5]
                have hl := byR_lt (n := n) (p := S.1) (tp := tp) (by rw [c5]; decide)
                have h1 := ih 5 (o + 1) (advR S) hl
                split
                · split
                  · rename_i c6
                    have hl2 := byR_lt (n := n) (tp := tp) (by rw [c6]; decide)
                    exact ((pgR.adv hl).tr h1).tr (pgR.adv hl2)
                  · exact (pgR.adv hl).tr h1
                · exact (pgR.adv hl).tr h1
              · rw [if_neg c5]
                exact pgR.rf h
    · rw [if_neg c0]
      have h1 := ih (lev - 1) o S h
      split
      · exact h1.tr (lpR_pg (fun S' hS' => ih (lev - 1) o S' hS') _ _ h1.2.1)
      · exact h1
/-- the Reader there -/
def RS (σ : bSt) (me : Nat) (S : bR) : bSt := b_up (b_up (b_set σ (me + 2) S.2.2) (me + 1) 0 (nI S.2.1)) me 3 (nI S.1)
section RSS
variable {σ : bSt} {me : Nat} {S : bR}
theorem RS_3 : RS σ me S me 3 = nI S.1 := by unfold RS; rw [b_up_s, upd_s]
theorem RS_f {k : Nat} (h : k ≠ 3) : RS σ me S me k = σ me k := by unfold RS; rw [b_up_s, upd_n h, b_up_n (by omega), b_set_n (by omega)]
theorem RS_b : RS σ me S (me + 4) = σ (me + 4) := by unfold RS; rw [b_up_n (by omega), b_up_n (by omega), b_set_n (by omega)]
theorem RS_l : RS σ me S (me + 1) 0 = nI S.2.1 := by unfold RS; rw [b_up_n (by omega), b_up_s, upd_s]
theorem RS_ext {τ : bSt} (h0 : ∀ k, τ me k = RS σ me S me k) (h1 : ∀ k, τ (me + 1) k = RS σ me S (me + 1) k) (h2 : τ (me + 2) = S.2.2) (ho : ∀ j, j ≠ me → j ≠ me + 1 → j ≠ me + 2 → τ j = σ j) : τ = RS σ me S := by
  funext j
  by_cases e : j = me
  · rw [e]; funext k; exact h0 k
  · by_cases e1 : j = me + 1
    · rw [e1]; funext k; exact h1 k
    · by_cases e2 : j = me + 2
      · rw [e2, h2]; unfold RS; rw [b_up_n (by omega), b_up_n (by omega), b_set_s]
      · rw [ho j e e1 e2]; unfold RS; rw [b_up_n e, b_up_n e1, b_set_n e2]
theorem RS_adv : b_up (RS σ me S) me 3 (nI (S.1 + 1)) = RS σ me (advR S) := by
  unfold RS
  rw [b_up_up]
  rfl
theorem RS_em {c : Int32} : b_up (b_up (RS σ me S) (me + 1 + 1) S.2.1 c) (me + 1) 0 (nI (S.2.1 + 1)) = RS σ me (emR c S) := by
  refine RS_ext (fun k => ?_) (fun k => ?_) ?_ (fun j h0 h1 h2 => ?_)
  · rw [b_up_n (by omega), b_up_n (by omega)]
    unfold RS
    rw [b_up_s, b_up_s, b_up_n (by omega), b_up_n (by omega), b_set_n (by omega), b_set_n (by omega)]
    rfl
  · unfold RS
    rw [b_up_s, b_up_n (by omega), b_up_n (by omega), b_up_s, b_set_n (by omega), b_up_n (by omega), b_up_s, b_set_n (by omega)]
    unfold upd
    by_cases e : k = 0
    · rw [if_pos e, if_pos e]; rfl
    · rw [if_neg e, if_neg e, if_neg e]
  · rw [b_up_n (by omega), show me + 1 + 1 = me + 2 from rfl, b_up_s]
    unfold RS
    rw [b_up_n (by omega), b_up_n (by omega), b_set_s]
    rfl
  · unfold RS
    rw [b_up_n h1, b_up_n h2, b_up_n h0, b_up_n h1, b_set_n h2]
end RSS

set_option maxHeartbeats 4000000 in
set_option maxRecDepth 100000 in
theorem c_X2_add {w : bw} {σ : bSt} {me l : Nat} {v : Int32} (hs : sFormula w me) (hl : σ me 0 = nI l) (hl2 : l < 50) : MV yX2_add cX2_add 2 none (rmm 0 0) w [.ref (b_ad w me), .int v] σ (pU (b_up (b_up σ (me + 1) l v) me 0 (nI (l + 1)))) := by
  refine b_met (ls := [(0, .ref (b_ad w me)), (1, .int v)]) (by decide) (Nat.le_of_ble_eq_true rfl) rfl (fun x h => ?_)
  refine v_aload_n h (i := 0) dX2_add_0 (q := 1) rfl rfl 0 rfl ?_
  refine v_get h (k := 0) (v := .int (σ me 0)) cls2 hs.1.1 hs.1.2 (Nat.le_of_ble_eq_true rfl) m41 rfl dX2_add_1 (q := 4) rfl ?_
  rw [show (σ me 0 : Int32) = nI l from hl]
  refine v_if_lt h (t := 16) dX2_add_4 (by decide) (q := 7) rfl (fun c4 => absurd c4 (nI_pos (by omega))) (fun c4 => ?_)
  refine v_aload_n h (i := 0) dX2_add_7 (q := 8) rfl rfl 0 rfl ?_
  refine v_get h (k := 0) (v := .int (σ me 0)) cls2 hs.1.1 hs.1.2 (Nat.le_of_ble_eq_true rfl) m41 rfl dX2_add_8 (q := 11) rfl ?_
  rw [show (σ me 0 : Int32) = nI l from hl]
  refine v_bipush h (v := 50) dX2_add_11 (q := 13) rfl (by decide) ?_
  refine v_icmp_lt h (t := 17) dX2_add_13 (by decide) (q := 16) rfl (fun c13 => ?_) (fun c13 => absurd (nltl (k := 50) rfl hl2 (by decide)) c13)
  refine v_aload_n h (i := 0) dX2_add_17 (q := 18) rfl rfl 0 rfl ?_
  refine v_get h (k := 1) (v := .ref (b_ad w (me + 1))) cls2 hs.1.1 hs.1.2 (Nat.le_of_ble_eq_true rfl) m43 rfl dX2_add_18 (q := 21) rfl ?_
  refine v_aload_n h (i := 0) dX2_add_21 (q := 22) rfl rfl 0 rfl ?_
  refine v_get h (k := 0) (v := .int (σ me 0)) cls2 hs.1.1 hs.1.2 (Nat.le_of_ble_eq_true rfl) m41 rfl dX2_add_22 (q := 25) rfl ?_
  rw [show (σ me 0 : Int32) = nI l from hl]
  refine v_iload_n h (i := 1) dX2_add_25 (q := 26) rfl rfl 1 rfl ?_
  refine v_iast h (k := l) hs.2.1.1 hs.2.1.2 (vp_in_nI (by omega) (by omega)) (nI_clamp (by omega)) dX2_add_26 (q := 27) rfl ?_
  refine v_aload_n h (i := 0) dX2_add_27 (q := 28) rfl rfl 0 rfl ?_
  refine v_dup h dX2_add_28 (q := 29) rfl rfl ?_
  refine v_get h (k := 0) (v := .int ((b_up σ (me + 1) l v) me 0)) cls2 hs.1.1 hs.1.2 (Nat.le_of_ble_eq_true rfl) m41 rfl dX2_add_29 (q := 32) rfl ?_
  rw [show ((b_up σ (me + 1) l v) me 0 : Int32) = nI l from (by rw [b_up_n (by omega)]; exact hl)]
  refine v_iconst h (v := 1) dX2_add_32 (q := 33) rfl (by decide) ?_
  refine v_iadd h dX2_add_33 (q := 34) rfl ?_
  rw [show ((nI l) + 1 : Int32) = nI (l + 1) from (nI_1 l)]
  refine v_put h (k := 0) cls2 hs.1.1 hs.1.2 (Nat.le_of_ble_eq_true rfl) rfl m41 rfl ⟨rfl, rfl⟩ dX2_add_34 (q := 37) rfl ?_
  exact v_vret h dX2_add_37 ⟨rfl, rfl⟩

theorem c_addR {w : bw} {σ : bSt} {me : Nat} {S : bR} {v : Int32} (hs : sFormula w (me + 1)) (h : S.2.1 < 50) : MV yX2_add cX2_add 2 none (rmm 0 0) w [.ref (b_ad w (me + 1)), .int v] (RS σ me S) (pU (RS σ me (emR v S))) := by
  have := c_X2_add (w := w) (σ := RS σ me S) (me := me + 1) (l := S.2.1) (v := v) hs RS_l h
  rw [RS_em] at this
  exact this

set_option maxHeartbeats 4000000 in
set_option maxRecDepth 100000 in
theorem c_X5_sign {w : bw} {σ : bSt} {me n use : Nat} {S : bR} (hs : sReader w me) (hn : σ me 2 = nI n) (hn5 : n ≤ 50) (hu : σ me 4 = nI use) (hu2 : use < 2) (hp : S.1 ≤ n) : MV yX5_sign cX5_sign 1 (some .int) (rmm 0 0) w [.ref (b_ad w me)] (RS σ me S) (pI ((byR (σ (me + 4)) n) S.1) (RS σ me S)) := by
  refine b_met (ls := [(0, .ref (b_ad w me))]) (by decide) (Nat.le_of_ble_eq_true rfl) rfl (fun x h => ?_)
  refine v_aload_n h (i := 0) dX5_sign_0 (q := 1) rfl rfl 0 rfl ?_
  refine v_get h (k := 3) (v := .int ((RS σ me S) me 3)) cls5 hs.1.1 hs.1.2 (Nat.le_of_ble_eq_true rfl) m224 rfl dX5_sign_1 (q := 4) rfl ?_
  rw [show ((RS σ me S) me 3 : Int32) = nI S.1 from RS_3]
  refine v_if_lt h (t := 39) dX5_sign_4 (by decide) (q := 7) rfl (fun c4 => absurd c4 (nI_pos (by omega))) (fun c4 => ?_)
  refine v_aload_n h (i := 0) dX5_sign_7 (q := 8) rfl rfl 0 rfl ?_
  refine v_get h (k := 3) (v := .int ((RS σ me S) me 3)) cls5 hs.1.1 hs.1.2 (Nat.le_of_ble_eq_true rfl) m224 rfl dX5_sign_8 (q := 11) rfl ?_
  rw [show ((RS σ me S) me 3 : Int32) = nI S.1 from RS_3]
  refine v_aload_n h (i := 0) dX5_sign_11 (q := 12) rfl rfl 0 rfl ?_
  refine v_get h (k := 2) (v := .int ((RS σ me S) me 2)) cls5 hs.1.1 hs.1.2 (Nat.le_of_ble_eq_true rfl) m223 rfl dX5_sign_12 (q := 15) rfl ?_
  rw [show ((RS σ me S) me 2 : Int32) = nI n from (by rw [RS_f (by decide)]; exact hn)]
  refine v_icmp_ge h (t := 39) dX5_sign_15 (by decide) (q := 18) rfl (fun c15 => ?_) (fun c15 => ?_)
  · refine v_iconst h (v := -1) dX5_sign_39 (q := 40) rfl (by decide) ?_
    exact v_iret h dX5_sign_40 ⟨by unfold byR; rw [if_neg (by have := nge (m := nI n) (k := n) (nI_toInt (by omega)) (by omega) c15; omega)], rfl⟩
  · have hl := nlt (m := nI n) (k := n) (nI_toInt (by omega)) (by omega) c15
    refine v_aload_n h (i := 0) dX5_sign_18 (q := 19) rfl rfl 0 rfl ?_
    refine v_get h (k := 3) (v := .int ((RS σ me S) me 3)) cls5 hs.1.1 hs.1.2 (Nat.le_of_ble_eq_true rfl) m224 rfl dX5_sign_19 (q := 22) rfl ?_
    rw [show ((RS σ me S) me 3 : Int32) = nI S.1 from RS_3]
    refine v_bipush h (v := 50) dX5_sign_22 (q := 24) rfl (by decide) ?_
    refine v_icmp_ge h (t := 39) dX5_sign_24 (by decide) (q := 27) rfl (fun c24 => absurd c24 (nnle (k := 50) rfl (by omega) (by decide))) (fun c24 => ?_)
    refine v_aload_n h (i := 0) dX5_sign_27 (q := 28) rfl rfl 0 rfl ?_
    refine v_get h (k := 1) (v := .ref (b_ad w (me + 4))) cls5 hs.1.1 hs.1.2 (Nat.le_of_ble_eq_true rfl) m222 rfl dX5_sign_28 (q := 31) rfl ?_
    refine v_aload_n h (i := 0) dX5_sign_31 (q := 32) rfl rfl 0 rfl ?_
    refine v_get h (k := 3) (v := .int ((RS σ me S) me 3)) cls5 hs.1.1 hs.1.2 (Nat.le_of_ble_eq_true rfl) m224 rfl dX5_sign_32 (q := 35) rfl ?_
    rw [show ((RS σ me S) me 3 : Int32) = nI S.1 from RS_3]
    refine v_iald h (k := S.1) hs.2.2.1 hs.2.2.2 (vp_in_nI (by omega) (by omega)) (nI_clamp (by omega)) dX5_sign_35 (q := 36) rfl ?_
    refine v_goto h (t := 40) dX5_sign_36 (by decide) ?_
    exact v_iret h dX5_sign_40 ⟨by unfold byR; rw [if_pos hl, RS_b], rfl⟩

set_option maxHeartbeats 4000000 in
set_option maxRecDepth 100000 in
theorem c_X5_takes {w : bw} {σ : bSt} {me n use : Nat} {S : bR} {c : Int32} (hs : sReader w me) (hn : σ me 2 = nI n) (hn5 : n ≤ 50) (hu : σ me 4 = nI use) (hu2 : use < 2) (hp : S.1 ≤ n) : MV yX5_takes cX5_takes 2 (some .boolean) (rmm 1 20) w [.ref (b_ad w me), .int c] (RS σ me S) (pB2 ((byR (σ (me + 4)) n) S.1 = c) (RS σ me (advR S)) (RS σ me S)) := by
  refine b_met (ls := [(0, .ref (b_ad w me)), (1, .int c)]) (by decide) (Nat.le_of_ble_eq_true rfl) rfl (fun x h => ?_)
  refine v_aload_n h (i := 0) dX5_takes_0 (q := 1) rfl rfl 0 rfl ?_
  refine v_callV h (As := []) (rest := []) ((c_X5_sign (S := S) hs hn hn5 hu hu2 hp)) cal_X5_sign calV_X5_sign m507 ⟨rfl, rfl, Nat.le_of_ble_eq_true rfl, Nat.le_of_ble_eq_true rfl⟩ rfl hs.1.1 hs.1.2 ⟨_, _, rfl⟩ rfl (Nat.le_of_ble_eq_true rfl) dX5_takes_1 (q := 4) rfl (kI ?_)
  refine v_iload_n h (i := 1) dX5_takes_4 (q := 5) rfl rfl 1 rfl ?_
  refine v_icmp_eq h (t := 10) dX5_takes_5 (by decide) (q := 8) rfl (fun c5 => ?_) (fun c5 => ?_)
  · refine v_aload_n h (i := 0) dX5_takes_10 (q := 11) rfl rfl 0 rfl ?_
    refine v_dup h dX5_takes_11 (q := 12) rfl rfl ?_
    refine v_get h (k := 3) (v := .int ((RS σ me S) me 3)) cls5 hs.1.1 hs.1.2 (Nat.le_of_ble_eq_true rfl) m224 rfl dX5_takes_12 (q := 15) rfl ?_
    rw [show ((RS σ me S) me 3 : Int32) = nI S.1 from RS_3]
    refine v_iconst h (v := 1) dX5_takes_15 (q := 16) rfl (by decide) ?_
    refine v_iadd h dX5_takes_16 (q := 17) rfl ?_
    rw [show ((nI S.1) + 1 : Int32) = nI (S.1 + 1) from (nI_1 S.1)]
    refine v_put h (k := 3) cls5 hs.1.1 hs.1.2 (Nat.le_of_ble_eq_true rfl) rfl m224 rfl ⟨rfl, rfl⟩ dX5_takes_17 (q := 20) rfl ?_
    rw [show (b_up (RS σ me S) me 3 (nI (S.1 + 1)) : bSt) = RS σ me (advR S) from RS_adv]
    refine v_iconst h (v := 1) dX5_takes_20 (q := 21) rfl (by decide) ?_
    exact v_zret h rfl dX5_takes_21 (pB2_1 c5 rfl)
  · refine v_iconst h (v := 0) dX5_takes_8 (q := 9) rfl (by decide) ?_
    exact v_zret h rfl dX5_takes_9 (pB2_0 c5 rfl)

set_option maxHeartbeats 4000000 in
set_option maxRecDepth 100000 in
theorem c_X5_isDigit {w : bw} {σ : bSt} {c : Int32}  : MV yX5_isDigit cX5_isDigit 1 (some .boolean) (rmm 0 0) w [.int c] σ (pB (isDg c) σ) := by
  refine b_met (ls := [(0, .int c)]) (by decide) (Nat.le_of_ble_eq_true rfl) rfl (fun x h => ?_)
  refine v_iload_n h (i := 0) dX5_isDigit_0 (q := 1) rfl rfl 0 rfl ?_
  refine v_bipush h (v := 48) dX5_isDigit_1 (q := 3) rfl (by decide) ?_
  refine v_icmp_lt h (t := 16) dX5_isDigit_3 (by decide) (q := 6) rfl (fun c3 => ?_) (fun c3 => ?_)
  · refine v_iconst h (v := 0) dX5_isDigit_16 (q := 17) rfl (by decide) ?_
    exact v_zret h rfl dX5_isDigit_17 (pB0 (fun z => by first | exact z.1 (by assumption) | exact z.2 (by assumption)))
  · refine v_iload_n h (i := 0) dX5_isDigit_6 (q := 7) rfl rfl 0 rfl ?_
    refine v_bipush h (v := 57) dX5_isDigit_7 (q := 9) rfl (by decide) ?_
    refine v_icmp_gt h (t := 16) dX5_isDigit_9 (by decide) (q := 12) rfl (fun c9 => ?_) (fun c9 => ?_)
    · refine v_iconst h (v := 0) dX5_isDigit_16 (q := 17) rfl (by decide) ?_
      exact v_zret h rfl dX5_isDigit_17 (pB0 (fun z => by first | exact z.1 (by assumption) | exact z.2 (by assumption)))
    · refine v_iconst h (v := 1) dX5_isDigit_12 (q := 13) rfl (by decide) ?_
      refine v_goto h (t := 17) dX5_isDigit_13 (by decide) ?_
      exact v_zret h rfl dX5_isDigit_17 (pB1 ⟨by assumption, by assumption⟩)

theorem nm_at : ∀ u : Nat, u < 2 → ∀ i : Nat, i < 3 → nI u * 3 + nI i = nI (u * 3 + i) := by decide +kernel

set_option maxHeartbeats 4000000 in
set_option maxRecDepth 100000 in
theorem lX5_readNumber_4 {w : bw} {σ : bSt} {me n use : Nat} {S : bR} (hs : sReader w me) (hn : σ me 2 = nI n) (hn5 : n ≤ 50) (hu : σ me 4 = nI use) (hu2 : use < 2) (hp : S.1 ≤ n) (hdg : dgB ((byR (σ (me + 4)) n) S.1) = true) (hlen : S.2.1 ≤ S.1) {x : bX} (h : Cx x w cX5_readNumber RX5 3 none (rmm 1 21)) : ∀ r j : Nat, j + r = 4 → ∀ (v : Int32) (p : Nat), p ≤ n → (0 < j → S.1 < p) → nbR (byR (σ (me + 4)) n) r p v = nbR (byR (σ (me + 4)) n) 4 S.1 0 → (j = 0 → p = S.1) → V x w 3 (pU (RS σ me (emR (nbR (byR (σ (me + 4)) n) 4 S.1 0).2 ((nbR (byR (σ (me + 4)) n) 4 S.1 0).1, S.2.1, S.2.2)))) 4 [(2, .int (nI j)), (1, .int v), (0, .ref (b_ad w me))] [] (RS σ me (p, S.2.1, S.2.2)) := by
  refine b_ind (fun r ih => ?_)
  intro j hjr v p hpn hjp hnb hj0
  refine v_iload_n h (i := 2) dX5_readNumber_4 (q := 5) rfl rfl 0 rfl ?_
  refine v_iconst h (v := 4) dX5_readNumber_5 (q := 6) rfl (by decide) ?_
  refine v_icmp_ge h (t := 48) dX5_readNumber_6 (by decide) (q := 9) rfl (fun c6 => ?_) (fun c6 => ?_)
  · have hfin : nbR (byR (σ (me + 4)) n) r p v = (p, v) := by
      rcases Nat.eq_zero_or_pos r with z | z
      · rw [z]; rfl
      · rw [show r = (r - 1) + 1 by omega, nbR, if_neg]
        first
        | exact fun q => c13 (dgB_iff.mpr q)
        | exact absurd c6 (nnle (k := 4) rfl (by omega) (by decide))
    have hj1 : 0 < j := by
      rcases Nat.eq_zero_or_pos j with z | z
      · exfalso
        have hr4 : r = 4 := by omega
        rw [hnb] at hfin
        first
        | (rw [hj0 z] at c13; exact c13 (dgB_iff.mpr hdg))
        | exact absurd c6 (nnle (k := 4) rfl (by omega) (by decide))
      · exact z
    have hlt : S.2.1 < 50 := by have := hjp hj1; omega
    refine v_aload_n h (i := 0) dX5_readNumber_48 (q := 49) rfl rfl 2 rfl ?_
    refine v_get h (k := 0) (v := .ref (b_ad w (me + 1))) cls5 hs.1.1 hs.1.2 (Nat.le_of_ble_eq_true rfl) m220 rfl dX5_readNumber_49 (q := 52) rfl ?_
    refine v_iload_n h (i := 1) dX5_readNumber_52 (q := 53) rfl rfl 1 rfl ?_
    refine v_callV h (As := [.int v]) (rest := []) ((c_addR (S := (p, S.2.1, S.2.2)) hs.2.1 hlt)) cal_X2_add calV_X2_add m518 ⟨rfl, rfl, Nat.le_of_ble_eq_true rfl, Nat.le_of_ble_eq_true rfl⟩ rfl hs.2.1.1.1 hs.2.1.1.2 ⟨_, _, rfl⟩ rfl (Nat.le_of_ble_eq_true rfl) dX5_readNumber_53 (q := 56) rfl (kU ?_)
    exact v_vret h dX5_readNumber_56 ⟨rfl, by rw [← hnb, hfin]⟩
  · have hj4 : j < 4 := nlt rfl (by omega) c6
    refine v_aload_n h (i := 0) dX5_readNumber_9 (q := 10) rfl rfl 2 rfl ?_
    refine v_callV h (As := []) (rest := []) ((c_X5_sign (S := (p, S.2.1, S.2.2)) hs hn hn5 hu hu2 hpn)) cal_X5_sign calV_X5_sign m507 ⟨rfl, rfl, Nat.le_of_ble_eq_true rfl, Nat.le_of_ble_eq_true rfl⟩ rfl hs.1.1 hs.1.2 ⟨_, _, rfl⟩ rfl (Nat.le_of_ble_eq_true rfl) dX5_readNumber_10 (q := 13) rfl (kI ?_)
    refine v_callS h (As := [.int ((byR (σ (me + 4)) n) p)]) (rest := []) (c_X5_isDigit (c := (byR (σ (me + 4)) n) p)) cal_X5_isDigit m512 m511 ⟨rfl, rfl, Nat.le_of_ble_eq_true rfl, Nat.le_of_ble_eq_true rfl⟩ rfl rfl (Nat.le_of_ble_eq_true rfl) dX5_readNumber_13 (q := 16) rfl (kB (fun c13 => ?_) (fun c13 => ?_))
    · refine v_if_eq h (t := 48) dX5_readNumber_16 (by decide) (q := 19) rfl (fun c => absurd c (by decide)) (fun _ => ?_)
      have hpl : p < n := byR_lt (dgB_ne (dgB_iff.mp c13))
      have hjn : S.1 < p + 1 := by
        rcases Nat.eq_zero_or_pos j with z | z
        · rw [hj0 z]; omega
        · have := hjp z; omega
      refine v_iload_n h (i := 1) dX5_readNumber_19 (q := 20) rfl rfl 1 rfl ?_
      refine v_bipush h (v := 10) dX5_readNumber_20 (q := 22) rfl (by decide) ?_
      refine v_imul h dX5_readNumber_22 (q := 23) rfl ?_
      refine v_aload_n h (i := 0) dX5_readNumber_23 (q := 24) rfl rfl 2 rfl ?_
      refine v_callV h (As := []) (rest := [.int (v * 10)]) ((c_X5_sign (S := (p, S.2.1, S.2.2)) hs hn hn5 hu hu2 hpn)) cal_X5_sign calV_X5_sign m507 ⟨rfl, rfl, Nat.le_of_ble_eq_true rfl, Nat.le_of_ble_eq_true rfl⟩ rfl hs.1.1 hs.1.2 ⟨_, _, rfl⟩ rfl (Nat.le_of_ble_eq_true rfl) dX5_readNumber_24 (q := 27) rfl (kI ?_)
      refine v_iadd h dX5_readNumber_27 (q := 28) rfl ?_
      refine v_bipush h (v := 48) dX5_readNumber_28 (q := 30) rfl (by decide) ?_
      refine v_isub h dX5_readNumber_30 (q := 31) rfl ?_
      refine v_istore_n h (i := 1) (ls1 := [(1, .int (((v * 10) + ((byR (σ (me + 4)) n) p)) - 48)), (2, .int (nI j)), (0, .ref (b_ad w me))]) dX5_readNumber_31 (q := 32) rfl rfl (Nat.le_of_ble_eq_true rfl) rfl ?_
      refine v_aload_n h (i := 0) dX5_readNumber_32 (q := 33) rfl rfl 2 rfl ?_
      refine v_dup h dX5_readNumber_33 (q := 34) rfl rfl ?_
      refine v_get h (k := 3) (v := .int ((RS σ me (p, S.2.1, S.2.2)) me 3)) cls5 hs.1.1 hs.1.2 (Nat.le_of_ble_eq_true rfl) m224 rfl dX5_readNumber_34 (q := 37) rfl ?_
      rw [show ((RS σ me (p, S.2.1, S.2.2)) me 3 : Int32) = nI p from RS_3]
      refine v_iconst h (v := 1) dX5_readNumber_37 (q := 38) rfl (by decide) ?_
      refine v_iadd h dX5_readNumber_38 (q := 39) rfl ?_
      rw [show ((nI p) + 1 : Int32) = nI (p + 1) from (nI_1 p)]
      refine v_put h (k := 3) cls5 hs.1.1 hs.1.2 (Nat.le_of_ble_eq_true rfl) rfl m224 rfl ⟨rfl, rfl⟩ dX5_readNumber_39 (q := 42) rfl ?_
      rw [show (b_up (RS σ me (p, S.2.1, S.2.2)) me 3 (nI (p + 1)) : bSt) = RS σ me (p + 1, S.2.1, S.2.2) from RS_adv]
      refine v_iinc h (p := 1) (u := nI (j + 1)) (ls1 := [(2, .int (nI (j + 1))), (1, .int (((v * 10) + ((byR (σ (me + 4)) n) p)) - 48)), (0, .ref (b_ad w me))]) dX5_readNumber_42 (q := 45) rfl rfl (nI_1 j) (Nat.le_of_ble_eq_true rfl) rfl ?_
      refine v_goto h (t := 4) dX5_readNumber_45 (by decide) ?_
      exact ih (r - 1) (by omega) (j + 1) (by omega) _ (p + 1) hpl (fun _ => hjn) (by rw [← hnb, show r = (r - 1) + 1 by omega, nbR, if_pos (dgB_iff.mp c13)]; rfl) (fun z => absurd z (by omega))
    · refine v_if_eq h (t := 48) dX5_readNumber_16 (by decide) (q := 19) rfl (fun _ => ?_) (fun c => absurd (by decide) c)
      have hfin : nbR (byR (σ (me + 4)) n) r p v = (p, v) := by
        rcases Nat.eq_zero_or_pos r with z | z
        · rw [z]; rfl
        · rw [show r = (r - 1) + 1 by omega, nbR, if_neg]
          first
          | exact fun q => c13 (dgB_iff.mpr q)
          | exact absurd c6 (nnle (k := 4) rfl (by omega) (by decide))
      have hj1 : 0 < j := by
        rcases Nat.eq_zero_or_pos j with z | z
        · exfalso
          have hr4 : r = 4 := by omega
          rw [hnb] at hfin
          first
          | (rw [hj0 z] at c13; exact c13 (dgB_iff.mpr hdg))
          | exact absurd c6 (nnle (k := 4) rfl (by omega) (by decide))
        · exact z
      have hlt : S.2.1 < 50 := by have := hjp hj1; omega
      refine v_aload_n h (i := 0) dX5_readNumber_48 (q := 49) rfl rfl 2 rfl ?_
      refine v_get h (k := 0) (v := .ref (b_ad w (me + 1))) cls5 hs.1.1 hs.1.2 (Nat.le_of_ble_eq_true rfl) m220 rfl dX5_readNumber_49 (q := 52) rfl ?_
      refine v_iload_n h (i := 1) dX5_readNumber_52 (q := 53) rfl rfl 1 rfl ?_
      refine v_callV h (As := [.int v]) (rest := []) ((c_addR (S := (p, S.2.1, S.2.2)) hs.2.1 hlt)) cal_X2_add calV_X2_add m518 ⟨rfl, rfl, Nat.le_of_ble_eq_true rfl, Nat.le_of_ble_eq_true rfl⟩ rfl hs.2.1.1.1 hs.2.1.1.2 ⟨_, _, rfl⟩ rfl (Nat.le_of_ble_eq_true rfl) dX5_readNumber_53 (q := 56) rfl (kU ?_)
      exact v_vret h dX5_readNumber_56 ⟨rfl, by rw [← hnb, hfin]⟩
set_option maxHeartbeats 4000000 in
set_option maxRecDepth 100000 in
theorem c_X5_readNumber {w : bw} {σ : bSt} {me n use : Nat} {S : bR} (hs : sReader w me) (hn : σ me 2 = nI n) (hn5 : n ≤ 50) (hu : σ me 4 = nI use) (hu2 : use < 2) (hp : S.1 ≤ n) (hdg : dgB ((byR (σ (me + 4)) n) S.1) = true) (hlen : S.2.1 ≤ S.1) : MV yX5_readNumber cX5_readNumber 3 none (rmm 1 21) w [.ref (b_ad w me)] (RS σ me S) (pU (RS σ me (emR (nbR (byR (σ (me + 4)) n) 4 S.1 0).2 ((nbR (byR (σ (me + 4)) n) 4 S.1 0).1, S.2.1, S.2.2)))) := by
  refine b_met (ls := [(0, .ref (b_ad w me))]) (by decide) (Nat.le_of_ble_eq_true rfl) rfl (fun x h => ?_)
  refine v_iconst h (v := 0) dX5_readNumber_0 (q := 1) rfl (by decide) ?_
  refine v_istore_n h (i := 1) (ls1 := [(1, .int 0), (0, .ref (b_ad w me))]) dX5_readNumber_1 (q := 2) rfl rfl (Nat.le_of_ble_eq_true rfl) rfl ?_
  refine v_iconst h (v := 0) dX5_readNumber_2 (q := 3) rfl (by decide) ?_
  refine v_istore_n h (i := 2) (ls1 := [(2, .int 0), (1, .int 0), (0, .ref (b_ad w me))]) dX5_readNumber_3 (q := 4) rfl rfl (Nat.le_of_ble_eq_true rfl) rfl ?_
  exact lX5_readNumber_4 hs hn hn5 hu hu2 hp hdg hlen h 4 0 rfl 0 S.1 hp (fun z => absurd z (by decide)) rfl (fun _ => rfl)

theorem nm_0 {use : Nat} {c : Int32} (h : c = b_tNA (use * 3)) : nmR use c = 0 := if_pos h
theorem nm_1 {use : Nat} {c : Int32} (h0 : ¬ c = b_tNA (use * 3)) (h : c = b_tNA (use * 3 + 1)) : nmR use c = 1 := by
  unfold nmR
  rw [if_neg h0, if_pos h]
theorem nm_2 {use : Nat} {c : Int32} (h0 : ¬ c = b_tNA (use * 3)) (h1 : ¬ c = b_tNA (use * 3 + 1)) (h : c = b_tNA (use * 3 + 2)) : nmR use c = 2 := by
  unfold nmR
  rw [if_neg h0, if_neg h1, if_pos h]
theorem nm_3 {use : Nat} {c : Int32} (h0 : ¬ c = b_tNA (use * 3)) (h1 : ¬ c = b_tNA (use * 3 + 1)) (h : ¬ c = b_tNA (use * 3 + 2)) : nmR use c = 3 := by
  unfold nmR
  rw [if_neg h0, if_neg h1, if_neg h]
theorem nm_lt {use i : Nat} {c : Int32} (h0 : ∀ j, j < i → ¬ c = b_tNA (use * 3 + j)) (hi : i < 3) (h : c = b_tNA (use * 3 + i)) : nmR use c = i := by
  match i, hi with
  | 0, _ => exact nm_0 h
  | 1, _ => exact nm_1 (h0 0 (by decide)) h
  | 2, _ => exact nm_2 (h0 0 (by decide)) (h0 1 (by decide)) h

set_option maxHeartbeats 4000000 in
set_option maxRecDepth 100000 in
theorem lX5_readName_2 {w : bw} {σ : bSt} {me n use : Nat} {S : bR} (hs : sReader w me) (hn : σ me 2 = nI n) (hn5 : n ≤ 50) (hu : σ me 4 = nI use) (hu2 : use < 2) (hp : S.1 ≤ n) (hlen : S.2.1 ≤ S.1) {x : bX} (h : Cx x w cX5_readName RX5 3 (some .boolean) (rmm 2 41)) : ∀ r i : Nat, i + r = 3 → (∀ j, j < i → ¬ (byR (σ (me + 4)) n) S.1 = b_tNA (use * 3 + j)) → V x w 3 (pB2 (nmR use ((byR (σ (me + 4)) n) S.1) < 3) (RS σ me (emR (-1 - nI (nmR use ((byR (σ (me + 4)) n) S.1))) (advR S))) (RS σ me S)) 2 [(1, .int (nI i)), (0, .ref (b_ad w me))] [] (RS σ me S) := by
  refine b_ind (fun r ih => ?_)
  intro i hir hnm
  refine v_iload_n h (i := 1) dX5_readName_2 (q := 3) rfl rfl 0 rfl ?_
  refine v_iconst h (v := 3) dX5_readName_3 (q := 4) rfl (by decide) ?_
  refine v_icmp_ge h (t := 61) dX5_readName_4 (by decide) (q := 7) rfl (fun c4 => ?_) (fun c4 => ?_)
  · refine v_iconst h (v := 0) dX5_readName_61 (q := 62) rfl (by decide) ?_
    exact v_zret h rfl dX5_readName_62 (pB2_0 (by
    have hz : i = 3 := by have := nge (k := 3) rfl (by omega) c4; omega
    rw [nm_3 (hnm 0 (by omega)) (hnm 1 (by omega)) (hnm 2 (by omega))]
    decide) rfl)
  · have hi3 : i < 3 := nlt rfl (by omega) c4
    refine v_aload_n h (i := 0) dX5_readName_7 (q := 8) rfl rfl 1 rfl ?_
    refine v_get h (k := 4) (v := .int ((RS σ me S) me 4)) cls5 hs.1.1 hs.1.2 (Nat.le_of_ble_eq_true rfl) m226 rfl dX5_readName_8 (q := 11) rfl ?_
    rw [show ((RS σ me S) me 4 : Int32) = nI use from (by rw [RS_f (by decide)]; exact hu)]
    refine v_iconst h (v := 3) dX5_readName_11 (q := 12) rfl (by decide) ?_
    refine v_imul h dX5_readName_12 (q := 13) rfl ?_
    refine v_iload_n h (i := 1) dX5_readName_13 (q := 14) rfl rfl 0 rfl ?_
    refine v_iadd h dX5_readName_14 (q := 15) rfl ?_
    rw [show (((nI use) * 3) + (nI i) : Int32) = nI (use * 3 + i) from (nm_at use hu2 i hi3)]
    refine v_istore_n h (i := 2) (ls1 := [(2, .int (nI (use * 3 + i))), (1, .int (nI i)), (0, .ref (b_ad w me))]) dX5_readName_15 (q := 16) rfl rfl (Nat.le_of_ble_eq_true rfl) rfl ?_
    refine v_iload_n h (i := 2) dX5_readName_16 (q := 17) rfl rfl 0 rfl ?_
    refine v_if_lt h (t := 55) dX5_readName_17 (by decide) (q := 20) rfl (fun c17 => absurd c17 (nI_pos (by omega))) (fun c17 => ?_)
    refine v_iload_n h (i := 2) dX5_readName_20 (q := 21) rfl rfl 0 rfl ?_
    refine v_gs h (b_stat3 h.ev).1 m526 dX5_readName_21 (q := 24) rfl ?_
    refine v_tlen h (v := 6) (b_stat3 h.ev).2 rfl dX5_readName_24 (q := 25) rfl ?_
    refine v_icmp_ge h (t := 55) dX5_readName_25 (by decide) (q := 28) rfl (fun c25 => absurd c25 (nnle (k := 6) rfl (by omega) (by decide))) (fun c25 => ?_)
    refine v_aload_n h (i := 0) dX5_readName_28 (q := 29) rfl rfl 2 rfl ?_
    refine v_gs h (b_stat3 h.ev).1 m526 dX5_readName_29 (q := 32) rfl ?_
    refine v_iload_n h (i := 2) dX5_readName_32 (q := 33) rfl rfl 0 rfl ?_
    refine v_tc h (k := (use * 3 + i)) (b_stat3 h.ev).2 (vp_in_nI (by omega) (by decide)) (nI_clamp (by omega)) dX5_readName_33 (q := 34) rfl ?_
    refine v_callV h (As := [.int (b_tNA ((use * 3 + i)))]) (rest := []) ((c_X5_takes (S := S) (c := b_tNA (use * 3 + i)) hs hn hn5 hu hu2 hp)) cal_X5_takes calV_X5_takes m528 ⟨rfl, rfl, Nat.le_of_ble_eq_true rfl, Nat.le_of_ble_eq_true rfl⟩ rfl hs.1.1 hs.1.2 ⟨_, _, rfl⟩ rfl (Nat.le_of_ble_eq_true rfl) dX5_readName_34 (q := 37) rfl (kB2 (fun c34 => ?_) (fun c34 => ?_))
    · refine v_if_ne h (t := 43) dX5_readName_37 (by decide) (q := 40) rfl (fun _ => ?_) (fun c => absurd c (by decide))
      have hnq := nm_lt hnm hi3 c34
      have hlq := byR_lt (nmR_ne (c := (byR (σ (me + 4)) n) S.1) hu2 (by rw [hnq]; exact hi3))
      refine v_aload_n h (i := 0) dX5_readName_43 (q := 44) rfl rfl 2 rfl ?_
      refine v_get h (k := 0) (v := .ref (b_ad w (me + 1))) cls5 hs.1.1 hs.1.2 (Nat.le_of_ble_eq_true rfl) m220 rfl dX5_readName_44 (q := 47) rfl ?_
      refine v_iconst h (v := -1) dX5_readName_47 (q := 48) rfl (by decide) ?_
      refine v_iload_n h (i := 1) dX5_readName_48 (q := 49) rfl rfl 1 rfl ?_
      refine v_isub h dX5_readName_49 (q := 50) rfl ?_
      refine v_callV h (As := [.int ((-1) - (nI i))]) (rest := []) ((c_addR (S := advR S) hs.2.1 (by show S.2.1 < 50; omega))) cal_X2_add calV_X2_add m518 ⟨rfl, rfl, Nat.le_of_ble_eq_true rfl, Nat.le_of_ble_eq_true rfl⟩ rfl hs.2.1.1.1 hs.2.1.1.2 ⟨_, _, rfl⟩ rfl (Nat.le_of_ble_eq_true rfl) dX5_readName_50 (q := 53) rfl (kU ?_)
      refine v_iconst h (v := 1) dX5_readName_53 (q := 54) rfl (by decide) ?_
      exact v_zret h rfl dX5_readName_54 (pB2_1 (by rw [hnq]; exact hi3) (by rw [hnq]))
    · refine v_if_ne h (t := 43) dX5_readName_37 (by decide) (q := 40) rfl (fun c => absurd (by decide) c) (fun _ => ?_)
      have hnm2 : ∀ j, j < i + 1 → ¬ (byR (σ (me + 4)) n) S.1 = b_tNA (use * 3 + j) := by
        intro j hj
        by_cases e : j = i
        · rw [e]; exact c34
        · exact hnm j (by omega)
      refine v_goto h (t := 55) dX5_readName_40 (by decide) ?_
      refine v_iinc h (p := 1) (u := nI (i + 1)) (ls1 := [(1, .int (nI (i + 1))), (2, .int (nI (use * 3 + i))), (0, .ref (b_ad w me))]) dX5_readName_55 (q := 58) rfl rfl (nI_1 i) (Nat.le_of_ble_eq_true rfl) rfl ?_
      refine v_goto h (t := 2) dX5_readName_58 (by decide) ?_
      refine v_ls [0, 2] (ls2 := [(1, .int (nI (i + 1))), (0, .ref (b_ad w me))]) rfl ?_
      exact ih (r - 1) (by omega) (i + 1) (by omega) hnm2
set_option maxHeartbeats 4000000 in
set_option maxRecDepth 100000 in
theorem c_X5_readName {w : bw} {σ : bSt} {me n use : Nat} {S : bR} (hs : sReader w me) (hn : σ me 2 = nI n) (hn5 : n ≤ 50) (hu : σ me 4 = nI use) (hu2 : use < 2) (hp : S.1 ≤ n) (hlen : S.2.1 ≤ S.1) : MV yX5_readName cX5_readName 3 (some .boolean) (rmm 2 41) w [.ref (b_ad w me)] (RS σ me S) (pB2 (nmR use ((byR (σ (me + 4)) n) S.1) < 3) (RS σ me (emR (-1 - nI (nmR use ((byR (σ (me + 4)) n) S.1))) (advR S))) (RS σ me S)) := by
  refine b_met (ls := [(0, .ref (b_ad w me))]) (by decide) (Nat.le_of_ble_eq_true rfl) rfl (fun x h => ?_)
  refine v_iconst h (v := 0) dX5_readName_0 (q := 1) rfl (by decide) ?_
  refine v_istore_n h (i := 1) (ls1 := [(1, .int 0), (0, .ref (b_ad w me))]) dX5_readName_1 (q := 2) rfl rfl (Nat.le_of_ble_eq_true rfl) rfl ?_
  exact lX5_readName_2 hs hn hn5 hu hu2 hp hlen h 3 0 rfl (fun j hj => absurd hj (Nat.not_lt_zero j))
