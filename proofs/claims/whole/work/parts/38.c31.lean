/-! a TEXT that was read -/
def eqR (S T : bR) : Prop := S.1 = T.1 ∧ S.2.1 = T.2.1 ∧ ∀ k, k < S.2.1 → S.2.2 k = T.2.2 k
theorem eqR.em {S T : bR} {c : Int32} (h : eqR S T) : eqR (emR c S) (emR c T) := by
  obtain ⟨h1, h2, h3⟩ := h
  refine ⟨h1, congrArg (· + 1) h2, fun k hk => ?_⟩
  show upd S.2.2 S.2.1 c k = upd T.2.2 T.2.1 c k
  rw [← h2]
  unfold upd
  by_cases e : k = S.2.1
  · rw [if_pos e, if_pos e]
  · rw [if_neg e, if_neg e]
    have hk : k < S.2.1 + 1 := hk
    exact h3 k (by omega)
theorem eqR.adv {S T : bR} (h : eqR S T) : eqR (advR S) (advR T) := ⟨congrArg (· + 1) h.1, h.2.1, h.2.2⟩
theorem lp_cg {sub : bR → Bool × bR} {op : Int32 → Bool} {bf : Nat → Int32} (hs : ∀ S T : bR, eqR S T → (sub S).1 = (sub T).1 ∧ eqR (sub S).2 (sub T).2) : ∀ (k : Nat) (S T : bR), eqR S T → (lpR sub op bf k S).1 = (lpR sub op bf k T).1 ∧ eqR (lpR sub op bf k S).2 (lpR sub op bf k T).2
  | 0, S, T, h => ⟨rfl, h⟩
  | k + 1, S, T, h => by
    have h1 := hs _ _ h.adv
    rw [lpR, lpR, ← h.1]
    by_cases c : op (bf S.1) = true
    · rw [if_pos c, if_pos c, ← h1.1]
      by_cases c2 : (sub (advR S)).1 = true
      · rw [if_pos c2, if_pos c2]
        exact lp_cg hs k _ _ h1.2.em
      · rw [if_neg c2, if_neg c2]
        exact ⟨rfl, h1.2⟩
    · rw [if_neg c, if_neg c]
      exact ⟨rfl, h⟩
theorem pr_cg {bf : Nat → Int32} {use : Nat} : ∀ (f lev o : Nat) (S T : bR), eqR S T → (prR bf use f lev o S).1 = (prR bf use f lev o T).1 ∧ eqR (prR bf use f lev o S).2 (prR bf use f lev o T).2
  | 0, _, _, S, T, h => ⟨rfl, h⟩
  | f + 1, lev, o, S, T, h => by
    have ih := pr_cg (bf := bf) (use := use) f
    rw [prR, prR, ← h.1]
    by_cases c0 : lev = 0
    · rw [if_pos c0, if_pos c0]
      by_cases c1 : dgB (bf S.1) = true
      · rw [if_pos c1, if_pos c1]
        exact ⟨rfl, eqR.em (S := ((nbR bf 4 S.1 0).1, S.2.1, S.2.2)) (T := ((nbR bf 4 S.1 0).1, T.2.1, T.2.2)) ⟨rfl, h.2.1, h.2.2⟩⟩
      · rw [if_neg c1, if_neg c1]
        by_cases c2 : nmR use (bf S.1) < 3
        · rw [if_pos c2, if_pos c2]
          exact ⟨rfl, h.adv.em⟩
        · rw [if_neg c2, if_neg c2]
          by_cases c3 : 5 ≤ o
          · rw [if_pos c3, if_pos c3]
            exact ⟨rfl, h⟩
          · rw [if_neg c3, if_neg c3]
            by_cases c4 : bf S.1 = 33
            · rw [if_pos c4, if_pos c4]
              have h1 := ih 0 (o + 1) _ _ h.adv
              rw [← h1.1]
              by_cases c5 : (prR bf use f 0 (o + 1) (advR S)).1 = true
              · rw [if_pos c5, if_pos c5]
                exact ⟨rfl, h1.2.em⟩
              · rw [if_neg c5, if_neg c5]
                exact ⟨rfl, h1.2⟩
            · rw [if_neg c4, if_neg c4]
              by_cases c5 : bf S.1 = 40
              · rw [if_pos c5, if_pos c5]
                have h1 := ih 5 (o + 1) _ _ h.adv
                rw [← h1.1]
                by_cases c6 : (prR bf use f 5 (o + 1) (advR S)).1 = true
                · rw [if_pos c6, if_pos c6, ← h1.2.1]
                  by_cases c7 : bf (prR bf use f 5 (o + 1) (advR S)).2.1 = 41
                  · rw [if_pos c7, if_pos c7]
                    exact ⟨rfl, h1.2.adv⟩
                  · rw [if_neg c7, if_neg c7]
                    exact ⟨rfl, h1.2⟩
                · rw [if_neg c6, if_neg c6]
                  exact ⟨rfl, h1.2⟩
              · rw [if_neg c5, if_neg c5]
                exact ⟨rfl, h⟩
    · rw [if_neg c0, if_neg c0]
      have h1 := ih (lev - 1) o S T h
      rw [← h1.1]
      by_cases c1 : (prR bf use f (lev - 1) o S).1 = true
      · rw [if_pos c1, if_pos c1]
        exact lp_cg (fun S' T' h' => ih (lev - 1) o S' T' h') _ _ _ h1.2
      · rw [if_neg c1, if_neg c1]
        exact ⟨rfl, h1.2⟩
/-- one more worth stands on the pile, and all that was laid is good -/
def gdR (S T : bR) : Prop := S.2.1 ≤ T.2.1 ∧ (∀ k, k < S.2.1 → T.2.2 k = S.2.2 k) ∧ dptC T.2.2 T.2.1 = dptC S.2.2 S.2.1 + 1 ∧ ∀ i, S.2.1 ≤ i → i < T.2.1 → okS (T.2.2 i) ∧ (T.2.2 i < -3 → (if T.2.2 i = -33 then 1 else 2) ≤ dptC T.2.2 i)
theorem dpt_upd {g : Nat → Int32} {n k : Nat} {c : Int32} (h : k ≤ n) : dptC (upd g n c) k = dptC g k := dptC_congr k (fun j hj => upd_n (by omega))
theorem gd_one {S : bR} {c : Int32} (h : ¬ c < -3) (hk : okS c) : gdR S (emR c S) := by
  refine ⟨Nat.le_succ _, fun k hk => upd_n (by omega), ?_, fun i h1 h2 => ?_⟩
  · show dptC (upd S.2.2 S.2.1 c) (S.2.1 + 1) = _
    rw [dptC, upd_s, if_neg h, dpt_upd (Nat.le_refl _)]
  · have h2 : i < S.2.1 + 1 := h2
    have e : i = S.2.1 := by omega
    subst e
    show okS (upd S.2.2 S.2.1 c S.2.1) ∧ (upd S.2.2 S.2.1 c S.2.1 < -3 → _)
    rw [upd_s]
    exact ⟨hk, fun z => absurd z h⟩
theorem gd_not {S T : bR} (h : gdR S T) : gdR S (emR (-33) T) := by
  obtain ⟨h1, h2, h3, h4⟩ := h
  refine ⟨Nat.le_succ_of_le h1, fun k hk => ?_, ?_, fun i i1 i2 => ?_⟩
  · show upd T.2.2 T.2.1 (-33) k = _
    rw [upd_n (by omega), h2 k hk]
  · show dptC (upd T.2.2 T.2.1 (-33)) (T.2.1 + 1) = _
    rw [dptC, upd_s, if_pos (by decide), if_pos rfl, dpt_upd (Nat.le_refl _), h3]
  · have i2 : i < T.2.1 + 1 := i2
    show okS (upd T.2.2 T.2.1 (-33) i) ∧ (upd T.2.2 T.2.1 (-33) i < -3 → (if upd T.2.2 T.2.1 (-33) i = -33 then 1 else 2) ≤ dptC (upd T.2.2 T.2.1 (-33)) i)
    by_cases e : i = T.2.1
    · subst e
      rw [upd_s, dpt_upd (Nat.le_refl _), if_pos rfl, h3]
      exact ⟨Or.inr (Or.inr (Or.inr (Or.inr (Or.inl rfl)))), fun _ => by omega⟩
    · rw [upd_n e, dpt_upd (by omega)]
      exact h4 i i1 (by omega)
theorem gd_bin {S T U : bR} {c : Int32} (h : gdR S T) (k : gdR T U) (hc : c < -3) (h33 : ¬ c = -33) (hk : okS c) : gdR S (emR c U) := by
  obtain ⟨h1, h2, h3, h4⟩ := h
  obtain ⟨k1, k2, k3, k4⟩ := k
  refine ⟨by show _ ≤ U.2.1 + 1; omega, fun j hj => ?_, ?_, fun i i1 i2 => ?_⟩
  · show upd U.2.2 U.2.1 c j = _
    rw [upd_n (by omega), k2 j (by omega), h2 j hj]
  · show dptC (upd U.2.2 U.2.1 c) (U.2.1 + 1) = _
    rw [dptC, upd_s, if_pos hc, if_neg h33, dpt_upd (Nat.le_refl _), k3, h3]
    omega
  · have i2 : i < U.2.1 + 1 := i2
    show okS (upd U.2.2 U.2.1 c i) ∧ (upd U.2.2 U.2.1 c i < -3 → (if upd U.2.2 U.2.1 c i = -33 then 1 else 2) ≤ dptC (upd U.2.2 U.2.1 c) i)
    by_cases e : i = U.2.1
    · subst e
      rw [upd_s, dpt_upd (Nat.le_refl _), if_neg h33, k3, h3]
      exact ⟨hk, fun _ => by omega⟩
    · rw [upd_n e, dpt_upd (by omega)]
      by_cases e2 : T.2.1 ≤ i
      · exact k4 i e2 (by omega)
      · rw [k2 i (by omega), dptC_congr i (fun j hj => k2 j (by omega))]
        exact h4 i i1 (by omega)
theorem gdR.adv {S T : bR} (h : gdR S T) : gdR S (advR T) := h
theorem op_gd {lev : Nat} {c : Int32} (h : opR lev c = true) : -c < -3 ∧ ¬ -c = -33 ∧ okS (-c) := by
  have key : c = 124 ∨ c = 38 ∨ c = 43 ∨ c = 45 ∨ c = 60 ∨ c = 61 ∨ c = 62 ∨ c = 42 ∨ c = 47 ∨ c = 37 := by
    unfold opR at h
    by_cases c5 : lev = 5
    · rw [if_pos c5, decide_eq_true_eq] at h
      exact Or.inl h
    · rw [if_neg c5] at h
      by_cases c4 : lev = 4
      · rw [if_pos c4, decide_eq_true_eq] at h
        exact Or.inr (Or.inl h)
      · rw [if_neg c4] at h
        by_cases c2 : lev = 2
        · rw [if_pos c2, Bool.or_eq_true, decide_eq_true_eq, decide_eq_true_eq] at h
          rcases h with h | h
          · exact Or.inr (Or.inr (Or.inl h))
          · exact Or.inr (Or.inr (Or.inr (Or.inl h)))
        · rw [if_neg c2] at h
          by_cases c3 : lev = 3
          · rw [if_pos c3, Bool.or_eq_true, Bool.or_eq_true, decide_eq_true_eq, decide_eq_true_eq, decide_eq_true_eq] at h
            rcases h with h | h | h
            · exact Or.inr (Or.inr (Or.inr (Or.inr (Or.inl h))))
            · exact Or.inr (Or.inr (Or.inr (Or.inr (Or.inr (Or.inl h)))))
            · exact Or.inr (Or.inr (Or.inr (Or.inr (Or.inr (Or.inr (Or.inl h))))))
          · rw [if_neg c3, Bool.or_eq_true, Bool.or_eq_true, decide_eq_true_eq, decide_eq_true_eq, decide_eq_true_eq] at h
            rcases h with h | h | h
            · exact Or.inr (Or.inr (Or.inr (Or.inr (Or.inr (Or.inr (Or.inr (Or.inl h)))))))
            · exact Or.inr (Or.inr (Or.inr (Or.inr (Or.inr (Or.inr (Or.inr (Or.inr (Or.inl h))))))))
            · exact Or.inr (Or.inr (Or.inr (Or.inr (Or.inr (Or.inr (Or.inr (Or.inr (Or.inr h))))))))
  have ok : ∀ x : Int32, (x = -37 ∨ x = -38 ∨ x = -42 ∨ x = -43 ∨ x = -45 ∨ x = -47 ∨ x = -60 ∨ x = -61 ∨ x = -62 ∨ x = -124) → okS x := fun x hx => Or.inr (Or.inr (Or.inr (Or.inr (Or.inr hx))))
  rcases key with rfl | rfl | rfl | rfl | rfl | rfl | rfl | rfl | rfl | rfl
  all_goals exact ⟨by decide, by decide, ok _ (by decide)⟩
theorem lp_gd {sub : bR → Bool × bR} {lev : Nat} {bf : Nat → Int32} (hs : ∀ S : bR, (sub S).1 = true → gdR S (sub S).2) : ∀ (k : Nat) (S0 S : bR), gdR S0 S → (lpR sub (opR lev) bf k S).1 = true → gdR S0 (lpR sub (opR lev) bf k S).2
  | 0, S0, S, h, _ => h
  | k + 1, S0, S, h, ht => by
    rw [lpR] at ht ⊢
    by_cases c : opR lev (bf S.1) = true
    · rw [if_pos c] at ht ⊢
      by_cases c2 : (sub (advR S)).1 = true
      · rw [if_pos c2] at ht ⊢
        have g := op_gd c
        exact lp_gd hs k S0 _ (gd_bin (T := advR S) h.adv (hs _ c2) g.1 g.2.1 g.2.2) ht
      · rw [if_neg c2] at ht
        exact absurd ht (by show ¬ false = true; decide)
    · rw [if_neg c]
      exact h
theorem dg_nI {c : Int32} (h : dgB c = true) : ∃ d : Nat, d < 10 ∧ c = nI (48 + d) := by
  have h1 := dgB_iff.mpr h
  unfold isDg at h1
  rw [i_lt, i_lt] at h1
  have a : (48 : Int32).toInt = 48 := rfl
  have b : (57 : Int32).toInt = 57 := rfl
  obtain ⟨k, hk, e⟩ := nI_of (x := c) (by rw [i_lt]; show ¬ c.toInt < 0; omega)
  have h2 := nI_toInt hk
  rw [← e] at h2
  exact ⟨k - 48, by omega, by rw [e]; congr 1; omega⟩
theorem nb_rng {bf : Nat → Int32} : ∀ (r p v : Nat), ∃ x : Nat, x < (v + 1) * 10 ^ r ∧ (nbR bf r p (nI v)).2 = nI x
  | 0, p, v => ⟨v, by omega, rfl⟩
  | r + 1, p, v => by
    rw [nbR]
    by_cases c : dgB (bf p) = true
    · rw [if_pos c]
      obtain ⟨d, hd, e⟩ := dg_nI c
      have e2 : nI v * 10 + bf p - 48 = nI (v * 10 + d) := by
        rw [e, show (10 : Int32) = nI 10 from rfl, show (48 : Int32) = nI 48 from rfl, nI_mulN, nI_add, nI_sub 48 (by omega)]
        congr 1
        omega
      rw [e2]
      obtain ⟨x, hx, ex⟩ := nb_rng (bf := bf) r (p + 1) (v * 10 + d)
      refine ⟨x, Nat.lt_of_lt_of_le hx ?_, ex⟩
      rw [Nat.pow_succ, Nat.mul_comm (10 ^ r) 10, ← Nat.mul_assoc]
      exact Nat.mul_le_mul_right _ (by omega)
    · rw [if_neg c]
      refine ⟨v, ?_, rfl⟩
      have : 1 ≤ 10 ^ (r + 1) := Nat.one_le_pow _ _ (by decide)
      calc v < (v + 1) * 1 := by omega
        _ ≤ _ := Nat.mul_le_mul_left _ this
theorem nm_ok : ∀ j : Nat, j < 3 → ¬ (-1 - nI j) < -3 ∧ ((-1 - nI j) = -1 ∨ (-1 - nI j) = -2 ∨ (-1 - nI j) = -3) := by decide +kernel
theorem pr_gd {bf : Nat → Int32} {use : Nat} : ∀ (f lev o : Nat) (S : bR), (prR bf use f lev o S).1 = true → gdR S (prR bf use f lev o S).2
  | 0, _, _, S, h => absurd h (by show ¬ false = true; decide)
  | f + 1, lev, o, S, h => by
    have ih := pr_gd (bf := bf) (use := use) f
    rw [prR] at h ⊢
    by_cases c0 : lev = 0
    · rw [if_pos c0] at h ⊢
      by_cases c1 : dgB (bf S.1) = true
      · rw [if_pos c1]
        obtain ⟨x, hx, ex⟩ := nb_rng (bf := bf) 4 S.1 0
        have ex2 : (nbR bf 4 S.1 0).2 = nI x := ex
        refine gd_one (S := ((nbR bf 4 S.1 0).1, S.2.1, S.2.2)) ?_ (Or.inl ⟨x, by omega, ex2⟩)
        rw [ex2, i_lt, nI_toInt (by omega)]
        have : (-3 : Int32).toInt = -3 := rfl
        omega
      · rw [if_neg c1] at h ⊢
        by_cases c2 : nmR use (bf S.1) < 3
        · rw [if_pos c2]
          have g := nm_ok _ c2
          exact gd_one (S := advR S) g.1 (by rcases g.2 with e | e | e; exact Or.inr (Or.inl e); exact Or.inr (Or.inr (Or.inl e)); exact Or.inr (Or.inr (Or.inr (Or.inl e))))
        · rw [if_neg c2] at h ⊢
          by_cases c3 : 5 ≤ o
          · rw [if_pos c3] at h
            exact absurd h (by show ¬ false = true; decide)
          · rw [if_neg c3] at h ⊢
            by_cases c4 : bf S.1 = 33
            · rw [if_pos c4] at h ⊢
              by_cases c5 : (prR bf use f 0 (o + 1) (advR S)).1 = true
              · rw [if_pos c5]
                exact gd_not (ih 0 (o + 1) (advR S) c5)
              · rw [if_neg c5] at h
                exact absurd h (by show ¬ false = true; decide)
            · rw [if_neg c4] at h ⊢
              by_cases c5 : bf S.1 = 40
              · rw [if_pos c5] at h ⊢
                by_cases c6 : (prR bf use f 5 (o + 1) (advR S)).1 = true
                · rw [if_pos c6] at h ⊢
                  by_cases c7 : bf (prR bf use f 5 (o + 1) (advR S)).2.1 = 41
                  · rw [if_pos c7]
                    exact (ih 5 (o + 1) (advR S) c6).adv
                  · rw [if_neg c7] at h
                    exact absurd h (by show ¬ false = true; decide)
                · rw [if_neg c6] at h
                  exact absurd h (by show ¬ false = true; decide)
              · rw [if_neg c5] at h
                exact absurd h (by show ¬ false = true; decide)
    · rw [if_neg c0] at h ⊢
      by_cases c1 : (prR bf use f (lev - 1) o S).1 = true
      · rw [if_pos c1] at h ⊢
        exact lp_gd (fun S' h' => ih (lev - 1) o S' h') _ S _ (ih (lev - 1) o S c1) h
      · rw [if_neg c1] at h
        exact absurd h (by show ¬ false = true; decide)
/-- what stands on the tape, read for a use -/
def txR (A : bA) (u : Nat) : Bool × bR := prR (byR A.1.2.2.1.2 A.1.2.2.1.1) u 36 5 0 (0, 0, fun _ => 0)
theorem tx_ok {A : bA} {u : Nat} (hu : u < 2) (hn : A.1.2.2.1.1 ≤ 50) (h : (txR A u).1 = true) : okT (txR A u).2.2 := by
  have g := pr_gd 36 5 0 (0, 0, fun _ => 0) h
  have p := prR_pg (tp := A.1.2.2.1.2) (n := A.1.2.2.1.1) hu 36 5 0 (0, 0, fun _ => 0) (Nat.zero_le _)
  obtain ⟨g1, g2, g3, g4⟩ := g
  refine ⟨⟨?_, fun _ => ?_, fun i hi hs => (g4 i (Nat.zero_le _) hi).2 hs⟩, fun k hk => (g4 k (Nat.zero_le _) hk).1⟩
  · have p2 : (txR A u).2.1 ≤ A.1.2.2.1.1 := p.2.1
    have p3 : (txR A u).2.2.1 + 0 ≤ 0 + (txR A u).2.1 := p.2.2
    omega
  · have g3 : dptC (txR A u).2.2.2 (txR A u).2.2.1 = 0 + 1 := g3
    omega
theorem byR_cg {f g : Nat → Int32} {n : Nat} (h : ∀ k, k < n → f k = g k) : byR f n = byR g n := by
  funext p
  unfold byR
  by_cases c : p < n
  · rw [if_pos c, if_pos c, h p c]
  · rw [if_neg c, if_neg c]
theorem tx_eq {σ : bSt} {A : bA} (h : RC σ A) {u : Nat} {g : Nat → Int32} : (rdR σ 20 A.1.2.2.1.1 u g).1 = (txR A u).1 ∧ eqR (rdR σ 20 A.1.2.2.1.1 u g).2 (txR A u).2 := by
  unfold rdR txR
  rw [byR_cg (f := σ 20) (g := A.1.2.2.1.2) (fun k hk => h.fed.2.2 k (by have := h.fed.2.1; omega))]
  exact pr_cg 36 5 0 _ _ ⟨rfl, rfl, fun k hk => absurd hk (Nat.not_lt_zero k)⟩
def setT (A : bA) (u : Nat) (p : Nat × (Nat → Int32)) : bA := ((A.1.1, (fun v => if v = u then p else A.1.2.1 v), A.1.2.2), A.2)
def oText (use : Int32) (A : bA) : Int32 × bA := if wj use 0 1 then (if (txR A (cl use)).1 = true ∧ (txR A (cl use)).2.1 = A.1.2.2.1.1 then (1, setT (setTp A (0, A.1.2.2.1.2)) (cl use) (txR A (cl use)).2.2) else (-10 - nI (txR A (cl use)).2.1, setTp A (0, A.1.2.2.1.2))) else refA 1 A
theorem RC.lawsT {τ υ : bSt} {A : bA} {T : bT} (h : RC τ A) (ho : ∀ j, (j < 3 ∨ 10 ≤ j) → υ j = τ j) (hT : RDt υ 1 T) (hc : cacheOK υ 1) : RC υ ((A.1.1, T, A.1.2.2), A.2) := by
  obtain ⟨⟨g1, g2, g3, g4, g5, g6, g7, g8, g9⟩, h2, h3, h4, h5, h6, h7, h8⟩ := h
  refine ⟨⟨by rw [← g1]; exact vw_keep (fun j a b => ho j (by omega)) (fun j a b => ho j (by omega)), g2, hT, by rw [ho 19 (by omega)]; exact g4, g5, by rw [ho (19 + 1) (by omega)]; exact g6, by rw [ho 19 (by omega)]; exact g7, g8, by rw [ho (19 + 2) (by omega)]; exact g9⟩, hc, by rw [ho 0 (by omega)]; exact h3,
    fun z => (h4 z).at ⟨fun j a b => ho j (by omega), fun j a b c => ho j (by omega), fun j a b => ho j (by omega)⟩,
    by rw [ho 54 (by omega)]; exact h5, by rw [ho 52 (by omega), ho 53 (by omega)]; exact h6, h7.at (fun j a b => ho j (by omega)), h8.at (fun j a b => ho j (by omega))⟩
theorem RC.text {τ : bSt} {A : bA} {u : Nat} {p : Nat × (Nat → Int32)} (h : RC τ A) (hu : u < 2) (hp : okT p) (h0 : τ 56 0 = nI p.1) (h1 : ∀ k, k < p.1 → τ 57 k = p.2 k) : RC (if nI u = 0 then b_set (blk τ (1 + 2) 56 2) (1 + 8) (fun _ => -1) else blk τ (1 + 5) 56 2) (setT A u p) := by
  have hT := h.1.2.2.1
  rcases (show u = 0 ∨ u = 1 by omega) with rfl | rfl
  · rw [if_pos (show nI 0 = 0 from rfl)]
    refine h.lawsT (fun j hj => by rw [b_set_n (by omega), blk_out (by omega)]) (fun v hv => ?_) (cacheOK_new (fun k => by rw [b_set_s]))
    rcases (show v = 0 ∨ v = 1 by omega) with rfl | rfl
    · refine ⟨?_, hp, fun k hk => ?_⟩
      · rw [b_set_n (by omega), blk_in (by omega) (by omega)]
        exact h0
      · rw [b_set_n (by omega), blk_in (by omega) (by omega)]
        exact h1 k hk
    · obtain ⟨a, b, c⟩ := hT 1 (by decide)
      refine ⟨?_, b, fun k hk => ?_⟩
      · rw [b_set_n (by omega), blk_out (by omega)]
        exact a
      · rw [b_set_n (by omega), blk_out (by omega)]
        exact c k hk
  · rw [if_neg (by decide)]
    refine h.lawsT (fun j hj => by rw [blk_out (by omega)]) (fun v hv => ?_) ?_
    · rcases (show v = 0 ∨ v = 1 by omega) with rfl | rfl
      · obtain ⟨a, b, c⟩ := hT 0 (by decide)
        refine ⟨?_, b, fun k hk => ?_⟩
        · rw [blk_out (by omega)]
          exact a
        · rw [blk_out (by omega)]
          exact c k hk
      · refine ⟨?_, hp, fun k hk => ?_⟩
        · rw [blk_in (by omega) (by omega)]
          exact h0
        · rw [blk_in (by omega) (by omega)]
          exact h1 k hk
    · intro v2 t2 d2 g1 g2 g3 g4
      have e : ∀ a b c, gvS (blk τ (1 + 5) 56 2) 1 0 a b c = gvS τ 1 0 a b c := fun a b c => by
        unfold gvS gvF
        rw [if_pos rfl, if_pos rfl, blk_out (by omega), blk_out (by omega)]
      rw [e, blk_out (by omega)]
      exact h.ca v2 t2 d2 g1 g2 g3 g4
theorem rs_off {σ : bSt} {n u j : Nat} {S : bR} (h1 : j ≠ 55) (h2 : j ≠ 56) (h3 : j ≠ 57) (h4 : j ≠ 59) : RS (rdB σ 55 20 n u) 55 S j = σ j := by
  unfold RS rdB
  rw [b_up_n h1, b_up_n h2, b_set_n h3, b_up_n h1, b_set_n h4, b_up_n h1]
theorem RC.rd {σ : bSt} {A : bA} {n u : Nat} {S : bR} (h : RC σ A) : RC (b_up (RS (rdB σ 55 20 n u) 55 S) 19 1 0) (setTp A (0, A.1.2.2.1.2)) :=
  (h.scrE (fun j _ _ _ hj => rs_off (by omega) (by omega) (by omega) (by omega)) (cacheOK_at h.ca (fun j a b _ _ => rs_off (by omega) (by omega) (by omega) (by omega))) (h.ro.at (fun j a b => rs_off (by omega) (by omega) (by omega) (by omega)))).fed0

set_option maxHeartbeats 4000000 in
set_option maxRecDepth 100000 in
theorem c_X9_text {w : bw} {σ : bSt} {A : bA} {use : Int32} (hs : sOpera w) (hR : RC σ A) : MV yX9_text cX9_text 3 (some .int) (rmm 121 4023) w [.ref (b_ad w 0), .int use] σ (pA (oText use A)) := by
  refine b_met (ls := [(0, .ref (b_ad w 0)), (1, .int use)]) (by decide) (Nat.le_of_ble_eq_true rfl) rfl (fun x h => ?_)
  refine v_iload_n h (i := 1) dX9_text_0 (q := 1) rfl rfl 1 rfl ?_
  refine v_iconst h (v := 0) dX9_text_1 (q := 2) rfl (by decide) ?_
  refine v_iconst h (v := 1) dX9_text_2 (q := 3) rfl (by decide) ?_
  refine v_callS h (As := [.int use, .int 0, .int 1]) (rest := []) (c_X9_within (v := use) (l := 0) (m := 1)) cal_X9_within m313 m312 ⟨rfl, rfl, Nat.le_of_ble_eq_true rfl, Nat.le_of_ble_eq_true rfl⟩ rfl rfl (Nat.le_of_ble_eq_true rfl) dX9_text_3 (q := 6) rfl (kB (fun c3 => ?_) (fun c3 => ?_))
  · refine v_if_ne h (t := 15) dX9_text_6 (by decide) (q := 9) rfl (fun _ => ?_) (fun c => absurd c (by decide))
    obtain ⟨u, hu, rfl⟩ := wi_0 (n := 1) c3 rfl
    refine v_aload_n h (i := 0) dX9_text_15 (q := 16) rfl rfl 0 rfl ?_
    refine v_get h (k := 10) (v := .ref (b_ad w 55)) cls9 hs.1.1 hs.1.2 (Nat.le_of_ble_eq_true rfl) m275 rfl dX9_text_16 (q := 19) rfl ?_
    refine v_aload_n h (i := 0) dX9_text_19 (q := 20) rfl rfl 0 rfl ?_
    refine v_get h (k := 2) (v := .ref (b_ad w 19)) cls9 hs.1.1 hs.1.2 (Nat.le_of_ble_eq_true rfl) m267 rfl dX9_text_20 (q := 23) rfl ?_
    refine v_getN h (k := 0) (v := .ref (b_ad w 20)) cls1 hs.2.2.2.1.1.1 hs.2.2.2.1.1.2 (Nat.le_of_ble_eq_true rfl) m152 rfl dX9_text_23 (q := 26) rfl ?_
    refine v_aload_n h (i := 0) dX9_text_26 (q := 27) rfl rfl 0 rfl ?_
    refine v_get h (k := 2) (v := .ref (b_ad w 19)) cls9 hs.1.1 hs.1.2 (Nat.le_of_ble_eq_true rfl) m267 rfl dX9_text_27 (q := 30) rfl ?_
    refine v_getN h (k := 1) (v := .int (σ 19 1)) cls1 hs.2.2.2.1.1.1 hs.2.2.2.1.1.2 (Nat.le_of_ble_eq_true rfl) m154 rfl dX9_text_30 (q := 33) rfl ?_
    rw [show (σ 19 1 : Int32) = nI A.1.2.2.1.1 from hR.fed.1]
    refine v_iload_n h (i := 1) dX9_text_33 (q := 34) rfl rfl 1 rfl ?_
    refine v_callV h (As := [.ref (b_ad w 20), .int (nI A.1.2.2.1.1), .int (nI u)]) (rest := []) (c_X5_reads (me := 55) (T := 20) (n := A.1.2.2.1.1) (u := u) (σ := σ) hs.2.2.2.2.2.2.2.2.2.2.2.1 hs.2.2.2.1.2.1 (by decide) hR.fed.2.1 (by omega)) cal_X5_reads calV_X5_reads m474 ⟨rfl, rfl, Nat.le_of_ble_eq_true rfl, Nat.le_of_ble_eq_true rfl⟩ rfl hs.2.2.2.2.2.2.2.2.2.2.2.1.1.1 hs.2.2.2.2.2.2.2.2.2.2.2.1.1.2 ⟨_, _, rfl⟩ rfl (Nat.le_of_ble_eq_true rfl) dX9_text_34 (q := 37) rfl (kB2 (fun c34 => ?_) (fun c34 => ?_))
    · refine v_istore_n h (i := 2) (ls1 := [(2, .int 1), (0, .ref (b_ad w 0)), (1, .int (nI u))]) dX9_text_37 (q := 38) rfl rfl (Nat.le_of_ble_eq_true rfl) rfl ?_
      refine v_aload_n h (i := 0) dX9_text_38 (q := 39) rfl rfl 1 rfl ?_
      refine v_get h (k := 2) (v := .ref (b_ad w 19)) cls9 hs.1.1 hs.1.2 (Nat.le_of_ble_eq_true rfl) m267 rfl dX9_text_39 (q := 42) rfl ?_
      refine v_iconst h (v := 0) dX9_text_42 (q := 43) rfl (by decide) ?_
      refine v_putN h (k := 1) cls1 hs.2.2.2.1.1.1 hs.2.2.2.1.1.2 (Nat.le_of_ble_eq_true rfl) rfl m154 rfl ⟨rfl, rfl⟩ dX9_text_43 (q := 46) rfl ?_
      refine v_iload_n h (i := 2) dX9_text_46 (q := 47) rfl rfl 0 rfl ?_
      refine v_if_ne h (t := 61) dX9_text_47 (by decide) (q := 50) rfl (fun _ => ?_) (fun c => absurd c (by decide))
      refine v_aload_n h (i := 0) dX9_text_61 (q := 62) rfl rfl 1 rfl ?_
      refine v_get h (k := 0) (v := .ref (b_ad w 1)) cls9 hs.1.1 hs.1.2 (Nat.le_of_ble_eq_true rfl) m265 rfl dX9_text_62 (q := 65) rfl ?_
      refine v_iload_n h (i := 1) dX9_text_65 (q := 66) rfl rfl 2 rfl ?_
      refine v_aload_n h (i := 0) dX9_text_66 (q := 67) rfl rfl 1 rfl ?_
      refine v_get h (k := 10) (v := .ref (b_ad w 55)) cls9 hs.1.1 hs.1.2 (Nat.le_of_ble_eq_true rfl) m275 rfl dX9_text_67 (q := 70) rfl ?_
      refine v_getN h (k := 0) (v := .ref (b_ad w 56)) cls5 hs.2.2.2.2.2.2.2.2.2.2.2.1.1.1 hs.2.2.2.2.2.2.2.2.2.2.2.1.1.2 (Nat.le_of_ble_eq_true rfl) m221 rfl dX9_text_70 (q := 73) rfl ?_
      refine v_callV h (As := [.int (nI u), .ref (b_ad w 56)]) (rest := []) (c_X3_adopt (me := 1) (o := 56) (use := nI u) (σ := b_up (RS (rdB σ 55 20 A.1.2.2.1.1 u) 55 (rdR σ 20 A.1.2.2.1.1 u (σ (55 + 2))).2) 19 1 0) hs.2.1 hs.2.2.2.2.2.2.2.2.2.2.2.1.2.1 (by omega)) cal_X3_adopt calV_X3_adopt m532 ⟨rfl, rfl, Nat.le_of_ble_eq_true rfl, Nat.le_of_ble_eq_true rfl⟩ rfl hs.2.1.1.1 hs.2.1.1.2 ⟨_, _, rfl⟩ rfl (Nat.le_of_ble_eq_true rfl) dX9_text_73 (q := 76) rfl (kU ?_)
      refine v_iconst h (v := 1) dX9_text_76 (q := 77) rfl (by decide) ?_
      exact v_iret h dX9_text_77 (pA_of (by unfold oText; rw [if_pos (show wj (nI u) 0 1 from c3), cl_nI (n := u) (by omega), if_pos ⟨(tx_eq hR (u := u) (g := σ (55 + 2))).1.symm.trans c34.1, (tx_eq hR (u := u) (g := σ (55 + 2))).2.1.symm.trans c34.2⟩]) (hR.rd.text (by omega) (tx_ok (by omega) hR.fed.2.1 ((tx_eq hR (u := u) (g := σ (55 + 2))).1.symm.trans c34.1)) (by rw [b_up_n (by decide), ← (tx_eq hR (u := u) (g := σ (55 + 2))).2.2.1]; exact RS_l (me := 55)) (fun k hk => by rw [b_up_n (by decide), ← (tx_eq hR (u := u) (g := σ (55 + 2))).2.2.2 k (by rw [(tx_eq hR (u := u) (g := σ (55 + 2))).2.2.1]; exact hk)]; unfold RS; rw [b_up_n (by decide), b_up_n (by decide), show (55 + 2 : Nat) = 57 from rfl, b_set_s])))
    · refine v_istore_n h (i := 2) (ls1 := [(2, .int 0), (0, .ref (b_ad w 0)), (1, .int (nI u))]) dX9_text_37 (q := 38) rfl rfl (Nat.le_of_ble_eq_true rfl) rfl ?_
      refine v_aload_n h (i := 0) dX9_text_38 (q := 39) rfl rfl 1 rfl ?_
      refine v_get h (k := 2) (v := .ref (b_ad w 19)) cls9 hs.1.1 hs.1.2 (Nat.le_of_ble_eq_true rfl) m267 rfl dX9_text_39 (q := 42) rfl ?_
      refine v_iconst h (v := 0) dX9_text_42 (q := 43) rfl (by decide) ?_
      refine v_putN h (k := 1) cls1 hs.2.2.2.1.1.1 hs.2.2.2.1.1.2 (Nat.le_of_ble_eq_true rfl) rfl m154 rfl ⟨rfl, rfl⟩ dX9_text_43 (q := 46) rfl ?_
      refine v_iload_n h (i := 2) dX9_text_46 (q := 47) rfl rfl 0 rfl ?_
      refine v_if_ne h (t := 61) dX9_text_47 (by decide) (q := 50) rfl (fun c => absurd (by decide) c) (fun _ => ?_)
      refine v_bipush h (v := -10) dX9_text_50 (q := 52) rfl (by decide) ?_
      refine v_aload_n h (i := 0) dX9_text_52 (q := 53) rfl rfl 1 rfl ?_
      refine v_get h (k := 10) (v := .ref (b_ad w 55)) cls9 hs.1.1 hs.1.2 (Nat.le_of_ble_eq_true rfl) m275 rfl dX9_text_53 (q := 56) rfl ?_
      refine v_getN h (k := 3) (v := .int ((b_up (RS (rdB σ 55 20 A.1.2.2.1.1 u) 55 (rdR σ 20 A.1.2.2.1.1 u (σ (55 + 2))).2) 19 1 0) 55 3)) cls5 hs.2.2.2.2.2.2.2.2.2.2.2.1.1.1 hs.2.2.2.2.2.2.2.2.2.2.2.1.1.2 (Nat.le_of_ble_eq_true rfl) m225 rfl dX9_text_56 (q := 59) rfl ?_
      rw [show ((b_up (RS (rdB σ 55 20 A.1.2.2.1.1 u) 55 (rdR σ 20 A.1.2.2.1.1 u (σ (55 + 2))).2) 19 1 0) 55 3 : Int32) = nI (rdR σ 20 A.1.2.2.1.1 u (σ (55 + 2))).2.1 from (by rw [b_up_n (by decide)]; exact RS_3)]
      refine v_isub h dX9_text_59 (q := 60) rfl ?_
      exact v_iret h dX9_text_60 (pA_of (by unfold oText; rw [if_pos (show wj (nI u) 0 1 from c3), cl_nI (n := u) (by omega), if_neg (fun z => c34 ⟨(tx_eq hR (u := u) (g := σ (55 + 2))).1.trans z.1, (tx_eq hR (u := u) (g := σ (55 + 2))).2.1.trans z.2⟩), (tx_eq hR (u := u) (g := σ (55 + 2))).2.1]) hR.rd)
  · refine v_if_ne h (t := 15) dX9_text_6 (by decide) (q := 9) rfl (fun c => absurd (by decide) c) (fun _ => ?_)
    refine v_aload_n h (i := 0) dX9_text_9 (q := 10) rfl rfl 0 rfl ?_
    refine v_iconst h (v := 1) dX9_text_10 (q := 11) rfl (by decide) ?_
    refine v_callV h (As := [.int 1]) (rest := []) (c_ref (σ := σ) hs (e := 1) (by decide) rfl) cal_X9_refuse calV_X9_refuse m315 ⟨rfl, rfl, Nat.le_of_ble_eq_true rfl, Nat.le_of_ble_eq_true rfl⟩ rfl hs.1.1 hs.1.2 ⟨_, _, rfl⟩ rfl (Nat.le_of_ble_eq_true rfl) dX9_text_11 (q := 14) rfl (kI ?_)
    exact v_iret h dX9_text_14 (pA_of (by unfold oText; rw [if_neg (fun z => by first | exact c3 z)]; rfl) (hR.err (by decide)))
