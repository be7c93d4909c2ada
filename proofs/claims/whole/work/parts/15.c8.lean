def gB (g : bG) : Prop := ∀ u a b c, ∃ v : Nat, v ≤ 99 ∧ g u a b c = nI v
theorem clmp_nI (x : Int32) : ∃ v : Nat, v ≤ 99 ∧ clmp x = nI v := by
  unfold clmp imax imin
  have h99 : (99 : Int32).toInt = 99 := rfl
  have h0 : (0 : Int32).toInt = 0 := rfl
  by_cases c1 : x < 99
  · rw [if_pos c1]
    by_cases c2 : 0 < x
    · rw [if_pos c2]
      rw [i_lt] at c1 c2
      obtain ⟨k, hk, e⟩ := nI_of (x := x) (by rw [i_lt]; omega)
      have := nI_toInt hk
      rw [← e] at this
      exact ⟨k, by omega, e⟩
    · rw [if_neg c2]
      exact ⟨0, by decide, rfl⟩
  · rw [if_neg c1, if_pos (by decide)]
    exact ⟨99, by decide, rfl⟩
theorem gvS_B (σ : bSt) (L : Nat) : gB (gvS σ L) := by
  intro u a b c
  unfold gvS gvF
  split <;> exact clmp_nI _
theorem imin_nI {a b : Nat} (ha : a < 2 ^ 31) (hb : b < 2 ^ 31) : imin (nI a) (nI b) = nI (min a b) := by
  unfold imin
  by_cases c : b < a
  · rw [if_pos (nI_lt c ha), Nat.min_eq_right (by omega)]
  · rw [if_neg (nI_nlt (by omega) hb), Nat.min_eq_left (by omega)]
theorem nx_rng0 : ∀ c : Nat, c < 64 → ∀ k : Nat, k < 5 → ∃ d : Nat, d < 64 ∧ nxC (nI c) (nI k) = nI d := by
  intro c hc k hk
  exact ⟨(nxC (nI c) (nI k)).toNatClampNeg, (show ∀ c : Nat, c < 64 → ∀ k : Nat, k < 5 → (nxC (nI c) (nI k)).toNatClampNeg < 64 by decide +kernel) c hc k hk, (show ∀ c : Nat, c < 64 → ∀ k : Nat, k < 5 → nxC (nI c) (nI k) = nI (nxC (nI c) (nI k)).toNatClampNeg by decide +kernel) c hc k hk⟩
theorem nx_rng {c : Nat} (hc : c < 64) (way : Int32) : ∃ d : Nat, d < 64 ∧ nxC (nI c) way = nI d := by
  by_cases e1 : way = 1
  · exact e1 ▸ nx_rng0 c hc 1 (by decide)
  · by_cases e2 : way = 2
    · exact e2 ▸ nx_rng0 c hc 2 (by decide)
    · by_cases e3 : way = 3
      · exact e3 ▸ nx_rng0 c hc 3 (by decide)
      · by_cases e4 : way = 4
        · exact e4 ▸ nx_rng0 c hc 4 (by decide)
        · refine ⟨c, hc, ?_⟩
          unfold nxC
          rw [if_neg e1, if_neg e2, if_neg e3, if_neg e4]
theorem mv_rng {c : Nat} (hc : c < 64) (kind m : Int32) (sg : Prop) [Decidable sg] (t tide : Int32) : ∃ d : Nat, d < 64 ∧ mvC kind m sg (nI c) t tide = nI d := by
  have hr : ∃ d : Nat, d < 64 ∧ rkC (nI c) t tide = nI d := by
    unfold rkC
    split
    · exact nx_rng hc _
    · exact ⟨c, hc, rfl⟩
  have hp : ∃ d : Nat, d < 64 ∧ plC m (nI c) t tide = nI d := by
    obtain ⟨d, hd, e⟩ := hr
    unfold plC
    rw [e]
    split
    · exact nx_rng hd _
    · exact ⟨d, hd, rfl⟩
  have hc0 : ∃ d : Nat, d < 64 ∧ nI c = nI d := ⟨c, hc, rfl⟩
  unfold mvC
  split
  · exact hr
  · split
    · exact nx_rng hc _
    · split
      · exact hp
      · split
        · split
          · exact hc0
          · exact nx_rng hc _
        · split
          · split
            · exact hp
            · exact hc0
          · exact hc0
theorem IvN.cell {N : bN} (h : IvN N) {b : Nat} (hb : b < 9) : ∃ c, c < 64 ∧ N (14 + 4 * b) = nI c := (h.2.2.2.2.2.2.1 b hb).2.2
theorem IvN.upc {N : bN} (h : IvN N) {b c : Nat} (hb9 : b < 9) (hc : c < 64) : IvN (upd N (14 + 4 * b) (nI c)) := by
  obtain ⟨h0, h1, h2, h6, h7, h8, hb2, hl⟩ := h
  have u : ∀ k, k ≠ 14 + 4 * b → upd N (14 + 4 * b) (nI c) k = N k := fun k hk => upd_n hk
  refine ⟨by rw [u 0 (by omega)]; exact h0, by rw [u 1 (by omega)]; exact h1, fun p hp => by rw [u (2 + p) (by omega)]; exact h2 p hp, by rw [u 6 (by omega)]; exact h6, by rw [u 7 (by omega)]; exact h7, by rw [u 8 (by omega)]; exact h8, fun d hd => ?_, fun l hl2 => ?_⟩
  · rw [u (12 + 4 * d) (by omega), u (13 + 4 * d) (by omega)]
    refine ⟨(hb2 d hd).1, (hb2 d hd).2.1, ?_⟩
    by_cases e : d = b
    · subst e
      rw [upd_s]
      exact ⟨c, hc, rfl⟩
    · rw [u (14 + 4 * d) (by omega)]
      exact (hb2 d hd).2.2
  · rw [u (48 + 3 * l) (by omega), u (49 + 3 * l) (by omega), u (50 + 3 * l) (by omega)]
    exact hl l hl2
theorem mvN_off {N : bN} {k : Nat} : ∀ n, n ≤ 9 → (∀ b, b < n → k ≠ 14 + 4 * b) → mvN N n k = N k
  | 0, _, _ => rfl
  | n + 1, hn, h => by
    rw [mvN]
    split
    · rw [upd_n (h n (by omega))]
      exact mvN_off n (by omega) (fun b hb => h b (by omega))
    · exact mvN_off n (by omega) (fun b hb => h b (by omega))
theorem IvN.mv {N : bN} (h : IvN N) : ∀ n, n ≤ 9 → IvN (mvN N n)
  | 0, _ => h
  | n + 1, hn => by
    rw [mvN]
    split
    · obtain ⟨c, hc, e⟩ := h.cell (b := n) (by omega)
      obtain ⟨d, hd, e2⟩ := mv_rng hc (N (12 + 4 * n)) (N (13 + 4 * n)) (sgN N n = true) (nI (tN N)) (N (2 + tN N / 8))
      unfold mv1N
      rw [e, e2]
      exact (h.mv n (by omega)).upc (by omega) hd
    · exact h.mv n (by omega)
theorem tN_eq {N M : bN} (h : M 0 = N 0) : tN M = tN N := by unfold tN; rw [h]
theorem mv1_mv {N : bN} (n : Nat) (hn : n < 9) (ht : tN N < 32) : mv1N (mvN N n) n = mv1N N n := by
  unfold mv1N sgN
  have o : ∀ k, (∀ b, b < n → k ≠ 14 + 4 * b) → mvN N n k = N k := fun k hk => mvN_off n (by omega) hk
  rw [tN_eq (o 0 (by omega)), o (12 + 4 * n) (by omega), o (13 + 4 * n) (by omega), o (14 + 4 * n) (by omega), o (15 + 4 * n) (by omega), o (2 + tN N / 8) (by omega)]
theorem afN_mv {N : bN} {n : Nat} (hn : n ≤ 9) : afN (mvN N n) = afN N := by
  unfold afN
  rw [mvN_off n hn (by omega)]
theorem lis1_off {g : bG} {N : bN} {heard : Int32} {l k : Nat} (h1 : k ≠ 49 + 3 * l) (h2 : k ≠ 50 + 3 * l) (h3 : k ≠ 6) : lis1 g N heard l k = N k := by
  unfold lis1
  rw [upd_n h3, upd_n h2, upd_n h1]
theorem lisN_off {g : bG} {N : bN} {heard : Int32} {k : Nat} (h3 : k ≠ 6) : ∀ n, (∀ l, l < n → k ≠ 49 + 3 * l ∧ k ≠ 50 + 3 * l) → lisN g N heard n k = N k
  | 0, _ => rfl
  | n + 1, h => by
    rw [lisN]
    split
    · rw [lis1_off (h n (by omega)).1 (h n (by omega)).2 h3]
      exact lisN_off h3 n (fun l hl => h l (by omega))
    · exact lisN_off h3 n (fun l hl => h l (by omega))
theorem lis1_it {g : bG} {N : bN} {heard : Int32} {l : Nat} : lis1 g N heard l (49 + 3 * l) = imin 9999 (N (49 + 3 * l) + (if togN g N (N (48 + 3 * l)) heard = true then 1 else 0)) := by
  unfold lis1
  rw [upd_n (by omega), upd_n (by omega), upd_s]
theorem lis1_co {g : bG} {N : bN} {heard : Int32} {l : Nat} : lis1 g N heard l (50 + 3 * l) = N (50 + 3 * l) - imin (g 1 (bcJ heard) (if togN g N (N (48 + 3 * l)) heard = true then 1 else 0) (nI (tN N))) (N (50 + 3 * l)) := by
  unfold lis1
  rw [upd_n (by omega), upd_s]
theorem lis1_pu {g : bG} {N : bN} {heard : Int32} {l : Nat} : lis1 g N heard l 6 = imin 999999 (N 6 + imin (g 1 (bcJ heard) (if togN g N (N (48 + 3 * l)) heard = true then 1 else 0) (nI (tN N))) (N (50 + 3 * l))) := by
  unfold lis1
  rw [upd_s]
theorem IvN_lis1 {g : bG} (hg : gB g) {N : bN} (h : IvN N) {heard : Int32} {l : Nat} (hl6 : l < 6) : IvN (lis1 g N heard l) := by
  obtain ⟨h0, h1, h2, h6, h7, h8, hb2, hl⟩ := h
  have o : ∀ k, k ≠ 49 + 3 * l → k ≠ 50 + 3 * l → k ≠ 6 → lis1 g N heard l k = N k := fun k a b c => lis1_off a b c
  obtain ⟨c, hc, ec⟩ := (hl l hl6).2.2
  obtain ⟨it, hit, eit⟩ := (hl l hl6).2.1
  obtain ⟨pu, hpu, epu⟩ := h6
  obtain ⟨v, hv, ev⟩ := hg 1 (bcJ heard) (if togN g N (N (48 + 3 * l)) heard = true then 1 else 0) (nI (tN N))
  refine ⟨by rw [o 0 (by omega) (by omega) (by omega)]; exact h0, by rw [o 1 (by omega) (by omega) (by omega)]; exact h1, fun p hp => by rw [o (2 + p) (by omega) (by omega) (by omega)]; exact h2 p hp, ?_, by rw [o 7 (by omega) (by omega) (by omega)]; exact h7, by rw [o 8 (by omega) (by omega) (by omega)]; exact h8, fun d hd => ?_, fun d hd => ?_⟩
  · rw [lis1_pu, ev, ec, epu, imin_nI (by omega) (by omega), nI_add]
    exact ⟨min 999999 (pu + min v c), by omega, imin_nI (a := 999999) (by decide) (by omega)⟩
  · rw [o (12 + 4 * d) (by omega) (by omega) (by omega), o (13 + 4 * d) (by omega) (by omega) (by omega), o (14 + 4 * d) (by omega) (by omega) (by omega)]
    exact hb2 d hd
  · rw [o (48 + 3 * d) (by omega) (by omega) (by omega)]
    by_cases e : d = l
    · subst e
      refine ⟨(hl d hd).1, ?_, ?_⟩
      · rw [lis1_it, eit]
        split
        · rw [nI_1]
          exact ⟨min 9999 (it + 1), by omega, imin_nI (a := 9999) (by decide) (by omega)⟩
        · rw [Int32.add_zero]
          exact ⟨min 9999 it, by omega, imin_nI (a := 9999) (by decide) (by omega)⟩
      · rw [lis1_co, ev, ec, imin_nI (by omega) (by omega), nI_sub _ (Nat.min_le_right _ _)]
        exact ⟨c - min v c, by omega, rfl⟩
    · rw [o (49 + 3 * d) (by omega) (by omega) (by omega), o (50 + 3 * d) (by omega) (by omega) (by omega)]
      exact hl d hd
theorem IvN_lis {g : bG} (hg : gB g) {N : bN} (h : IvN N) {heard : Int32} : ∀ n, n ≤ 6 → IvN (lisN g N heard n)
  | 0, _ => h
  | n + 1, hn => by
    rw [lisN]
    split
    · exact IvN_lis1 hg (IvN_lis hg h n (by omega)) (by omega)
    · exact IvN_lis hg h n (by omega)
theorem IvN_upz {N : bN} (h : IvN N) (z : Int32) : IvN (upd N 11 z) := by
  have u : ∀ k, k ≠ 11 → upd N 11 z k = N k := fun k hk => upd_n hk
  obtain ⟨h0, h1, h2, h6, h7, h8, hb2, hl⟩ := h
  refine ⟨by rw [u 0 (by omega)]; exact h0, by rw [u 1 (by omega)]; exact h1, fun p hp => by rw [u (2 + p) (by omega)]; exact h2 p hp, by rw [u 6 (by omega)]; exact h6, by rw [u 7 (by omega)]; exact h7, by rw [u 8 (by omega)]; exact h8, fun d hd => ?_, fun l hl2 => ?_⟩
  · rw [u (12 + 4 * d) (by omega), u (13 + 4 * d) (by omega), u (14 + 4 * d) (by omega)]
    exact hb2 d hd
  · rw [u (48 + 3 * l) (by omega), u (49 + 3 * l) (by omega), u (50 + 3 * l) (by omega)]
    exact hl l hl2
theorem IvN_all {N : bN} (h : IvN N) {t : Nat} (ht : t + 1 < 20000) (e : N 0 = nI t) : IvN (allN N) := by
  have hm := h.mv 9 (Nat.le_refl 9)
  unfold allN
  have u : ∀ k, k ≠ 0 → upd (mvN N 9) 0 (N 0 + 1) k = mvN N 9 k := fun k hk => upd_n hk
  obtain ⟨h0, h1, h2, h6, h7, h8, hb2, hl⟩ := hm
  refine ⟨⟨t + 1, ht, by rw [upd_s, e, nI_1]⟩, by rw [u 1 (by omega)]; exact h1, fun p hp => by rw [u (2 + p) (by omega)]; exact h2 p hp, by rw [u 6 (by omega)]; exact h6, by rw [u 7 (by omega)]; exact h7, by rw [u 8 (by omega)]; exact h8, fun d hd => ?_, fun l hl2 => ?_⟩
  · rw [u (12 + 4 * d) (by omega), u (13 + 4 * d) (by omega), u (14 + 4 * d) (by omega)]
    exact hb2 d hd
  · rw [u (48 + 3 * l) (by omega), u (49 + 3 * l) (by omega), u (50 + 3 * l) (by omega)]
    exact hl l hl2

section VU
variable {σ : bSt} {sc L : Nat} {v : Int32}
theorem vw_upb {f b : Nat} (hf : f < 4) (hb : b < 9) (hd : sc + 9 ≤ L ∨ L + 9 ≤ sc) : vw (b_up σ (sc + 2 + f) b v) sc L = upd (vw σ sc L) (12 + f + 4 * b) v := by
  funext k
  by_cases e : k = 12 + f + 4 * b
  · subst e
    rw [upd_s, vw_b hb hf, b_up_s, upd_s]
  · rw [upd_n e]
    unfold vw
    rw [b_up_n (show sc ≠ sc + 2 + f by omega), b_up_n (show L ≠ sc + 2 + f by omega), b_up_n (show L + 1 ≠ sc + 2 + f by omega), b_up_n (show sc + 1 ≠ sc + 2 + f by omega)]
    by_cases c : 12 ≤ k ∧ k < 48
    · rw [if_pos c, if_pos c]
      by_cases e2 : (k - 12) % 4 = f
      · rw [e2, b_up_s, upd_n (show (k - 12) / 4 ≠ b by omega)]
      · rw [b_up_n (show sc + 2 + (k - 12) % 4 ≠ sc + 2 + f by omega)]
    · rw [if_neg c, if_neg c]
      by_cases c2 : 48 ≤ k ∧ k < 66
      · rw [if_pos c2, if_pos c2, b_up_n (show sc + 6 + (k - 48) % 3 ≠ sc + 2 + f by omega)]
      · rw [if_neg c2, if_neg c2]
theorem vw_upl {f l : Nat} (hf : f < 3) (hl : l < 6) (hd : sc + 9 ≤ L ∨ L + 9 ≤ sc) : vw (b_up σ (sc + 6 + f) l v) sc L = upd (vw σ sc L) (48 + f + 3 * l) v := by
  funext k
  by_cases e : k = 48 + f + 3 * l
  · subst e
    rw [upd_s, vw_l hl hf, b_up_s, upd_s]
  · rw [upd_n e]
    unfold vw
    rw [b_up_n (show sc ≠ sc + 6 + f by omega), b_up_n (show L ≠ sc + 6 + f by omega), b_up_n (show L + 1 ≠ sc + 6 + f by omega), b_up_n (show sc + 1 ≠ sc + 6 + f by omega)]
    by_cases c : 12 ≤ k ∧ k < 48
    · rw [if_pos c, if_pos c, b_up_n (show sc + 2 + (k - 12) % 4 ≠ sc + 6 + f by omega)]
    · rw [if_neg c, if_neg c]
      by_cases c2 : 48 ≤ k ∧ k < 66
      · rw [if_pos c2, if_pos c2]
        by_cases e2 : (k - 48) % 3 = f
        · rw [e2, b_up_s, upd_n (show (k - 48) / 3 ≠ l by omega)]
        · rw [b_up_n (show sc + 6 + (k - 48) % 3 ≠ sc + 6 + f by omega)]
      · rw [if_neg c2, if_neg c2]
theorem vw_ups {f K : Nat} (hK : (f = 0 ∧ K = 0) ∨ (f = 1 ∧ K = 6) ∨ (f = 2 ∧ K = 11) ∨ (f = 4 ∧ K = 8)) (hd : sc + 9 ≤ L ∨ L + 9 ≤ sc) : vw (b_up σ sc f v) sc L = upd (vw σ sc L) K v := by
  funext k
  by_cases e : k = K
  · subst e
    rw [upd_s]
    rcases hK with ⟨rfl, rfl⟩ | ⟨rfl, rfl⟩ | ⟨rfl, rfl⟩ | ⟨rfl, rfl⟩
    · rw [vw_0, b_up_s, upd_s]
    · rw [vw_6, b_up_s, upd_s]
    · rw [vw_11, b_up_s, upd_s]
    · rw [vw_8, b_up_s, upd_s]
  · rw [upd_n e]
    unfold vw
    rw [b_up_s, b_up_n (show L ≠ sc by omega), b_up_n (show L + 1 ≠ sc by omega), b_up_n (show sc + 1 ≠ sc by omega), b_up_n (show sc + 2 + (k - 12) % 4 ≠ sc by omega), b_up_n (show sc + 6 + (k - 48) % 3 ≠ sc by omega)]
    rcases hK with ⟨rfl, rfl⟩ | ⟨rfl, rfl⟩ | ⟨rfl, rfl⟩ | ⟨rfl, rfl⟩
    · rw [if_neg e, if_neg e, upd_n (by decide), upd_n (by decide), upd_n (by decide)]
    · rw [upd_n (show (0 : Nat) ≠ 1 by decide), upd_n (show (4 : Nat) ≠ 1 by decide), upd_n (show (2 : Nat) ≠ 1 by decide), if_neg e, if_neg e]
    · rw [upd_n (show (0 : Nat) ≠ 2 by decide), upd_n (show (4 : Nat) ≠ 2 by decide), upd_n (show (1 : Nat) ≠ 2 by decide), if_neg e, if_neg e]
    · rw [upd_n (show (0 : Nat) ≠ 4 by decide), upd_n (show (2 : Nat) ≠ 4 by decide), upd_n (show (1 : Nat) ≠ 4 by decide), if_neg e, if_neg e]
theorem vw_upa (hd : sc + 9 ≤ L ∨ L + 9 ≤ sc) : vw (b_up σ (sc + 1) 0 v) sc L = upd (vw σ sc L) 7 v := by
  funext k
  by_cases e : k = 7
  · subst e
    rw [upd_s, vw_7, b_up_s, upd_s]
  · rw [upd_n e]
    unfold vw
    rw [b_up_s, b_up_n (show L ≠ sc + 1 by omega), b_up_n (show L + 1 ≠ sc + 1 by omega), b_up_n (show sc ≠ sc + 1 by omega), b_up_n (show sc + 2 + (k - 12) % 4 ≠ sc + 1 by omega), b_up_n (show sc + 6 + (k - 48) % 3 ≠ sc + 1 by omega), if_neg e, if_neg e]
theorem vw_scr {τ : bSt} (h : scr L σ τ) (hd : sc + 9 ≤ L ∨ L + 9 ≤ sc) : vw τ sc L = vw σ sc L :=
  vw_ext (fun k _ => by rw [h sc (by omega) (by omega) (by omega)]) (by rw [h L (by omega) (by omega) (by omega)]) (h (L + 1) (by omega) (by omega) (by omega)) (by rw [h (sc + 1) (by omega) (by omega) (by omega)]) (fun f h2 h9 => h (sc + f) (by omega) (by omega) (by omega))
end VU
