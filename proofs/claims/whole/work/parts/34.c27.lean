/-! the look-out over the lagoon's numbers -/
theorem bitF_tab : ∀ b : Nat, b < 9 → ∀ i : Nat, i < 32 → (bitF b).toBitVec.getLsbD i = decide (i = b) ∧ (bitF b ^^^ -1).toBitVec.getLsbD i = !decide (i = b) := by decide +kernel
theorem bx_sh : ∀ n : Nat, n < 32 → (((nI n).toUInt32 &&& 31).toBitVec % 32#32).toNat = n := by decide +kernel
theorem bx_one : ∀ i : Nat, i < 32 → (1 : Int32).toBitVec.getLsbD i = decide (i = 0) := by decide +kernel
/-- a bit of a number, as the code asks for it -/
theorem bx_of {x : Int32} {b : Nat} (hb : b < 32) (h : x.toBitVec.getLsbD b = false) : ushr x (nI b) &&& 1 = 0 := by
  apply Int32.toBitVec_inj.mp
  rw [Int32.toBitVec_and]
  have e : (ushr x (nI b)).toBitVec = x.toBitVec >>> b := by
    show (x.toUInt32 >>> ((nI b).toUInt32 &&& 31)).toBitVec = _
    rw [UInt32.toBitVec_shiftRight]
    show x.toBitVec >>> (((nI b).toUInt32 &&& 31).toBitVec % 32#32).toNat = _
    rw [bx_sh b hb]
  rw [e]
  apply BitVec.eq_of_getLsbD_eq
  intro i hi
  rw [BitVec.getLsbD_and, BitVec.getLsbD_ushiftRight, bx_one i hi]
  by_cases c : i = 0
  · subst c
    rw [Nat.add_zero, h]
    rfl
  · rw [decide_eq_false c, Bool.and_false]
    exact BitVec.getLsbD_zero.symm
/-- where boat b is behind k beats -/
def pN (N : bN) (b bt : Nat) : Nat → Int32
  | 0 => N (14 + 4 * b)
  | k + 1 => mvC (N (12 + 4 * b)) (N (13 + 4 * b)) (ushr (N (15 + 4 * b)) (nI ((bt + k) % 32)) &&& 1 = 1) (pN N b bt k) (nI ((bt + k) % 32)) (N (2 + (bt + k) % 32 / 8))
/-- who sings in a beat of the piece -/
def skN (N : bN) (t : Nat) : Nat → Int32
  | 0 => 0
  | m + 1 => if m < afN N ∧ ushr (N (15 + 4 * m)) (nI t) &&& 1 = 1 then skN N t m ||| bitF m else skN N t m
theorem sng_sk {M N : bN} {t : Nat} (h7 : afN M = afN N) (hp : ∀ b, b < 9 → M (15 + 4 * b) = N (15 + 4 * b)) (ht : tN M = t) : ∀ m, m ≤ 9 → sngN M m = skN N t m
  | 0, _ => rfl
  | m + 1, hm => by
    rw [sngN, skN, sng_sk h7 hp ht m (by omega)]
    have e : (m < afN M ∧ sgN M m = true) ↔ (m < afN N ∧ ushr (N (15 + 4 * m)) (nI t) &&& 1 = 1) := by
      unfold sgN
      rw [decide_eq_true_eq, h7, ht, hp m (by omega)]
    by_cases c : m < afN N ∧ ushr (N (15 + 4 * m)) (nI t) &&& 1 = 1
    · rw [if_pos c, if_pos (e.mpr c)]
      rfl
    · rw [if_neg c, if_neg (fun z => c (e.mp z))]
theorem mv_at {M : bN} {b : Nat} (hb : b < afN M) : ∀ n, n ≤ 9 → b < n → mvN M n (14 + 4 * b) = mv1N M b
  | 0, _, h => absurd h (Nat.not_lt_zero b)
  | n + 1, hn, h => by
    rw [mvN]
    by_cases e : b = n
    · subst e
      rw [if_pos hb, upd_s]
    · split
      · rw [upd_n (by omega)]
        exact mv_at hb n (by omega) (by omega)
      · exact mv_at hb n (by omega) (by omega)
section ALM
variable {N : bN} {bt b : Nat}
theorem alm_off {j : Nat} (h0 : j ≠ 0) (h : ∀ b, b < 9 → j ≠ 14 + 4 * b) : ∀ k, almN N k j = N j
  | 0 => rfl
  | k + 1 => by
    show allN (almN N k) j = _
    unfold allN
    rw [upd_n h0, mvN_off 9 (Nat.le_refl 9) h, alm_off h0 h k]
theorem alm_0 : ∀ k, almN N k 0 = N 0 + nI k
  | 0 => by
    show N 0 = N 0 + nI 0
    rw [show nI 0 = 0 from rfl, Int32.add_zero]
  | k + 1 => by
    show allN (almN N k) 0 = _
    unfold allN
    rw [upd_s, alm_0 k, Int32.add_assoc, nI_1]
theorem alm_t {k : Nat} (e : N 0 = nI bt) (h : bt + k < 2 ^ 31) : tN (almN N k) = (bt + k) % 32 := by
  unfold tN
  rw [alm_0, e, nI_add, nI_clamp h]
theorem alm_af {k : Nat} : afN (almN N k) = afN N := by
  unfold afN
  rw [alm_off (by decide) (by omega)]
theorem alm_p (e : N 0 = nI bt) (hb9 : b < 9) (hb : b < afN N) : ∀ k, bt + k < 2 ^ 31 → almN N k (14 + 4 * b) = pN N b bt k
  | 0, _ => rfl
  | k + 1, hk => by
    show allN (almN N k) (14 + 4 * b) = _
    unfold allN
    rw [upd_n (by omega), mv_at (by rw [alm_af]; exact hb) 9 (Nat.le_refl 9) hb9]
    unfold mv1N sgN
    rw [alm_t e (by omega), alm_off (j := 12 + 4 * b) (by omega) (by omega), alm_off (j := 13 + 4 * b) (by omega) (by omega), alm_off (j := 15 + 4 * b) (by omega) (by omega), alm_off (j := 2 + (bt + k) % 32 / 8) (by omega) (by omega), alm_p e hb9 hb k (by omega), pN]
    congr 1
    exact propext decide_eq_true_iff
theorem alm_sng {k m : Nat} (e : N 0 = nI bt) (h : bt + k < 2 ^ 31) (hm : m ≤ 9) : sngN (almN N k) m = skN N ((bt + k) % 32) m :=
  sng_sk alm_af (fun b _ => alm_off (by omega) (by omega) k) (alm_t e h) m hm
end ALM
theorem sk_bit {N : bN} {t : Nat} : ∀ m, m ≤ 9 → ∀ i, i < 32 → (skN N t m).toBitVec.getLsbD i = decide (i < m ∧ i < afN N ∧ ushr (N (15 + 4 * i)) (nI t) &&& 1 = 1)
  | 0, _, i, _ => by
    rw [decide_eq_false (fun z => Nat.not_lt_zero _ z.1)]
    exact BitVec.getLsbD_zero
  | m + 1, hm, i, hi => by
    have ih := sk_bit (N := N) (t := t) m (by omega) i hi
    rw [skN]
    split
    · rename_i h
      rw [Int32.toBitVec_or, BitVec.getLsbD_or, ih, (bitF_tab m (by omega) i hi).1, Bool.eq_iff_iff, Bool.or_eq_true, decide_eq_true_eq, decide_eq_true_eq, decide_eq_true_eq]
      constructor
      · rintro (⟨a, b⟩ | rfl)
        · exact ⟨by omega, b⟩
        · exact ⟨by omega, h⟩
      · rintro ⟨a, b⟩
        by_cases e : i = m
        · exact Or.inr e
        · exact Or.inl ⟨by omega, b⟩
    · rename_i h
      rw [ih, decide_eq_decide]
      constructor
      · rintro ⟨a, b⟩
        exact ⟨by omega, b⟩
      · rintro ⟨a, b⟩
        have : i ≠ m := fun e => h (e ▸ b)
        exact ⟨by omega, b⟩
theorem i32_ext {x y : Int32} (h : ∀ i, i < 32 → x.toBitVec.getLsbD i = y.toBitVec.getLsbD i) : x = y := Int32.toBitVec_inj.mp (BitVec.eq_of_getLsbD_eq (fun i hi => h i hi))
theorem sk_re {N N' : bN} {t b : Nat} (hb : b < 9) (hb2 : b < afN N) (h7 : afN N' = afN N) (ho : ∀ i, i < 9 → i ≠ b → N' (15 + 4 * i) = N (15 + 4 * i)) : (if ushr (N' (15 + 4 * b)) (nI t) &&& 1 = 1 then skN N t 9 ||| bitF b else skN N t 9 &&& (bitF b ^^^ -1)) = skN N' t 9 := by
  apply i32_ext
  intro i hi
  rw [sk_bit 9 (Nat.le_refl 9) i hi, h7]
  split
  · rename_i c
    rw [Int32.toBitVec_or, BitVec.getLsbD_or, sk_bit 9 (Nat.le_refl 9) i hi, (bitF_tab b hb i hi).1, Bool.eq_iff_iff, Bool.or_eq_true, decide_eq_true_eq, decide_eq_true_eq, decide_eq_true_eq]
    by_cases e : i = b
    · subst e
      exact ⟨fun _ => ⟨hb, hb2, c⟩, fun _ => Or.inr rfl⟩
    · constructor
      · rintro (⟨a1, a2, a3⟩ | z)
        · exact ⟨a1, a2, by rw [ho i a1 e]; exact a3⟩
        · exact absurd z e
      · rintro ⟨a1, a2, a3⟩
        rw [ho i a1 e] at a3
        exact Or.inl ⟨a1, a2, a3⟩
  · rename_i c
    rw [Int32.toBitVec_and, BitVec.getLsbD_and, sk_bit 9 (Nat.le_refl 9) i hi, (bitF_tab b hb i hi).2, Bool.eq_iff_iff, Bool.and_eq_true, Bool.not_eq_true', decide_eq_true_eq, decide_eq_true_eq, decide_eq_false_iff_not]
    by_cases e : i = b
    · subst e
      exact ⟨fun z => absurd rfl z.2, fun z => absurd z.2.2 c⟩
    · constructor
      · rintro ⟨⟨a1, a2, a3⟩, _⟩
        exact ⟨a1, a2, by rw [ho i a1 e]; exact a3⟩
      · rintro ⟨a1, a2, a3⟩
        rw [ho i a1 e] at a3
        exact ⟨⟨a1, a2, a3⟩, e⟩
theorem sk_up {N : bN} {t m : Nat} (hm : m < 9) (hm2 : m < afN N) : (if ushr (N (15 + 4 * m)) (nI t) &&& 1 = 1 then skN N t m ||| bitF m else skN N t m &&& (bitF m ^^^ -1)) = skN N t (m + 1) := by
  split
  · rename_i c
    rw [skN, if_pos ⟨hm2, c⟩]
  · rename_i c
    rw [skN, if_neg (fun z => c z.2)]
    apply i32_ext
    intro i hi
    rw [Int32.toBitVec_and, BitVec.getLsbD_and, sk_bit m (by omega) i hi, (bitF_tab m hm i hi).2, Bool.eq_iff_iff, Bool.and_eq_true, Bool.not_eq_true', decide_eq_true_eq, decide_eq_false_iff_not]
    exact ⟨fun z => z.1, fun z => ⟨z, by omega⟩⟩
/-- the look-out is set to N, for n beats -/
def OB (τ : bSt) (N : bN) (n : Nat) : Prop := τ 69 1 = N 0 ∧ τ 69 2 = nI n ∧ τ 70 0 = N 7 ∧ (∀ f, f < 4 → ∀ b, b < 9 → τ (71 + f) b = N (12 + f + 4 * b)) ∧ ∀ p, p < 4 → τ 2 p = N (2 + p)
/-- the first m boats have sailed -/
def SL (τ : bSt) (N : bN) (bt n m : Nat) : Prop := ∀ k, k ≤ n → (∀ b, b < m → b < afN N → τ (77 + k) b = pN N b bt k) ∧ τ 75 k = skN N ((bt + k) % 32) m
section OBS
variable {τ τ' : bSt} {N N' : bN} {n b bt m : Nat}
theorem OB.bf (h : OB τ N n) (hb : b < 9) : τ 71 b = N (12 + 4 * b) ∧ τ 72 b = N (13 + 4 * b) ∧ τ 73 b = N (14 + 4 * b) ∧ τ 74 b = N (15 + 4 * b) := ⟨h.2.2.2.1 0 (by decide) b hb, h.2.2.2.1 1 (by decide) b hb, h.2.2.2.1 2 (by decide) b hb, h.2.2.2.1 3 (by decide) b hb⟩
theorem pth_p (h : OB τ N n) (hb : b < 9) : ∀ k, pthF τ 69 1 b bt k = pN N b bt k
  | 0 => (h.bf hb).2.2.1
  | k + 1 => by
    have g := h.bf hb
    rw [pthF, pN, pth_p h hb k, show τ (69 + 2) b = N (12 + 4 * b) from g.1, show τ (69 + 3) b = N (13 + 4 * b) from g.2.1, show τ (1 + 1) ((bt + k) % 32 / 8) = N (2 + (bt + k) % 32 / 8) from h.2.2.2.2 _ (by omega)]
    unfold sgB
    rw [show τ (69 + 1 + 4) b = N (15 + 4 * b) from g.2.2.2]
theorem OB.at (h : OB τ N n) (ho : ∀ j, (69 ≤ j ∧ j < 75) ∨ j = 2 → τ' j = τ j) : OB τ' N n := by
  obtain ⟨h1, h2, h3, h4, h5⟩ := h
  exact ⟨by rw [ho 69 (by omega)]; exact h1, by rw [ho 69 (by omega)]; exact h2, by rw [ho 70 (by omega)]; exact h3, fun f hf b hb => by rw [ho (71 + f) (by omega)]; exact h4 f hf b hb, fun p hp => by rw [ho 2 (by omega)]; exact h5 p hp⟩
theorem SL.at (h : SL τ N bt n m) (hn : n ≤ 128) (ho : ∀ j, 75 ≤ j → j < 206 → τ' j = τ j) : SL τ' N bt n m := fun k hk => by
  rw [ho (77 + k) (by omega) (by omega), ho 75 (by omega) (by omega)]
  exact h k hk
theorem slR_ob (h : OB τ N n) (s : slR 69 1 b bt (n + 1) τ τ') : OB τ' N n := h.at (fun j hj => s.1 j (by omega) (by omega))
theorem sgS_p (h : OB τ N n) (hb : b < 9) {k : Nat} {x : Int32} (e : τ 75 k = x) : sgS τ 69 b bt k = if ushr (N (15 + 4 * b)) (nI ((bt + k) % 32)) &&& 1 = 1 then x ||| bitF b else x &&& (bitF b ^^^ -1) := by
  subst e
  unfold sgS sgB
  rw [show τ (69 + 1 + 4) b = N (15 + 4 * b) from (h.bf hb).2.2.2]
theorem SL_up (hob : OB τ N n) (h : SL τ N bt n m) (hm : m < 9) (hm2 : m < afN N) (s : slR 69 1 m bt (n + 1) τ τ') : SL τ' N bt n (m + 1) := by
  intro k hk
  obtain ⟨h1, h2⟩ := h k hk
  have e1 : τ' (77 + k) = upd (τ (77 + k)) m (pthF τ 69 1 m bt k) := s.2.1 k (by omega)
  have e2 : τ' 75 k = sgS τ 69 m bt k := s.2.2.2.1 k (by omega)
  refine ⟨fun b hb hb2 => ?_, ?_⟩
  · rw [e1]
    by_cases e : b = m
    · subst e
      rw [upd_s, pth_p hob hm]
    · rw [upd_n e]
      exact h1 b (by omega) hb2
  · rw [e2, sgS_p hob hm h2, sk_up hm hm2]
theorem SL_skip (h : SL τ N bt n m) (hm2 : ¬ m < afN N) : SL τ N bt n (m + 1) := by
  intro k hk
  obtain ⟨h1, h2⟩ := h k hk
  refine ⟨fun b hb hb2 => h1 b (by omega) hb2, ?_⟩
  rw [h2, skN, if_neg (fun z => hm2 z.1)]
theorem pN_cg (h : ∀ f, f < 4 → N' (12 + f + 4 * b) = N (12 + f + 4 * b)) (ht : ∀ p, p < 4 → N' (2 + p) = N (2 + p)) : ∀ k, pN N' b bt k = pN N b bt k
  | 0 => h 2 (by decide)
  | k + 1 => by
    rw [pN, pN, pN_cg h ht k, show N' (12 + 4 * b) = N (12 + 4 * b) from h 0 (by decide), show N' (13 + 4 * b) = N (13 + 4 * b) from h 1 (by decide), show N' (15 + 4 * b) = N (15 + 4 * b) from h 3 (by decide), ht _ (by omega)]
theorem skN_cg {t : Nat} (h7 : afN N' = afN N) (h : ∀ b, b < 9 → N' (15 + 4 * b) = N (15 + 4 * b)) : ∀ m, m ≤ 9 → skN N' t m = skN N t m
  | 0, _ => rfl
  | m + 1, hm => by rw [skN, skN, skN_cg h7 h m (by omega), h7, h m (by omega)]
theorem afN_of (h : N' 7 = N 7) : afN N' = afN N := by unfold afN; rw [h]
theorem SL_re (h : SL τ N bt n 9) (hob : OB τ N' n) (hb : b < 9) (hb2 : b < afN N) (ho : ∀ j, j ≠ 14 + 4 * b → j ≠ 15 + 4 * b → N' j = N j) (s : slR 69 1 b bt (n + 1) τ τ') : SL τ' N' bt n 9 := by
  have h7 : afN N' = afN N := afN_of (ho 7 (by omega) (by omega))
  intro k hk
  obtain ⟨h1, h2⟩ := h k hk
  have e1 : τ' (77 + k) = upd (τ (77 + k)) b (pthF τ 69 1 b bt k) := s.2.1 k (by omega)
  have e2 : τ' 75 k = sgS τ 69 b bt k := s.2.2.2.1 k (by omega)
  refine ⟨fun d hd hd2 => ?_, ?_⟩
  · rw [e1]
    by_cases e : d = b
    · subst e
      rw [upd_s, pth_p hob hb]
    · rw [upd_n e, h1 d hd (by rw [← h7]; exact hd2)]
      exact (pN_cg (fun f hf => ho _ (by omega) (by omega)) (fun p hp => ho _ (by omega) (by omega)) k).symm
  · rw [e2, sgS_p hob hb h2, sk_re hb hb2 h7 (fun i _ hi => ho _ (by omega) (by omega))]
theorem SL_cg (h : SL τ N bt n 9) (h7 : N' 7 = N 7) (ht : ∀ p, p < 4 → N' (2 + p) = N (2 + p)) (hf : ∀ b, b < 9 → ∀ f, f < 4 → N' (12 + f + 4 * b) = N (12 + f + 4 * b)) : SL τ N' bt n 9 := by
  have h7 : afN N' = afN N := afN_of h7
  intro k hk
  obtain ⟨h1, h2⟩ := h k hk
  refine ⟨fun b hb hb2 => ?_, ?_⟩
  · rw [h1 b hb (by rw [← h7]; exact hb2)]
    exact (pN_cg (hf b hb) ht k).symm
  · rw [h2]
    exact (skN_cg h7 (fun b hb => hf b hb 3 (by decide)) 9 (Nat.le_refl 9)).symm
theorem pN_rng (hI : IvN N) (hb : b < 9) : ∀ k, ∃ c, c < 64 ∧ pN N b bt k = nI c
  | 0 => hI.cell hb
  | k + 1 => by
    obtain ⟨c, hc, e⟩ := pN_rng hI hb k
    rw [pN, e]
    exact mv_rng hc _ _ _ _ _
theorem slR_ro (hr : RO τ) (h : OB τ N n) (hI : IvN N) (hb : b < 9) (s : slR 69 1 b bt (n + 1) τ τ') : RO τ' := by
  intro j h1 h2 d hd
  by_cases c : j < 77 + (n + 1)
  · have e1 : τ' (69 + 8 + (j - 77)) = upd (τ (69 + 8 + (j - 77))) b (pthF τ 69 1 b bt (j - 77)) := s.2.1 (j - 77) (by omega)
    rw [show 69 + 8 + (j - 77) = j by omega] at e1
    rw [e1]
    by_cases e : d = b
    · subst e
      rw [upd_s, pth_p h hd]
      exact pN_rng hI hd _
    · rw [upd_n e]
      exact hr j h1 h2 d hd
  · have e1 : τ' (69 + 8 + (j - 77)) = τ (69 + 8 + (j - 77)) := s.2.2.1 (j - 77) (by omega) (by omega)
    rw [show 69 + 8 + (j - 77) = j by omega] at e1
    rw [e1]
    exact hr j h1 h2 d hd
theorem hB_ob (h : OB τ N n) (h7 : N 7 = nI (afN N) ∧ afN N ≤ 9) (hb : b < 9) : hB τ 70 (nI b) ↔ b < afN N := by
  rw [hB_nI (by omega), h.2.2.1, h7.1, nI_toInt (by omega)]
  omega
end OBS
/-- in how many of the first beats all sounds together there -/
def scN (g : bG) (N : bN) (y : Int32) : Nat → Nat
  | 0 => 0
  | k + 1 => if togN g (almN N k) y (sngN (almN N k) 9) = true then scN g N y k + 1 else scN g N y k
theorem it_sc {τ : bSt} {N : bN} {n bt vn : Nat} {g : bG} {y : Int32} (hob : OB τ N n) (h : SL τ N bt n 9) (e0 : N 0 = nI bt) (e1 : N 1 = nI vn) (hbt : bt + 128 < 20000) (hn : n ≤ 128) (hg : gvS τ 1 = g) (h7 : N 7 = nI (afN N) ∧ afN N ≤ 9) : ∀ k, k ≤ n → itF (fun k => lagC τ 1 70 (77 + k) y (nI vn) (nI ((bt + k) % 32))) (τ 75) k = scN g N y k
  | 0, _ => rfl
  | k + 1, hk => by
    have e : tgB (lagC τ 1 70 (77 + k) y (nI vn) (nI ((bt + k) % 32))) (τ 75 k) = togN g (almN N k) y (sngN (almN N k) 9) := by
      unfold togN
      rw [(h k (by omega)).2, alm_sng e0 (by omega) (Nat.le_refl 9)]
      refine tgB_congr (fun b hb c => ?_)
      have hb2 : b < afN N := by
        apply Classical.byContradiction
        intro z
        exact c (bx_of (by omega) (by rw [sk_bit 9 (Nat.le_refl 9) b (by omega), decide_eq_false (fun q => z q.2.1)]))
      have g9 := hob.bf hb
      unfold lagC lgN latB latN
      rw [if_pos ((hB_ob hob h7 hb).mpr hb2), if_pos (by rw [alm_af]; exact hb2), nI_clamp (by omega), (h k (by omega)).1 b hb hb2, alm_t e0 (by omega), alm_p e0 hb hb2 k (by omega), alm_off (j := 1) (by omega) (by omega), alm_off (j := 12 + 4 * b) (by omega) (by omega), alm_off (j := 13 + 4 * b) (by omega) (by omega), e1, hg, show τ (70 + 1) b = N (12 + 4 * b) from g9.1, show τ (70 + 2) b = N (13 + 4 * b) from g9.2.1]
    rw [itF, scN, it_sc hob h e0 e1 hbt hn hg h7 k (by omega), e]
/-- a look out over N, in which the first m boats have sailed; all else is as it was -/
def WT (A : bA) (N : bN) (n m : Nat) (τ : bSt) : Prop := RC τ A ∧ OB τ N n ∧ SL τ N (btOf N) n m
section WTS
variable {σ τ τ' : bSt} {A : bA} {N : bN} {n m b : Nat}
theorem WT_0 (h : RC σ A) (hn : n ≤ 128) : WT A A.1.1 n 0 (b_set (b_up (b_up (blk σ (69 + 1) (10 + 1) 5) 69 1 (σ 10 0)) 69 2 (nI n)) (69 + 6) (fun _ => 0)) := by
  have ho : ∀ j, j < 69 ∨ 76 ≤ j → b_set (b_up (b_up (blk σ (69 + 1) (10 + 1) 5) 69 1 (σ 10 0)) 69 2 (nI n)) (69 + 6) (fun _ => 0) j = σ j := fun j hj => by
    rw [b_set_n (by omega), b_up_n (by omega), b_up_n (by omega), blk_out (by omega)]
  have hv := h.vwE
  refine ⟨h.scrE (fun j _ _ _ hj => ho j (by omega)) (cacheOK_at h.ca (fun j a c _ _ => ho j (by omega))) (h.ro.at (fun j a c => ho j (by omega))), ⟨?_, ?_, ?_, fun f hf b hb => ?_, fun p hp => ?_⟩, fun k hk => ⟨fun b hb _ => absurd hb (Nat.not_lt_zero b), ?_⟩⟩
  · rw [b_set_n (by omega), b_up_s, upd_n (by decide), b_up_s, upd_s, ← hv]
    rfl
  · rw [b_set_n (by omega), b_up_s, upd_s]
  · rw [b_set_n (by omega), b_up_n (by omega), b_up_n (by omega), blk_in (by omega) (by omega), ← hv]
    rfl
  · rw [b_set_n (by omega), b_up_n (by omega), b_up_n (by omega), blk_in (by omega) (by omega), ← h.nb hb hf]
    congr 1
    omega
  · rw [ho 2 (by omega)]
    exact h.nt hp
  · rw [b_set_s]
    rfl
theorem WT.hb (h : WT A A.1.1 n m τ) : τ 69 1 = nI (btOf A.1.1) ∧ btOf A.1.1 + 128 < 20000 ∧ τ 69 2 = nI n := by
  have := h.1.1.2.1.bt
  exact ⟨by rw [h.2.1.1]; exact this.1, by omega, h.2.1.2.1⟩
theorem RC_sl {bt : Nat} (h : RC τ A) (hob : OB τ N n) (hI : IvN N) (hb : b < 9) (s : slR 69 1 b bt (n + 1) τ τ') : RC τ' A :=
  h.scrE (fun j _ _ _ hj => s.1 j (by omega) (by omega)) (cacheOK_at h.ca (fun j a c _ _ => s.1 j (by omega) (by omega))) (slR_ro h.ro hob hI hb s)
theorem RC.scr {τ2 : bSt} (h : RC τ A) (hs : scr 1 τ τ2) (hc : cacheOK τ2 1) : RC τ2 A := h.scrE (fun j a b c _ => hs j (by omega) (by omega) (by omega)) hc (h.ro.at (fun j a b => hs j (by omega) (by omega) (by omega)))
theorem WT.scr {τ2 : bSt} (h : WT A N n m τ) (hn : n ≤ 128) (hs : scr 1 τ τ2) (hc : cacheOK τ2 1) : WT A N n m τ2 := ⟨h.1.scr hs hc, h.2.1.at (fun j hj => hs j (by omega) (by omega) (by omega)), h.2.2.at hn (fun j a b => hs j (by omega) (by omega) (by omega))⟩
theorem WT.big {j k : Nat} {v : Int32} (h : WT A N n m τ) (hn : n ≤ 128) (hj : 206 ≤ j) : WT A N n m (b_up τ j k v) :=
  ⟨h.1.scrE (fun i _ _ _ hi => b_up_n (by omega)) (cacheOK_at h.1.ca (fun i a c _ _ => b_up_n (by omega))) (h.1.ro.at (fun i a b => b_up_n (by omega))), h.2.1.at (fun i hi => b_up_n (by omega)), h.2.2.at hn (fun i a b => b_up_n (by omega))⟩
theorem WT_up (h : WT A N n m τ) (hI : IvN N) (hm : m < 9) (hm2 : m < afN N) (s : slR 69 1 m (btOf N) (n + 1) τ τ') : WT A N n (m + 1) τ' := ⟨RC_sl h.1 h.2.1 hI hm s, slR_ob h.2.1 s, SL_up h.2.1 h.2.2 hm hm2 s⟩
end WTS
def oThen (n b : Int32) (A : bA) : Int32 × bA := if wj n 0 128 ∧ inN b (afN A.1.1) then (almN A.1.1 (cl n) (14 + 4 * cl b), A) else refA 1 A
def stN (N : bN) (b : Nat) : Nat → Nat
  | 0 => 0
  | k + 1 => if almN N k (14 + 4 * b) = almN N (k + 1) (14 + 4 * b) then stN N b k else stN N b k + 1
def oStrokes (b n : Int32) (A : bA) : Int32 × bA := if inN b (afN A.1.1) ∧ wj n 0 128 then (nI (stN A.1.1 (cl b) (cl n)), A) else refA 1 A
def oScore (cell n : Int32) (A : bA) : Int32 × bA := if wj cell 0 63 ∧ wj n 0 128 then (nI (scN (gvT A.1.2.1) A.1.1 cell (cl n)), A) else refA 1 A
def jdN (f : Nat → Int32) (N : bN) (b : Nat) : Nat → Nat → Nat
  | 0, k => k
  | r + 1, k => if f k = almN N k (14 + 4 * b) then jdN f N b r (k + 1) else k
def oJudge (s b : Int32) (A : bA) : Int32 × bA := if inN s 4 ∧ inN b (afN A.1.1) then (if (shA A s).1 = 0 then refA 2 A else (nI (jdN (fun k => wrS (shA A s).1 ((shA A s).2.2 k)) A.1.1 (cl b) (shA A s).2.1 0), A)) else refA 1 A
/-- the PART that a sheet's numbers tell -/
def prS (p : Int32 × Nat × (Nat → Int32)) : Int32 := orF (fun k => wrS p.1 (p.2.2 k)) (rkF (fun k => wrS p.1 (p.2.2 k)) p.2.1)
def oPart (s b : Int32) (A : bA) : Int32 × bA := if inN s 4 ∧ inN b (afN A.1.1) then (if (shA A s).1 = 0 then refA 2 A else (bcJ (prS (shA A s)), setN A (upd A.1.1 (15 + 4 * cl b) (prS (shA A s))))) else refA 1 A
theorem orF_cg {f g : Nat → Int32} : ∀ n, (∀ k, k < n → f k = g k) → orF f n = orF g n
  | 0, _ => rfl
  | n + 1, h => by rw [orF, orF, orF_cg n (fun k hk => h k (by omega)), h n (by omega)]
theorem rkF_cg {f g : Nat → Int32} : ∀ n, (∀ k, k < n → f k = g k) → rkF f n = rkF g n
  | 0, _ => rfl
  | n + 1, h => by rw [rkF, rkF, rkF_cg n (fun k hk => h k (by omega)), h n (by omega)]
theorem rkF_lim {f : Nat → Int32} : ∀ n, rkF f n ≤ n
  | 0 => Nat.le_refl _
  | n + 1 => by
    have := rkF_lim (f := f) n
    rw [rkF]
    split <;> omega
/-- so many numbers from here on -/
abbrev hfN (i n : Int32) (len : Nat) : Prop := ¬ i < 0 ∧ ¬ n < 0 ∧ ¬ nI len - n < i
def cpS (f g : Nat → Int32) (i j n : Nat) : Nat → Int32 := fun k => if j ≤ k ∧ k < j + n then f (i + (k - j)) else g k
def oMove (s i o j n : Int32) (A : bA) : Int32 × bA :=
  if inN s 4 ∧ inN o 4 then (if (shA A s).1 = 0 ∨ (shA A o).1 = 0 then refA 2 A else if ¬ (shA A s).1 = (shA A o).1 then refA 5 A else if hfN i n (shA A s).2.1 ∧ hfN j n (shA A o).2.1 then (n, setS A (cl o) ((shA A o).1, (shA A o).2.1, cpS (shA A s).2.2 (shA A o).2.2 (cl i) (cl j) (cl n))) else refA 1 A) else refA 1 A
theorem hf_iff {σ : bSt} {A : bA} (h : RC σ A) {s : Nat} (hs : s < 4) {i n : Int32} : (¬ i < 0 ∧ ¬ n < 0 ∧ ¬ σ (44 + 2 * s) 1 - n < i ∧ ¬ (40 : Int32) < σ (44 + 2 * s) 1) ↔ hfN i n (A.2.2.2.2.2 s).2.1 := by
  have g := h.sh hs
  have g4 := g.2.2.2.1
  rw [g.2.2.1]
  have : ¬ (40 : Int32) < nI (A.2.2.2.2.2 s).2.1 := by
    rw [i_lt, nI_toInt (by omega)]
    have h9 : (40 : Int32).toInt = 40 := rfl
    omega
  exact ⟨fun z => ⟨z.1, z.2.1, z.2.2.1⟩, fun z => ⟨z.1, z.2.1, z.2.2, this⟩⟩
theorem hf_nat {i n : Int32} {len : Nat} (hl : len ≤ 40) (h : hfN i n len) : ∃ a c, i = nI a ∧ n = nI c ∧ a + c ≤ len := by
  obtain ⟨h1, h2, h3⟩ := h
  obtain ⟨a, ha, rfl⟩ := nI_of h1
  obtain ⟨c, hc, rfl⟩ := nI_of h2
  refine ⟨a, c, rfl, rfl, ?_⟩
  rw [i_lt, nI_toInt ha] at h3
  have e : (nI len - nI c).toInt = (len : Int) - c := by
    by_cases q : c ≤ len
    · rw [nI_sub c q, nI_toInt (by omega)]
      omega
    · obtain ⟨d, rfl⟩ := Nat.exists_eq_add_of_lt (Nat.lt_of_not_le q)
      have e2 : nI len - nI (len + d + 1) = -nI (d + 1) := by
        rw [show len + d + 1 = len + (d + 1) by omega, ← nI_add, Int32.sub_eq_add_neg, Int32.neg_add, Int32.sub_eq_add_neg, ← Int32.add_assoc, Int32.add_right_neg, Int32.zero_add]
      rw [e2, Int32.toInt_neg, nI_toInt (by omega), show (-((d + 1 : Nat) : Int)).bmod (2 ^ 32) = -((d + 1 : Nat) : Int) from Int.bmod_eq_of_le (by omega) (by omega)]
      omega
  omega
theorem cpS_wr {σ : bSt} {A : bA} (h : RC σ A) {s o a c d : Nat} (hs : s < 4) (ho : o < 4) (e : (A.2.2.2.2.2 s).1 = (A.2.2.2.2.2 o).1) (h1 : a + c ≤ (A.2.2.2.2.2 s).2.1) (h2 : d + c ≤ (A.2.2.2.2.2 o).2.1) : RC (b_set σ (44 + 2 * o + 1) (va_cpy (σ (44 + 2 * s + 1)) (σ (44 + 2 * o + 1)) a d c)) (setS A o ((A.2.2.2.2.2 o).1, (A.2.2.2.2.2 o).2.1, cpS (A.2.2.2.2.2 s).2.2 (A.2.2.2.2.2 o).2.2 a d c)) := by
  have g := h.sh hs
  have g2 := h.sh ho
  refine h.sheet ho (fun j a c => b_set_n (by omega)) ?_ g2.2.1 ?_ g2.2.2.2.1 g2.2.2.2.2.1 (fun k hk => ?_)
  · rw [b_set_n (by omega)]; exact g2.1
  · rw [b_set_n (by omega)]; exact g2.2.2.1
  · rw [show 45 + 2 * o = 44 + 2 * o + 1 by omega, b_set_s]
    show (if d ≤ k ∧ k < d + c then σ (44 + 2 * s + 1) (a + (k - d)) else σ (44 + 2 * o + 1) k) = wrS _ (if d ≤ k ∧ k < d + c then _ else _)
    by_cases q : d ≤ k ∧ k < d + c
    · rw [if_pos q, if_pos q, ← e, show 44 + 2 * s + 1 = 45 + 2 * s by omega]
      exact g.2.2.2.2.2 _ (by omega)
    · rw [if_neg q, if_neg q, show 44 + 2 * o + 1 = 45 + 2 * o by omega]
      exact g2.2.2.2.2.2 k hk
theorem pr_eq {σ : bSt} {A : bA} (h : RC σ A) {u : Nat} (hu : u < 4) : orF (σ (44 + 2 * u + 1)) (rkF (σ (44 + 2 * u + 1)) (A.2.2.2.2.2 u).2.1) = prS (A.2.2.2.2.2 u) := by
  have g := h.sh hu
  have e : ∀ k, k < (A.2.2.2.2.2 u).2.1 → σ (44 + 2 * u + 1) k = wrS (A.2.2.2.2.2 u).1 ((A.2.2.2.2.2 u).2.2 k) := fun k hk => by
    rw [show 44 + 2 * u + 1 = 45 + 2 * u by omega]
    exact g.2.2.2.2.2 k (by omega)
  unfold prS
  rw [rkF_cg _ e]
  exact orF_cg _ (fun k hk => e k (by have := rkF_lim (f := fun k => wrS (A.2.2.2.2.2 u).1 ((A.2.2.2.2.2 u).2.2 k)) (A.2.2.2.2.2 u).2.1; omega))
theorem row_sl {τ τ' : bSt} {N : bN} {n b bt : Nat} (h : OB τ N n) (hb : b < 9) (s : slR 69 1 b bt (n + 1) τ τ') {k : Nat} (hk : k ≤ n) : τ' (69 + 8 + k) b = pN N b bt k := by
  rw [s.2.1 k (by omega), upd_s, pth_p h hb]
theorem jd_stop {f : Nat → Int32} {N : bN} {b k r : Nat} (h : ¬ f k = almN N k (14 + 4 * b)) : jdN f N b (r + 1) k = k := by rw [jdN, if_neg h]
theorem jd_go {f : Nat → Int32} {N : bN} {b k r : Nat} (h : f k = almN N k (14 + 4 * b)) : jdN f N b (r + 1) k = jdN f N b r (k + 1) := by rw [jdN, if_pos h]
theorem inN_lt {n a : Nat} (h : inN (nI n) a) (hn : n < 2 ^ 31) : n < a := by
  have := h.2
  rw [nI_toInt hn] at this
  omega

set_option maxHeartbeats 4000000 in
set_option maxRecDepth 100000 in
theorem c_X9_move {w : bw} {σ : bSt} {A : bA} {s i o j n : Int32} (hs : sOpera w) (hR : RC σ A) : MV yX9_move cX9_move 8 (some .int) (rmm 1 40) w [.ref (b_ad w 0), .int s, .int i, .int o, .int j, .int n] σ (pA (oMove s i o j n A)) := by
  refine b_met (ls := [(0, .ref (b_ad w 0)), (1, .int s), (2, .int i), (3, .int o), (4, .int j), (5, .int n)]) (by decide) (Nat.le_of_ble_eq_true rfl) rfl (fun x h => ?_)
  refine v_aload_n h (i := 0) dX9_move_0 (q := 1) rfl rfl 0 rfl ?_
  refine v_iload_n h (i := 1) dX9_move_1 (q := 2) rfl rfl 1 rfl ?_
  refine v_callV h (As := [.int s]) (rest := []) (c_X9_sheetOf (s := s) (σ := σ) hs) cal_X9_sheetOf calV_X9_sheetOf m746 ⟨rfl, rfl, Nat.le_of_ble_eq_true rfl, Nat.le_of_ble_eq_true rfl⟩ rfl hs.1.1 hs.1.2 ⟨_, _, rfl⟩ rfl (Nat.le_of_ble_eq_true rfl) dX9_move_2 (q := 5) rfl (kS (fun u hu eu => ?_) (fun c2 => ?_))
  · refine v_astore h (i := 6) (ls1 := [(6, .ref (b_ad w (44 + 2 * u))), (0, .ref (b_ad w 0)), (1, .int s), (2, .int i), (3, .int o), (4, .int j), (5, .int n)]) dX9_move_5 (q := 7) rfl (Nat.le_of_ble_eq_true rfl) rfl ?_
    refine v_aload_n h (i := 0) dX9_move_7 (q := 8) rfl rfl 1 rfl ?_
    refine v_iload_n h (i := 3) dX9_move_8 (q := 9) rfl rfl 4 rfl ?_
    refine v_callV h (As := [.int o]) (rest := []) (c_X9_sheetOf (s := o) (σ := σ) hs) cal_X9_sheetOf calV_X9_sheetOf m746 ⟨rfl, rfl, Nat.le_of_ble_eq_true rfl, Nat.le_of_ble_eq_true rfl⟩ rfl hs.1.1 hs.1.2 ⟨_, _, rfl⟩ rfl (Nat.le_of_ble_eq_true rfl) dX9_move_9 (q := 12) rfl (kS (fun u_1 hu_1 eu_1 => ?_) (fun c9 => ?_))
    · refine v_astore h (i := 7) (ls1 := [(7, .ref (b_ad w (44 + 2 * u_1))), (6, .ref (b_ad w (44 + 2 * u))), (0, .ref (b_ad w 0)), (1, .int s), (2, .int i), (3, .int o), (4, .int j), (5, .int n)]) dX9_move_12 (q := 14) rfl (Nat.le_of_ble_eq_true rfl) rfl ?_
      refine v_aload h (i := 6) dX9_move_14 (q := 16) rfl 1 rfl ?_
      refine v_ifnullR h dX9_move_16 (q := 19) rfl ?_
      refine v_aload h (i := 7) dX9_move_19 (q := 21) rfl 0 rfl ?_
      refine v_ifnonnullR h (t := 30) dX9_move_21 (by decide) ?_
      refine v_aload h (i := 6) dX9_move_30 (q := 32) rfl 1 rfl ?_
      refine v_callV h (As := []) (rest := []) (c_X7_isMissing (me := 44 + 2 * u) (σ := σ) ((hs.2.2.2.2.2.2.2.2.1 u hu)) ) cal_X7_isMissing calV_X7_isMissing m759 ⟨rfl, rfl, Nat.le_of_ble_eq_true rfl, Nat.le_of_ble_eq_true rfl⟩ rfl (hs.2.2.2.2.2.2.2.2.1 u hu).1.1 (hs.2.2.2.2.2.2.2.2.1 u hu).1.2 ⟨_, _, rfl⟩ rfl (Nat.le_of_ble_eq_true rfl) dX9_move_32 (q := 35) rfl (kB (fun c32 => ?_) (fun c32 => ?_))
      · refine v_if_ne h (t := 46) dX9_move_35 (by decide) (q := 38) rfl (fun _ => ?_) (fun c => absurd c (by decide))
        refine v_aload_n h (i := 0) dX9_move_46 (q := 47) rfl rfl 2 rfl ?_
        refine v_iconst h (v := 2) dX9_move_47 (q := 48) rfl (by decide) ?_
        refine v_callV h (As := [.int 2]) (rest := []) (c_ref (σ := σ) hs (e := 2) (by decide) rfl) cal_X9_refuse calV_X9_refuse m315 ⟨rfl, rfl, Nat.le_of_ble_eq_true rfl, Nat.le_of_ble_eq_true rfl⟩ rfl hs.1.1 hs.1.2 ⟨_, _, rfl⟩ rfl (Nat.le_of_ble_eq_true rfl) dX9_move_48 (q := 51) rfl (kI ?_)
        exact v_iret h dX9_move_51 (pA_of (by unfold oMove shA; rw [if_pos ⟨(by rw [eu]; exact inN_of hu (by decide)), (by rw [eu_1]; exact inN_of hu_1 (by decide))⟩, eu, eu_1, cl_nI (n := u) (by omega), cl_nI (n := u_1) (by omega), if_pos (by first | exact Or.inl (by rw [← (hR.sh hu).1]; assumption) | exact Or.inr (by rw [← (hR.sh hu_1).1]; assumption))]; rfl) (hR.err (by decide)))
      · refine v_if_ne h (t := 46) dX9_move_35 (by decide) (q := 38) rfl (fun c => absurd (by decide) c) (fun _ => ?_)
        refine v_aload h (i := 7) dX9_move_38 (q := 40) rfl 0 rfl ?_
        refine v_callV h (As := []) (rest := []) (c_X7_isMissing (me := 44 + 2 * u_1) (σ := σ) ((hs.2.2.2.2.2.2.2.2.1 u_1 hu_1)) ) cal_X7_isMissing calV_X7_isMissing m759 ⟨rfl, rfl, Nat.le_of_ble_eq_true rfl, Nat.le_of_ble_eq_true rfl⟩ rfl (hs.2.2.2.2.2.2.2.2.1 u_1 hu_1).1.1 (hs.2.2.2.2.2.2.2.2.1 u_1 hu_1).1.2 ⟨_, _, rfl⟩ rfl (Nat.le_of_ble_eq_true rfl) dX9_move_40 (q := 43) rfl (kB (fun c40 => ?_) (fun c40 => ?_))
        · refine v_if_eq h (t := 52) dX9_move_43 (by decide) (q := 46) rfl (fun c => absurd c (by decide)) (fun _ => ?_)
          refine v_aload_n h (i := 0) dX9_move_46 (q := 47) rfl rfl 2 rfl ?_
          refine v_iconst h (v := 2) dX9_move_47 (q := 48) rfl (by decide) ?_
          refine v_callV h (As := [.int 2]) (rest := []) (c_ref (σ := σ) hs (e := 2) (by decide) rfl) cal_X9_refuse calV_X9_refuse m315 ⟨rfl, rfl, Nat.le_of_ble_eq_true rfl, Nat.le_of_ble_eq_true rfl⟩ rfl hs.1.1 hs.1.2 ⟨_, _, rfl⟩ rfl (Nat.le_of_ble_eq_true rfl) dX9_move_48 (q := 51) rfl (kI ?_)
          exact v_iret h dX9_move_51 (pA_of (by unfold oMove shA; rw [if_pos ⟨(by rw [eu]; exact inN_of hu (by decide)), (by rw [eu_1]; exact inN_of hu_1 (by decide))⟩, eu, eu_1, cl_nI (n := u) (by omega), cl_nI (n := u_1) (by omega), if_pos (by first | exact Or.inl (by rw [← (hR.sh hu).1]; assumption) | exact Or.inr (by rw [← (hR.sh hu_1).1]; assumption))]; rfl) (hR.err (by decide)))
        · refine v_if_eq h (t := 52) dX9_move_43 (by decide) (q := 46) rfl (fun _ => ?_) (fun c => absurd (by decide) c)
          refine v_aload h (i := 6) dX9_move_52 (q := 54) rfl 1 rfl ?_
          refine v_getN h (k := 0) (v := .int (σ (44 + 2 * u) 0)) cls7 (hs.2.2.2.2.2.2.2.2.1 u hu).1.1 (hs.2.2.2.2.2.2.2.2.1 u hu).1.2 (Nat.le_of_ble_eq_true rfl) m176 rfl dX9_move_54 (q := 57) rfl ?_
          refine v_aload h (i := 7) dX9_move_57 (q := 59) rfl 0 rfl ?_
          refine v_getN h (k := 0) (v := .int (σ (44 + 2 * u_1) 0)) cls7 (hs.2.2.2.2.2.2.2.2.1 u_1 hu_1).1.1 (hs.2.2.2.2.2.2.2.2.1 u_1 hu_1).1.2 (Nat.le_of_ble_eq_true rfl) m176 rfl dX9_move_59 (q := 62) rfl ?_
          refine v_icmp_eq h (t := 71) dX9_move_62 (by decide) (q := 65) rfl (fun c62 => ?_) (fun c62 => ?_)
          · refine v_aload h (i := 6) dX9_move_71 (q := 73) rfl 1 rfl ?_
            refine v_iload_n h (i := 2) dX9_move_73 (q := 74) rfl rfl 4 rfl ?_
            refine v_iload h (i := 5) dX9_move_74 (q := 76) rfl 7 rfl ?_
            refine v_callV h (As := [.int i, .int n]) (rest := []) (c_X7_holdsFrom (me := 44 + 2 * u) (i := i) (n := n) (σ := σ) ((hs.2.2.2.2.2.2.2.2.1 u hu))) cal_X7_holdsFrom calV_X7_holdsFrom m777 ⟨rfl, rfl, Nat.le_of_ble_eq_true rfl, Nat.le_of_ble_eq_true rfl⟩ rfl (hs.2.2.2.2.2.2.2.2.1 u hu).1.1 (hs.2.2.2.2.2.2.2.2.1 u hu).1.2 ⟨_, _, rfl⟩ rfl (Nat.le_of_ble_eq_true rfl) dX9_move_76 (q := 79) rfl (kB (fun c76 => ?_) (fun c76 => ?_))
            · refine v_if_eq h (t := 94) dX9_move_79 (by decide) (q := 82) rfl (fun c => absurd c (by decide)) (fun _ => ?_)
              refine v_aload h (i := 7) dX9_move_82 (q := 84) rfl 0 rfl ?_
              refine v_iload h (i := 4) dX9_move_84 (q := 86) rfl 6 rfl ?_
              refine v_iload h (i := 5) dX9_move_86 (q := 88) rfl 7 rfl ?_
              refine v_callV h (As := [.int j, .int n]) (rest := []) (c_X7_holdsFrom (me := 44 + 2 * u_1) (i := j) (n := n) (σ := σ) ((hs.2.2.2.2.2.2.2.2.1 u_1 hu_1))) cal_X7_holdsFrom calV_X7_holdsFrom m777 ⟨rfl, rfl, Nat.le_of_ble_eq_true rfl, Nat.le_of_ble_eq_true rfl⟩ rfl (hs.2.2.2.2.2.2.2.2.1 u_1 hu_1).1.1 (hs.2.2.2.2.2.2.2.2.1 u_1 hu_1).1.2 ⟨_, _, rfl⟩ rfl (Nat.le_of_ble_eq_true rfl) dX9_move_88 (q := 91) rfl (kB (fun c88 => ?_) (fun c88 => ?_))
              · refine v_if_ne h (t := 100) dX9_move_91 (by decide) (q := 94) rfl (fun _ => ?_) (fun c => absurd c (by decide))
                skip
                obtain ⟨a0, m0, ei, en, hac⟩ := hf_nat (hR.sh hu).2.2.2.1 ((hf_iff hR hu).mp c76)
                obtain ⟨d0, m1, ej, en1, hdc⟩ := hf_nat (hR.sh hu_1).2.2.2.1 ((hf_iff hR hu_1).mp c88)
                have hl1 := (hR.sh hu).2.2.2.1
                have hl2 := (hR.sh hu_1).2.2.2.1
                have em : m1 = m0 := nI_inj (by omega) (by omega) (en1.symm.trans en)
                subst em
                subst ei ej en
                refine v_aload h (i := 6) dX9_move_100 (q := 102) rfl 1 rfl ?_
                refine v_getN h (k := 2) (v := .ref (b_ad w (44 + 2 * u + 1))) cls7 (hs.2.2.2.2.2.2.2.2.1 u hu).1.1 (hs.2.2.2.2.2.2.2.2.1 u hu).1.2 (Nat.le_of_ble_eq_true rfl) m180 rfl dX9_move_102 (q := 105) rfl ?_
                refine v_iload_n h (i := 2) dX9_move_105 (q := 106) rfl rfl 4 rfl ?_
                refine v_aload h (i := 7) dX9_move_106 (q := 108) rfl 0 rfl ?_
                refine v_getN h (k := 2) (v := .ref (b_ad w (44 + 2 * u_1 + 1))) cls7 (hs.2.2.2.2.2.2.2.2.1 u_1 hu_1).1.1 (hs.2.2.2.2.2.2.2.2.1 u_1 hu_1).1.2 (Nat.le_of_ble_eq_true rfl) m180 rfl dX9_move_108 (q := 111) rfl ?_
                refine v_iload h (i := 4) dX9_move_111 (q := 113) rfl 6 rfl ?_
                refine v_iload h (i := 5) dX9_move_113 (q := 115) rfl 7 rfl ?_
                refine v_acopy h (hs.2.2.2.2.2.2.2.2.1 u hu).2 (hs.2.2.2.2.2.2.2.2.1 u_1 hu_1).2 m781 m482 m481 m15 (nI_pos (by omega)) (nI_pos (by omega)) (nI_pos (by omega)) (by rw [nI_clamp (by omega), nI_clamp (by omega)]; omega) (by rw [nI_clamp (by omega), nI_clamp (by omega)]; omega) ⟨Nat.le_of_ble_eq_true rfl, Nat.le_of_ble_eq_true rfl⟩ dX9_move_115 (q := 118) rfl ?_
                refine v_iload h (i := 5) dX9_move_118 (q := 120) rfl 7 rfl ?_
                exact v_iret h dX9_move_120 (pA_of (by unfold oMove shA; rw [if_pos ⟨(by rw [eu]; exact inN_of hu (by decide)), (by rw [eu_1]; exact inN_of hu_1 (by decide))⟩, eu, eu_1, cl_nI (n := u) (by omega), cl_nI (n := u_1) (by omega), if_neg (fun z => z.elim (fun q => c32 (by rw [(hR.sh hu).1]; exact q)) (fun q => c40 (by rw [(hR.sh hu_1).1]; exact q))), if_neg (fun z => z ((hR.sh hu).1.symm.trans (Eq.trans (by assumption) (hR.sh hu_1).1))), if_pos ⟨(hf_iff hR hu).mp c76, (hf_iff hR hu_1).mp c88⟩, cl_nI (n := a0) (by omega), cl_nI (n := d0) (by omega), cl_nI (n := m1) (by omega)]) (by rw [nI_clamp (n := a0) (by omega), nI_clamp (n := d0) (by omega), nI_clamp (n := m1) (by omega)]; exact cpS_wr hR hu hu_1 ((hR.sh hu).1.symm.trans (Eq.trans (by assumption) (hR.sh hu_1).1)) hac hdc))
              · refine v_if_ne h (t := 100) dX9_move_91 (by decide) (q := 94) rfl (fun c => absurd (by decide) c) (fun _ => ?_)
                refine v_aload_n h (i := 0) dX9_move_94 (q := 95) rfl rfl 2 rfl ?_
                refine v_iconst h (v := 1) dX9_move_95 (q := 96) rfl (by decide) ?_
                refine v_callV h (As := [.int 1]) (rest := []) (c_ref (σ := σ) hs (e := 1) (by decide) rfl) cal_X9_refuse calV_X9_refuse m315 ⟨rfl, rfl, Nat.le_of_ble_eq_true rfl, Nat.le_of_ble_eq_true rfl⟩ rfl hs.1.1 hs.1.2 ⟨_, _, rfl⟩ rfl (Nat.le_of_ble_eq_true rfl) dX9_move_96 (q := 99) rfl (kI ?_)
                exact v_iret h dX9_move_99 (pA_of (by unfold oMove shA; rw [if_pos ⟨(by rw [eu]; exact inN_of hu (by decide)), (by rw [eu_1]; exact inN_of hu_1 (by decide))⟩, eu, eu_1, cl_nI (n := u) (by omega), cl_nI (n := u_1) (by omega), if_neg (fun z => z.elim (fun q => c32 (by rw [(hR.sh hu).1]; exact q)) (fun q => c40 (by rw [(hR.sh hu_1).1]; exact q))), if_neg (fun z => z ((hR.sh hu).1.symm.trans (Eq.trans (by assumption) (hR.sh hu_1).1))), if_neg (fun z => by first | exact c76 ((hf_iff hR hu).mpr z.1) | exact c88 ((hf_iff hR hu_1).mpr z.2))]; rfl) (hR.err (by decide)))
            · refine v_if_eq h (t := 94) dX9_move_79 (by decide) (q := 82) rfl (fun _ => ?_) (fun c => absurd (by decide) c)
              refine v_aload_n h (i := 0) dX9_move_94 (q := 95) rfl rfl 2 rfl ?_
              refine v_iconst h (v := 1) dX9_move_95 (q := 96) rfl (by decide) ?_
              refine v_callV h (As := [.int 1]) (rest := []) (c_ref (σ := σ) hs (e := 1) (by decide) rfl) cal_X9_refuse calV_X9_refuse m315 ⟨rfl, rfl, Nat.le_of_ble_eq_true rfl, Nat.le_of_ble_eq_true rfl⟩ rfl hs.1.1 hs.1.2 ⟨_, _, rfl⟩ rfl (Nat.le_of_ble_eq_true rfl) dX9_move_96 (q := 99) rfl (kI ?_)
              exact v_iret h dX9_move_99 (pA_of (by unfold oMove shA; rw [if_pos ⟨(by rw [eu]; exact inN_of hu (by decide)), (by rw [eu_1]; exact inN_of hu_1 (by decide))⟩, eu, eu_1, cl_nI (n := u) (by omega), cl_nI (n := u_1) (by omega), if_neg (fun z => z.elim (fun q => c32 (by rw [(hR.sh hu).1]; exact q)) (fun q => c40 (by rw [(hR.sh hu_1).1]; exact q))), if_neg (fun z => z ((hR.sh hu).1.symm.trans (Eq.trans (by assumption) (hR.sh hu_1).1))), if_neg (fun z => by first | exact c76 ((hf_iff hR hu).mpr z.1) | exact c88 ((hf_iff hR hu_1).mpr z.2))]; rfl) (hR.err (by decide)))
          · refine v_aload_n h (i := 0) dX9_move_65 (q := 66) rfl rfl 2 rfl ?_
            refine v_iconst h (v := 5) dX9_move_66 (q := 67) rfl (by decide) ?_
            refine v_callV h (As := [.int 5]) (rest := []) (c_ref (σ := σ) hs (e := 5) (by decide) rfl) cal_X9_refuse calV_X9_refuse m315 ⟨rfl, rfl, Nat.le_of_ble_eq_true rfl, Nat.le_of_ble_eq_true rfl⟩ rfl hs.1.1 hs.1.2 ⟨_, _, rfl⟩ rfl (Nat.le_of_ble_eq_true rfl) dX9_move_67 (q := 70) rfl (kI ?_)
            exact v_iret h dX9_move_70 (pA_of (by unfold oMove shA; rw [if_pos ⟨(by rw [eu]; exact inN_of hu (by decide)), (by rw [eu_1]; exact inN_of hu_1 (by decide))⟩, eu, eu_1, cl_nI (n := u) (by omega), cl_nI (n := u_1) (by omega), if_neg (fun z => z.elim (fun q => c32 (by rw [(hR.sh hu).1]; exact q)) (fun q => c40 (by rw [(hR.sh hu_1).1]; exact q))), if_pos (by rw [← (hR.sh hu).1, ← (hR.sh hu_1).1]; assumption)]; rfl) (hR.err (by decide)))
    · refine v_astoreN h (i := 7) (ls1 := [(7, .null), (6, .ref (b_ad w (44 + 2 * u))), (0, .ref (b_ad w 0)), (1, .int s), (2, .int i), (3, .int o), (4, .int j), (5, .int n)]) dX9_move_12 (q := 14) rfl (Nat.le_of_ble_eq_true rfl) rfl ?_
      refine v_aload h (i := 6) dX9_move_14 (q := 16) rfl 1 rfl ?_
      refine v_ifnullR h dX9_move_16 (q := 19) rfl ?_
      refine v_aloadN h (i := 7) dX9_move_19 (q := 21) rfl 0 rfl ?_
      refine v_ifnonnullN h dX9_move_21 (q := 24) rfl ?_
      refine v_aload_n h (i := 0) dX9_move_24 (q := 25) rfl rfl 2 rfl ?_
      refine v_iconst h (v := 1) dX9_move_25 (q := 26) rfl (by decide) ?_
      refine v_callV h (As := [.int 1]) (rest := []) (c_ref (σ := σ) hs (e := 1) (by decide) rfl) cal_X9_refuse calV_X9_refuse m315 ⟨rfl, rfl, Nat.le_of_ble_eq_true rfl, Nat.le_of_ble_eq_true rfl⟩ rfl hs.1.1 hs.1.2 ⟨_, _, rfl⟩ rfl (Nat.le_of_ble_eq_true rfl) dX9_move_26 (q := 29) rfl (kI ?_)
      exact v_iret h dX9_move_29 (pA_of (by unfold oMove; rw [if_neg (fun z => by first | exact c2 z.1 | exact c9 z.2)]; rfl) (hR.err (by decide)))
  · refine v_astoreN h (i := 6) (ls1 := [(6, .null), (0, .ref (b_ad w 0)), (1, .int s), (2, .int i), (3, .int o), (4, .int j), (5, .int n)]) dX9_move_5 (q := 7) rfl (Nat.le_of_ble_eq_true rfl) rfl ?_
    refine v_aload_n h (i := 0) dX9_move_7 (q := 8) rfl rfl 1 rfl ?_
    refine v_iload_n h (i := 3) dX9_move_8 (q := 9) rfl rfl 4 rfl ?_
    refine v_callV h (As := [.int o]) (rest := []) (c_X9_sheetOf (s := o) (σ := σ) hs) cal_X9_sheetOf calV_X9_sheetOf m746 ⟨rfl, rfl, Nat.le_of_ble_eq_true rfl, Nat.le_of_ble_eq_true rfl⟩ rfl hs.1.1 hs.1.2 ⟨_, _, rfl⟩ rfl (Nat.le_of_ble_eq_true rfl) dX9_move_9 (q := 12) rfl (kS (fun u_2 hu_2 eu_2 => ?_) (fun c9_1 => ?_))
    · refine v_astore h (i := 7) (ls1 := [(7, .ref (b_ad w (44 + 2 * u_2))), (6, .null), (0, .ref (b_ad w 0)), (1, .int s), (2, .int i), (3, .int o), (4, .int j), (5, .int n)]) dX9_move_12 (q := 14) rfl (Nat.le_of_ble_eq_true rfl) rfl ?_
      refine v_aloadN h (i := 6) dX9_move_14 (q := 16) rfl 1 rfl ?_
      refine v_ifnullN h (t := 24) dX9_move_16 (by decide) ?_
      refine v_aload_n h (i := 0) dX9_move_24 (q := 25) rfl rfl 2 rfl ?_
      refine v_iconst h (v := 1) dX9_move_25 (q := 26) rfl (by decide) ?_
      refine v_callV h (As := [.int 1]) (rest := []) (c_ref (σ := σ) hs (e := 1) (by decide) rfl) cal_X9_refuse calV_X9_refuse m315 ⟨rfl, rfl, Nat.le_of_ble_eq_true rfl, Nat.le_of_ble_eq_true rfl⟩ rfl hs.1.1 hs.1.2 ⟨_, _, rfl⟩ rfl (Nat.le_of_ble_eq_true rfl) dX9_move_26 (q := 29) rfl (kI ?_)
      exact v_iret h dX9_move_29 (pA_of (by unfold oMove; rw [if_neg (fun z => by first | exact c2 z.1 | exact c9 z.2)]; rfl) (hR.err (by decide)))
    · refine v_astoreN h (i := 7) (ls1 := [(7, .null), (6, .null), (0, .ref (b_ad w 0)), (1, .int s), (2, .int i), (3, .int o), (4, .int j), (5, .int n)]) dX9_move_12 (q := 14) rfl (Nat.le_of_ble_eq_true rfl) rfl ?_
      refine v_aloadN h (i := 6) dX9_move_14 (q := 16) rfl 1 rfl ?_
      refine v_ifnullN h (t := 24) dX9_move_16 (by decide) ?_
      refine v_aload_n h (i := 0) dX9_move_24 (q := 25) rfl rfl 2 rfl ?_
      refine v_iconst h (v := 1) dX9_move_25 (q := 26) rfl (by decide) ?_
      refine v_callV h (As := [.int 1]) (rest := []) (c_ref (σ := σ) hs (e := 1) (by decide) rfl) cal_X9_refuse calV_X9_refuse m315 ⟨rfl, rfl, Nat.le_of_ble_eq_true rfl, Nat.le_of_ble_eq_true rfl⟩ rfl hs.1.1 hs.1.2 ⟨_, _, rfl⟩ rfl (Nat.le_of_ble_eq_true rfl) dX9_move_26 (q := 29) rfl (kI ?_)
      exact v_iret h dX9_move_29 (pA_of (by unfold oMove; rw [if_neg (fun z => by first | exact c2 z.1 | exact c9 z.2)]; rfl) (hR.err (by decide)))

set_option maxHeartbeats 4000000 in
set_option maxRecDepth 100000 in
theorem c_X9_part {w : bw} {σ : bSt} {A : bA} {s b : Int32} (hs : sOpera w) (hR : RC σ A) : MV yX9_part cX9_part 5 (some .int) (rmm 2 44) w [.ref (b_ad w 0), .int s, .int b] σ (pA (oPart s b A)) := by
  refine b_met (ls := [(0, .ref (b_ad w 0)), (1, .int s), (2, .int b)]) (by decide) (Nat.le_of_ble_eq_true rfl) rfl (fun x h => ?_)
  refine v_aload_n h (i := 0) dX9_part_0 (q := 1) rfl rfl 0 rfl ?_
  refine v_iload_n h (i := 1) dX9_part_1 (q := 2) rfl rfl 1 rfl ?_
  refine v_callV h (As := [.int s]) (rest := []) (c_X9_sheetOf (s := s) (σ := σ) hs) cal_X9_sheetOf calV_X9_sheetOf m746 ⟨rfl, rfl, Nat.le_of_ble_eq_true rfl, Nat.le_of_ble_eq_true rfl⟩ rfl hs.1.1 hs.1.2 ⟨_, _, rfl⟩ rfl (Nat.le_of_ble_eq_true rfl) dX9_part_2 (q := 5) rfl (kS (fun u hu eu => ?_) (fun c2 => ?_))
  · refine v_astore_n h (i := 3) (ls1 := [(3, .ref (b_ad w (44 + 2 * u))), (0, .ref (b_ad w 0)), (1, .int s), (2, .int b)]) dX9_part_5 (q := 6) rfl rfl (Nat.le_of_ble_eq_true rfl) rfl ?_
    refine v_aload_n h (i := 3) dX9_part_6 (q := 7) rfl rfl 0 rfl ?_
    refine v_ifnullR h dX9_part_7 (q := 10) rfl ?_
    refine v_aload_n h (i := 0) dX9_part_10 (q := 11) rfl rfl 1 rfl ?_
    refine v_get h (k := 1) (v := .ref (b_ad w 10)) cls9 hs.1.1 hs.1.2 (Nat.le_of_ble_eq_true rfl) m266 rfl dX9_part_11 (q := 14) rfl ?_
    refine v_getN h (k := 3) (v := .ref (b_ad w 11)) cls6 hs.2.2.1.1.1 hs.2.2.1.1.2 (Nat.le_of_ble_eq_true rfl) m120 rfl dX9_part_14 (q := 17) rfl ?_
    refine v_iload_n h (i := 2) dX9_part_17 (q := 18) rfl rfl 3 rfl ?_
    refine v_callV h (As := [.int b]) (rest := []) (c_X0_hold (me := 11) (σ := σ) (b := b) hs.2.2.1.2.1) cal_X0_hold calV_X0_hold m342 ⟨rfl, rfl, Nat.le_of_ble_eq_true rfl, Nat.le_of_ble_eq_true rfl⟩ rfl hs.2.2.1.2.1.1.1 hs.2.2.1.2.1.1.2 ⟨_, _, rfl⟩ rfl (Nat.le_of_ble_eq_true rfl) dX9_part_18 (q := 21) rfl (kB (fun c18 => ?_) (fun c18 => ?_))
    · refine v_if_ne h (t := 30) dX9_part_21 (by decide) (q := 24) rfl (fun _ => ?_) (fun c => absurd c (by decide))
      refine v_aload_n h (i := 3) dX9_part_30 (q := 31) rfl rfl 0 rfl ?_
      refine v_callV h (As := []) (rest := []) (c_X7_isMissing (me := 44 + 2 * u) (σ := σ) ((hs.2.2.2.2.2.2.2.2.1 u hu)) ) cal_X7_isMissing calV_X7_isMissing m759 ⟨rfl, rfl, Nat.le_of_ble_eq_true rfl, Nat.le_of_ble_eq_true rfl⟩ rfl (hs.2.2.2.2.2.2.2.2.1 u hu).1.1 (hs.2.2.2.2.2.2.2.2.1 u hu).1.2 ⟨_, _, rfl⟩ rfl (Nat.le_of_ble_eq_true rfl) dX9_part_31 (q := 34) rfl (kB (fun c31 => ?_) (fun c31 => ?_))
      · refine v_if_eq h (t := 43) dX9_part_34 (by decide) (q := 37) rfl (fun c => absurd c (by decide)) (fun _ => ?_)
        refine v_aload_n h (i := 0) dX9_part_37 (q := 38) rfl rfl 1 rfl ?_
        refine v_iconst h (v := 2) dX9_part_38 (q := 39) rfl (by decide) ?_
        refine v_callV h (As := [.int 2]) (rest := []) (c_ref (σ := σ) hs (e := 2) (by decide) rfl) cal_X9_refuse calV_X9_refuse m315 ⟨rfl, rfl, Nat.le_of_ble_eq_true rfl, Nat.le_of_ble_eq_true rfl⟩ rfl hs.1.1 hs.1.2 ⟨_, _, rfl⟩ rfl (Nat.le_of_ble_eq_true rfl) dX9_part_39 (q := 42) rfl (kI ?_)
        exact v_iret h dX9_part_42 (pA_of (by unfold oPart shA; rw [if_pos ⟨(by rw [eu]; exact inN_of hu (by decide)), (hold_iff hR).mp c18⟩, eu, cl_nI (n := u) (by omega), if_pos (by rw [← (hR.sh hu).1]; assumption)]; rfl) (hR.err (by decide)))
      · refine v_if_eq h (t := 43) dX9_part_34 (by decide) (q := 37) rfl (fun _ => ?_) (fun c => absurd (by decide) c)
        obtain ⟨n, hn, rfl⟩ := inN_nI ((hold_iff hR).mp c18)
        have hb9 : n < 9 := by have := hR.af.2; omega
        refine v_aload_n h (i := 3) dX9_part_43 (q := 44) rfl rfl 0 rfl ?_
        refine v_callV h (As := []) (rest := []) (c_X7_readPart (me := 44 + 2 * u) (n := (A.2.2.2.2.2 u).2.1) (σ := σ) ((hs.2.2.2.2.2.2.2.2.1 u hu)) (hR.sh hu).2.2.1 (hR.sh hu).2.2.2.1) cal_X7_readPart calV_X7_readPart m786 ⟨rfl, rfl, Nat.le_of_ble_eq_true rfl, Nat.le_of_ble_eq_true rfl⟩ rfl (hs.2.2.2.2.2.2.2.2.1 u hu).1.1 (hs.2.2.2.2.2.2.2.2.1 u hu).1.2 ⟨_, _, rfl⟩ rfl (Nat.le_of_ble_eq_true rfl) dX9_part_44 (q := 47) rfl (kI ?_)
        rw [show (orF (σ (44 + 2 * u + 1)) (rkF (σ (44 + 2 * u + 1)) (A.2.2.2.2.2 u).2.1) : Int32) = prS (A.2.2.2.2.2 u) from (pr_eq hR hu)]
        refine v_istore h (i := 4) (ls1 := [(4, .int (prS (A.2.2.2.2.2 u))), (3, .ref (b_ad w (44 + 2 * u))), (0, .ref (b_ad w 0)), (1, .int s), (2, .int (nI n))]) dX9_part_47 (q := 49) rfl (Nat.le_of_ble_eq_true rfl) rfl ?_
        refine v_aload_n h (i := 0) dX9_part_49 (q := 50) rfl rfl 2 rfl ?_
        refine v_get h (k := 1) (v := .ref (b_ad w 10)) cls9 hs.1.1 hs.1.2 (Nat.le_of_ble_eq_true rfl) m266 rfl dX9_part_50 (q := 53) rfl ?_
        refine v_getN h (k := 3) (v := .ref (b_ad w 11)) cls6 hs.2.2.1.1.1 hs.2.2.1.1.2 (Nat.le_of_ble_eq_true rfl) m120 rfl dX9_part_53 (q := 56) rfl ?_
        refine v_getN h (k := 4) (v := .ref (b_ad w 15)) cls0 hs.2.2.1.2.1.1.1 hs.2.2.1.2.1.1.2 (Nat.le_of_ble_eq_true rfl) m99 rfl dX9_part_56 (q := 59) rfl ?_
        refine v_iload_n h (i := 2) dX9_part_59 (q := 60) rfl rfl 4 rfl ?_
        refine v_iload h (i := 4) dX9_part_60 (q := 62) rfl 0 rfl ?_
        refine v_iast h (k := n) hs.2.2.1.2.1.2.2.2.2.1 hs.2.2.1.2.1.2.2.2.2.2 (vp_in_nI hb9 (by decide)) (nI_clamp (by omega)) dX9_part_62 (q := 63) rfl ?_
        refine v_iload h (i := 4) dX9_part_63 (q := 65) rfl 0 rfl ?_
        refine v_callS h (As := [.int (prS (A.2.2.2.2.2 u))]) (rest := []) (c_J6_bitCount_0f7a4 (v := prS (A.2.2.2.2.2 u))) cal_J6_bitCount_0f7a4 m450 m791 ⟨rfl, rfl, Nat.le_of_ble_eq_true rfl, Nat.le_of_ble_eq_true rfl⟩ rfl rfl (Nat.le_of_ble_eq_true rfl) dX9_part_65 (q := 68) rfl (kI ?_)
        exact v_iret h dX9_part_68 (pA_of (by unfold oPart shA; rw [if_pos ⟨(by rw [eu]; exact inN_of hu (by decide)), (hold_iff hR).mp c18⟩, eu, cl_nI (n := u) (by omega), if_neg (by rw [← (hR.sh hu).1]; assumption), cl_nI (n := n) (by omega)]) (hR.up1 (j := 15) (K := 15 + 4 * n) (by omega) (vw_upb (f := 3) (by decide) hb9 (by decide)) (hR.1.2.1.part hb9)))
    · refine v_if_ne h (t := 30) dX9_part_21 (by decide) (q := 24) rfl (fun c => absurd (by decide) c) (fun _ => ?_)
      refine v_aload_n h (i := 0) dX9_part_24 (q := 25) rfl rfl 1 rfl ?_
      refine v_iconst h (v := 1) dX9_part_25 (q := 26) rfl (by decide) ?_
      refine v_callV h (As := [.int 1]) (rest := []) (c_ref (σ := σ) hs (e := 1) (by decide) rfl) cal_X9_refuse calV_X9_refuse m315 ⟨rfl, rfl, Nat.le_of_ble_eq_true rfl, Nat.le_of_ble_eq_true rfl⟩ rfl hs.1.1 hs.1.2 ⟨_, _, rfl⟩ rfl (Nat.le_of_ble_eq_true rfl) dX9_part_26 (q := 29) rfl (kI ?_)
      exact v_iret h dX9_part_29 (pA_of (by unfold oPart; rw [if_neg (fun z => by first | exact c2 z.1 | exact c18 ((hold_iff hR).mpr z.2))]; rfl) (hR.err (by decide)))
  · refine v_astore_nN h (i := 3) (ls1 := [(3, .null), (0, .ref (b_ad w 0)), (1, .int s), (2, .int b)]) dX9_part_5 (q := 6) rfl rfl (Nat.le_of_ble_eq_true rfl) rfl ?_
    refine v_aload_nN h (i := 3) dX9_part_6 (q := 7) rfl rfl 0 rfl ?_
    refine v_ifnullN h (t := 24) dX9_part_7 (by decide) ?_
    refine v_aload_n h (i := 0) dX9_part_24 (q := 25) rfl rfl 1 rfl ?_
    refine v_iconst h (v := 1) dX9_part_25 (q := 26) rfl (by decide) ?_
    refine v_callV h (As := [.int 1]) (rest := []) (c_ref (σ := σ) hs (e := 1) (by decide) rfl) cal_X9_refuse calV_X9_refuse m315 ⟨rfl, rfl, Nat.le_of_ble_eq_true rfl, Nat.le_of_ble_eq_true rfl⟩ rfl hs.1.1 hs.1.2 ⟨_, _, rfl⟩ rfl (Nat.le_of_ble_eq_true rfl) dX9_part_26 (q := 29) rfl (kI ?_)
    exact v_iret h dX9_part_29 (pA_of (by unfold oPart; rw [if_neg (fun z => by first | exact c2 z.1 | exact c18 ((hold_iff hR).mpr z.2))]; rfl) (hR.err (by decide)))

set_option maxHeartbeats 4000000 in
set_option maxRecDepth 100000 in
theorem c_X9_then {w : bw} {σ : bSt} {A : bA} {n b : Int32} (hs : sOpera w) (hR : RC σ A) : MV yX9_then cX9_then 3 (some .int) (rmm 5 118) w [.ref (b_ad w 0), .int n, .int b] σ (pA (oThen n b A)) := by
  refine b_met (ls := [(0, .ref (b_ad w 0)), (1, .int n), (2, .int b)]) (by decide) (Nat.le_of_ble_eq_true rfl) rfl (fun x h => ?_)
  refine v_iload_n h (i := 1) dX9_then_0 (q := 1) rfl rfl 1 rfl ?_
  refine v_callS h (As := [.int n]) (rest := []) (c_X9_isAhead (v := n)) cal_X9_isAhead m594 m593 ⟨rfl, rfl, Nat.le_of_ble_eq_true rfl, Nat.le_of_ble_eq_true rfl⟩ rfl rfl (Nat.le_of_ble_eq_true rfl) dX9_then_1 (q := 4) rfl (kB (fun c1 => ?_) (fun c1 => ?_))
  · refine v_if_eq h (t := 21) dX9_then_4 (by decide) (q := 7) rfl (fun c => absurd c (by decide)) (fun _ => ?_)
    refine v_aload_n h (i := 0) dX9_then_7 (q := 8) rfl rfl 0 rfl ?_
    refine v_get h (k := 1) (v := .ref (b_ad w 10)) cls9 hs.1.1 hs.1.2 (Nat.le_of_ble_eq_true rfl) m266 rfl dX9_then_8 (q := 11) rfl ?_
    refine v_getN h (k := 3) (v := .ref (b_ad w 11)) cls6 hs.2.2.1.1.1 hs.2.2.1.1.2 (Nat.le_of_ble_eq_true rfl) m120 rfl dX9_then_11 (q := 14) rfl ?_
    refine v_iload_n h (i := 2) dX9_then_14 (q := 15) rfl rfl 2 rfl ?_
    refine v_callV h (As := [.int b]) (rest := []) (c_X0_hold (me := 11) (σ := σ) (b := b) hs.2.2.1.2.1) cal_X0_hold calV_X0_hold m342 ⟨rfl, rfl, Nat.le_of_ble_eq_true rfl, Nat.le_of_ble_eq_true rfl⟩ rfl hs.2.2.1.2.1.1.1 hs.2.2.1.2.1.1.2 ⟨_, _, rfl⟩ rfl (Nat.le_of_ble_eq_true rfl) dX9_then_15 (q := 18) rfl (kB (fun c15 => ?_) (fun c15 => ?_))
    · refine v_if_ne h (t := 27) dX9_then_18 (by decide) (q := 21) rfl (fun _ => ?_) (fun c => absurd c (by decide))
      obtain ⟨k, hk, rfl⟩ := wi_0 (n := 128) c1 rfl
      obtain ⟨d, hd, rfl⟩ := inN_nI ((hold_iff hR).mp c15)
      have hb9 : d < 9 := Nat.lt_of_lt_of_le hd hR.1.2.1.1.af.2
      have hW := WT_0 (n := k) hR hk
      refine v_aload_n h (i := 0) dX9_then_27 (q := 28) rfl rfl 0 rfl ?_
      refine v_get h (k := 12) (v := .ref (b_ad w 69)) cls9 hs.1.1 hs.1.2 (Nat.le_of_ble_eq_true rfl) m277 rfl dX9_then_28 (q := 31) rfl ?_
      refine v_aload_n h (i := 0) dX9_then_31 (q := 32) rfl rfl 0 rfl ?_
      refine v_get h (k := 1) (v := .ref (b_ad w 10)) cls9 hs.1.1 hs.1.2 (Nat.le_of_ble_eq_true rfl) m266 rfl dX9_then_32 (q := 35) rfl ?_
      refine v_iload_n h (i := 1) dX9_then_35 (q := 36) rfl rfl 1 rfl ?_
      refine v_callV h (As := [.ref (b_ad w 10), .int (nI k)]) (rest := []) (c_X4_watch (me := 69) (o := 10) (n := k) (σ := σ) hs.2.2.2.2.2.2.2.2.2.2.2.2.2.1 hs.2.2.1 (by omega) hk) cal_X4_watch calV_X4_watch m596 ⟨rfl, rfl, Nat.le_of_ble_eq_true rfl, Nat.le_of_ble_eq_true rfl⟩ rfl hs.2.2.2.2.2.2.2.2.2.2.2.2.2.1.1.1 hs.2.2.2.2.2.2.2.2.2.2.2.2.2.1.1.2 ⟨_, _, rfl⟩ rfl (Nat.le_of_ble_eq_true rfl) dX9_then_36 (q := 39) rfl (kU ?_)
      refine v_aload_n h (i := 0) dX9_then_39 (q := 40) rfl rfl 0 rfl ?_
      refine v_get h (k := 12) (v := .ref (b_ad w 69)) cls9 hs.1.1 hs.1.2 (Nat.le_of_ble_eq_true rfl) m277 rfl dX9_then_40 (q := 43) rfl ?_
      refine v_aload_n h (i := 0) dX9_then_43 (q := 44) rfl rfl 0 rfl ?_
      refine v_get h (k := 0) (v := .ref (b_ad w 1)) cls9 hs.1.1 hs.1.2 (Nat.le_of_ble_eq_true rfl) m265 rfl dX9_then_44 (q := 47) rfl ?_
      refine v_iload_n h (i := 2) dX9_then_47 (q := 48) rfl rfl 2 rfl ?_
      refine v_callV h (As := [.ref (b_ad w 1), .int (nI d)]) (rest := []) (c_X4_sail (me := 69) (L := 1) (b := d) (bt := btOf A.1.1) (n := k) (σ := b_set (b_up (b_up (blk σ (69 + 1) (10 + 1) 5) 69 1 (σ 10 0)) 69 2 (nI k)) (69 + 6) (fun _ => 0)) hs.2.2.2.2.2.2.2.2.2.2.2.2.2.1 hs.2.1 (by omega) hb9 ((hB_ob hW.2.1 hR.1.2.1.1.af hb9).mpr hd) hW.hb.1 hW.hb.2.1 hW.hb.2.2 hk) cal_X4_sail calV_X4_sail m608 ⟨rfl, rfl, Nat.le_of_ble_eq_true rfl, Nat.le_of_ble_eq_true rfl⟩ rfl hs.2.2.2.2.2.2.2.2.2.2.2.2.2.1.1.1 hs.2.2.2.2.2.2.2.2.2.2.2.2.2.1.1.2 ⟨_, _, rfl⟩ rfl (Nat.le_of_ble_eq_true rfl) dX9_then_48 (q := 51) rfl (kV (fun σ48 h48 => ?_))
      have hob := slR_ob hW.2.1 h48
      have hR2 := RC_sl hW.1 hW.2.1 hR.1.2.1.1 hb9 h48
      have hrow := fun i hi => row_sl hW.2.1 hb9 h48 (k := i) hi
      refine v_aload_n h (i := 0) dX9_then_51 (q := 52) rfl rfl 0 rfl ?_
      refine v_get h (k := 12) (v := .ref (b_ad w 69)) cls9 hs.1.1 hs.1.2 (Nat.le_of_ble_eq_true rfl) m277 rfl dX9_then_52 (q := 55) rfl ?_
      refine v_iload_n h (i := 1) dX9_then_55 (q := 56) rfl rfl 1 rfl ?_
      refine v_iload_n h (i := 2) dX9_then_56 (q := 57) rfl rfl 2 rfl ?_
      refine v_callV h (As := [.int (nI k), .int (nI d)]) (rest := []) (c_X4_cellBehind (me := 69) (k := k) (b := d) (σ := σ48) hs.2.2.2.2.2.2.2.2.2.2.2.2.2.1 hk hb9 ((hB_ob hob hR.1.2.1.1.af hb9).mpr hd)) cal_X4_cellBehind calV_X4_cellBehind m616 ⟨rfl, rfl, Nat.le_of_ble_eq_true rfl, Nat.le_of_ble_eq_true rfl⟩ rfl hs.2.2.2.2.2.2.2.2.2.2.2.2.2.1.1.1 hs.2.2.2.2.2.2.2.2.2.2.2.2.2.1.1.2 ⟨_, _, rfl⟩ rfl (Nat.le_of_ble_eq_true rfl) dX9_then_57 (q := 60) rfl (kI ?_)
      rw [show (σ48 (69 + 8 + k) d : Int32) = pN A.1.1 d (btOf A.1.1) k from (hrow k (Nat.le_refl k))]
      exact v_iret h dX9_then_60 (pA_of (by unfold oThen; rw [if_pos ⟨c1, (hold_iff hR).mp c15⟩, cl_nI (n := k) (by omega), cl_nI (n := d) (by omega), alm_p hR.1.2.1.bt.1 hb9 hd k (by have := hR.1.2.1.bt.2; omega)]) hR2)
    · refine v_if_ne h (t := 27) dX9_then_18 (by decide) (q := 21) rfl (fun c => absurd (by decide) c) (fun _ => ?_)
      refine v_aload_n h (i := 0) dX9_then_21 (q := 22) rfl rfl 0 rfl ?_
      refine v_iconst h (v := 1) dX9_then_22 (q := 23) rfl (by decide) ?_
      refine v_callV h (As := [.int 1]) (rest := []) (c_ref (σ := σ) hs (e := 1) (by decide) rfl) cal_X9_refuse calV_X9_refuse m315 ⟨rfl, rfl, Nat.le_of_ble_eq_true rfl, Nat.le_of_ble_eq_true rfl⟩ rfl hs.1.1 hs.1.2 ⟨_, _, rfl⟩ rfl (Nat.le_of_ble_eq_true rfl) dX9_then_23 (q := 26) rfl (kI ?_)
      exact v_iret h dX9_then_26 (pA_of (by unfold oThen; rw [if_neg (fun z => by first | exact c1 z.1 | exact c15 ((hold_iff hR).mpr z.2))]; rfl) (hR.err (by decide)))
  · refine v_if_eq h (t := 21) dX9_then_4 (by decide) (q := 7) rfl (fun _ => ?_) (fun c => absurd (by decide) c)
    refine v_aload_n h (i := 0) dX9_then_21 (q := 22) rfl rfl 0 rfl ?_
    refine v_iconst h (v := 1) dX9_then_22 (q := 23) rfl (by decide) ?_
    refine v_callV h (As := [.int 1]) (rest := []) (c_ref (σ := σ) hs (e := 1) (by decide) rfl) cal_X9_refuse calV_X9_refuse m315 ⟨rfl, rfl, Nat.le_of_ble_eq_true rfl, Nat.le_of_ble_eq_true rfl⟩ rfl hs.1.1 hs.1.2 ⟨_, _, rfl⟩ rfl (Nat.le_of_ble_eq_true rfl) dX9_then_23 (q := 26) rfl (kI ?_)
    exact v_iret h dX9_then_26 (pA_of (by unfold oThen; rw [if_neg (fun z => by first | exact c1 z.1 | exact c15 ((hold_iff hR).mpr z.2))]; rfl) (hR.err (by decide)))

set_option maxHeartbeats 4000000 in
set_option maxRecDepth 100000 in
theorem lX9_strokes_56 {w : bw} {σ : bSt} {A : bA} {b n : Int32} (hs : sOpera w) (hR : RC σ A) {x : bX} (h : Cx x w cX9_strokes RX9 5 (some .int) (rmm 5 118)) : ∀ d k : Nat, d < afN A.1.1 → k ≤ 128 → inN b (afN A.1.1) ∧ wj n 0 128 → b = nI d → n = nI k → ∀ τ : bSt, RC τ A → OB τ A.1.1 k → (∀ i, i ≤ k → τ (69 + 8 + i) d = pN A.1.1 d (btOf A.1.1) i) → ∀ m i : Nat, i + m = k → V x w 5 (pA (oStrokes b n A)) 56 [(4, .int (nI i)), (3, .int (nI (stN A.1.1 d i))), (0, .ref (b_ad w 0)), (1, .int (nI d)), (2, .int (nI k))] [] τ := by
  intro d k hd hk hcond ebd enk τ hR2 hob hrow
  have hb9 : d < 9 := Nat.lt_of_lt_of_le hd hR.1.2.1.1.af.2
  refine b_ind (fun m ih => ?_)
  intro i him
  refine v_iload h (i := 4) dX9_strokes_56 (q := 58) rfl 0 rfl ?_
  refine v_iload_n h (i := 2) dX9_strokes_58 (q := 59) rfl rfl 4 rfl ?_
  refine v_icmp_ge h (t := 96) dX9_strokes_59 (by decide) (q := 62) rfl (fun c59 => ?_) (fun c59 => ?_)
  · refine v_iload_n h (i := 3) dX9_strokes_96 (q := 97) rfl rfl 1 rfl ?_
    exact v_iret h dX9_strokes_97 (pA_of (by subst ebd enk; unfold oStrokes; rw [if_pos hcond, cl_nI (n := k) (by omega), cl_nI (n := d) (by omega), show i = k by have := nge (k := k) (nI_toInt (by omega)) (by omega) c59; omega]) hR2)
  · have hik : i < k := nlt (nI_toInt (by omega)) (by omega) c59
    have ea := alm_p hR.1.2.1.bt.1 hb9 hd i (by have := hR.1.2.1.bt.2; omega)
    have eb := alm_p hR.1.2.1.bt.1 hb9 hd (i + 1) (by have := hR.1.2.1.bt.2; omega)
    refine v_aload_n h (i := 0) dX9_strokes_62 (q := 63) rfl rfl 2 rfl ?_
    refine v_get h (k := 12) (v := .ref (b_ad w 69)) cls9 hs.1.1 hs.1.2 (Nat.le_of_ble_eq_true rfl) m277 rfl dX9_strokes_63 (q := 66) rfl ?_
    refine v_iload h (i := 4) dX9_strokes_66 (q := 68) rfl 0 rfl ?_
    refine v_iload_n h (i := 1) dX9_strokes_68 (q := 69) rfl rfl 3 rfl ?_
    refine v_callV h (As := [.int (nI i), .int (nI d)]) (rest := []) (c_X4_cellBehind (me := 69) (k := i) (b := d) (σ := τ) hs.2.2.2.2.2.2.2.2.2.2.2.2.2.1 (by omega) hb9 ((hB_ob hob hR.1.2.1.1.af hb9).mpr hd)) cal_X4_cellBehind calV_X4_cellBehind m616 ⟨rfl, rfl, Nat.le_of_ble_eq_true rfl, Nat.le_of_ble_eq_true rfl⟩ rfl hs.2.2.2.2.2.2.2.2.2.2.2.2.2.1.1.1 hs.2.2.2.2.2.2.2.2.2.2.2.2.2.1.1.2 ⟨_, _, rfl⟩ rfl (Nat.le_of_ble_eq_true rfl) dX9_strokes_69 (q := 72) rfl (kI ?_)
    rw [show (τ (69 + 8 + i) d : Int32) = pN A.1.1 d (btOf A.1.1) i from (hrow i (by omega))]
    refine v_aload_n h (i := 0) dX9_strokes_72 (q := 73) rfl rfl 2 rfl ?_
    refine v_get h (k := 12) (v := .ref (b_ad w 69)) cls9 hs.1.1 hs.1.2 (Nat.le_of_ble_eq_true rfl) m277 rfl dX9_strokes_73 (q := 76) rfl ?_
    refine v_iload h (i := 4) dX9_strokes_76 (q := 78) rfl 0 rfl ?_
    refine v_iconst h (v := 1) dX9_strokes_78 (q := 79) rfl (by decide) ?_
    refine v_iadd h dX9_strokes_79 (q := 80) rfl ?_
    rw [show ((nI i) + 1 : Int32) = nI (i + 1) from (nI_1 i)]
    refine v_iload_n h (i := 1) dX9_strokes_80 (q := 81) rfl rfl 3 rfl ?_
    refine v_callV h (As := [.int (nI (i + 1)), .int (nI d)]) (rest := [.int (pN A.1.1 d (btOf A.1.1) i)]) (c_X4_cellBehind (me := 69) (k := i + 1) (b := d) (σ := τ) hs.2.2.2.2.2.2.2.2.2.2.2.2.2.1 (by omega) hb9 ((hB_ob hob hR.1.2.1.1.af hb9).mpr hd)) cal_X4_cellBehind calV_X4_cellBehind m616 ⟨rfl, rfl, Nat.le_of_ble_eq_true rfl, Nat.le_of_ble_eq_true rfl⟩ rfl hs.2.2.2.2.2.2.2.2.2.2.2.2.2.1.1.1 hs.2.2.2.2.2.2.2.2.2.2.2.2.2.1.1.2 ⟨_, _, rfl⟩ rfl (Nat.le_of_ble_eq_true rfl) dX9_strokes_81 (q := 84) rfl (kI ?_)
    rw [show (τ (69 + 8 + ((i + 1))) d : Int32) = pN A.1.1 d (btOf A.1.1) (i + 1) from (hrow (i + 1) (by omega))]
    refine v_icmp_eq h (t := 90) dX9_strokes_84 (by decide) (q := 87) rfl (fun c84 => ?_) (fun c84 => ?_)
    · refine v_iinc h (p := 0) (u := nI (i + 1)) (ls1 := [(4, .int (nI (i + 1))), (3, .int (nI (stN A.1.1 d i))), (0, .ref (b_ad w 0)), (1, .int (nI d)), (2, .int (nI k))]) dX9_strokes_90 (q := 93) rfl rfl (nI_1 i) (Nat.le_of_ble_eq_true rfl) rfl ?_
      refine v_goto h (t := 56) dX9_strokes_93 (by decide) ?_
      have es : stN A.1.1 d (i + 1) = (stN A.1.1 d i) := by rw [stN, if_pos (by rw [ea, eb]; assumption)]
      have z := ih (m - 1) (by omega) (i + 1) (by omega)
      rw [es] at z
      exact z
    · refine v_iinc h (p := 1) (u := nI (stN A.1.1 d i + 1)) (ls1 := [(3, .int (nI (stN A.1.1 d i + 1))), (4, .int (nI i)), (0, .ref (b_ad w 0)), (1, .int (nI d)), (2, .int (nI k))]) dX9_strokes_87 (q := 90) rfl rfl (nI_1 _) (Nat.le_of_ble_eq_true rfl) rfl ?_
      refine v_iinc h (p := 1) (u := nI (i + 1)) (ls1 := [(4, .int (nI (i + 1))), (3, .int (nI (stN A.1.1 d i + 1))), (0, .ref (b_ad w 0)), (1, .int (nI d)), (2, .int (nI k))]) dX9_strokes_90 (q := 93) rfl rfl (nI_1 i) (Nat.le_of_ble_eq_true rfl) rfl ?_
      refine v_goto h (t := 56) dX9_strokes_93 (by decide) ?_
      have es : stN A.1.1 d (i + 1) = (stN A.1.1 d i + 1) := by rw [stN, if_neg (by rw [ea, eb]; assumption)]
      have z := ih (m - 1) (by omega) (i + 1) (by omega)
      rw [es] at z
      exact z
set_option maxHeartbeats 4000000 in
set_option maxRecDepth 100000 in
theorem c_X9_strokes {w : bw} {σ : bSt} {A : bA} {b n : Int32} (hs : sOpera w) (hR : RC σ A) : MV yX9_strokes cX9_strokes 5 (some .int) (rmm 5 118) w [.ref (b_ad w 0), .int b, .int n] σ (pA (oStrokes b n A)) := by
  refine b_met (ls := [(0, .ref (b_ad w 0)), (1, .int b), (2, .int n)]) (by decide) (Nat.le_of_ble_eq_true rfl) rfl (fun x h => ?_)
  refine v_aload_n h (i := 0) dX9_strokes_0 (q := 1) rfl rfl 0 rfl ?_
  refine v_get h (k := 1) (v := .ref (b_ad w 10)) cls9 hs.1.1 hs.1.2 (Nat.le_of_ble_eq_true rfl) m266 rfl dX9_strokes_1 (q := 4) rfl ?_
  refine v_getN h (k := 3) (v := .ref (b_ad w 11)) cls6 hs.2.2.1.1.1 hs.2.2.1.1.2 (Nat.le_of_ble_eq_true rfl) m120 rfl dX9_strokes_4 (q := 7) rfl ?_
  refine v_iload_n h (i := 1) dX9_strokes_7 (q := 8) rfl rfl 1 rfl ?_
  refine v_callV h (As := [.int b]) (rest := []) (c_X0_hold (me := 11) (σ := σ) (b := b) hs.2.2.1.2.1) cal_X0_hold calV_X0_hold m342 ⟨rfl, rfl, Nat.le_of_ble_eq_true rfl, Nat.le_of_ble_eq_true rfl⟩ rfl hs.2.2.1.2.1.1.1 hs.2.2.1.2.1.1.2 ⟨_, _, rfl⟩ rfl (Nat.le_of_ble_eq_true rfl) dX9_strokes_8 (q := 11) rfl (kB (fun c8 => ?_) (fun c8 => ?_))
  · refine v_if_eq h (t := 21) dX9_strokes_11 (by decide) (q := 14) rfl (fun c => absurd c (by decide)) (fun _ => ?_)
    refine v_iload_n h (i := 2) dX9_strokes_14 (q := 15) rfl rfl 2 rfl ?_
    refine v_callS h (As := [.int n]) (rest := []) (c_X9_isAhead (v := n)) cal_X9_isAhead m594 m593 ⟨rfl, rfl, Nat.le_of_ble_eq_true rfl, Nat.le_of_ble_eq_true rfl⟩ rfl rfl (Nat.le_of_ble_eq_true rfl) dX9_strokes_15 (q := 18) rfl (kB (fun c15 => ?_) (fun c15 => ?_))
    · refine v_if_ne h (t := 27) dX9_strokes_18 (by decide) (q := 21) rfl (fun _ => ?_) (fun c => absurd c (by decide))
      obtain ⟨k, hk, rfl⟩ := wi_0 (n := 128) c15 rfl
      obtain ⟨d, hd, rfl⟩ := inN_nI ((hold_iff hR).mp c8)
      have hb9 : d < 9 := Nat.lt_of_lt_of_le hd hR.1.2.1.1.af.2
      have hW := WT_0 (n := k) hR hk
      refine v_aload_n h (i := 0) dX9_strokes_27 (q := 28) rfl rfl 0 rfl ?_
      refine v_get h (k := 12) (v := .ref (b_ad w 69)) cls9 hs.1.1 hs.1.2 (Nat.le_of_ble_eq_true rfl) m277 rfl dX9_strokes_28 (q := 31) rfl ?_
      refine v_aload_n h (i := 0) dX9_strokes_31 (q := 32) rfl rfl 0 rfl ?_
      refine v_get h (k := 1) (v := .ref (b_ad w 10)) cls9 hs.1.1 hs.1.2 (Nat.le_of_ble_eq_true rfl) m266 rfl dX9_strokes_32 (q := 35) rfl ?_
      refine v_iload_n h (i := 2) dX9_strokes_35 (q := 36) rfl rfl 2 rfl ?_
      refine v_callV h (As := [.ref (b_ad w 10), .int (nI k)]) (rest := []) (c_X4_watch (me := 69) (o := 10) (n := k) (σ := σ) hs.2.2.2.2.2.2.2.2.2.2.2.2.2.1 hs.2.2.1 (by omega) hk) cal_X4_watch calV_X4_watch m596 ⟨rfl, rfl, Nat.le_of_ble_eq_true rfl, Nat.le_of_ble_eq_true rfl⟩ rfl hs.2.2.2.2.2.2.2.2.2.2.2.2.2.1.1.1 hs.2.2.2.2.2.2.2.2.2.2.2.2.2.1.1.2 ⟨_, _, rfl⟩ rfl (Nat.le_of_ble_eq_true rfl) dX9_strokes_36 (q := 39) rfl (kU ?_)
      refine v_aload_n h (i := 0) dX9_strokes_39 (q := 40) rfl rfl 0 rfl ?_
      refine v_get h (k := 12) (v := .ref (b_ad w 69)) cls9 hs.1.1 hs.1.2 (Nat.le_of_ble_eq_true rfl) m277 rfl dX9_strokes_40 (q := 43) rfl ?_
      refine v_aload_n h (i := 0) dX9_strokes_43 (q := 44) rfl rfl 0 rfl ?_
      refine v_get h (k := 0) (v := .ref (b_ad w 1)) cls9 hs.1.1 hs.1.2 (Nat.le_of_ble_eq_true rfl) m265 rfl dX9_strokes_44 (q := 47) rfl ?_
      refine v_iload_n h (i := 1) dX9_strokes_47 (q := 48) rfl rfl 1 rfl ?_
      refine v_callV h (As := [.ref (b_ad w 1), .int (nI d)]) (rest := []) (c_X4_sail (me := 69) (L := 1) (b := d) (bt := btOf A.1.1) (n := k) (σ := b_set (b_up (b_up (blk σ (69 + 1) (10 + 1) 5) 69 1 (σ 10 0)) 69 2 (nI k)) (69 + 6) (fun _ => 0)) hs.2.2.2.2.2.2.2.2.2.2.2.2.2.1 hs.2.1 (by omega) hb9 ((hB_ob hW.2.1 hR.1.2.1.1.af hb9).mpr hd) hW.hb.1 hW.hb.2.1 hW.hb.2.2 hk) cal_X4_sail calV_X4_sail m608 ⟨rfl, rfl, Nat.le_of_ble_eq_true rfl, Nat.le_of_ble_eq_true rfl⟩ rfl hs.2.2.2.2.2.2.2.2.2.2.2.2.2.1.1.1 hs.2.2.2.2.2.2.2.2.2.2.2.2.2.1.1.2 ⟨_, _, rfl⟩ rfl (Nat.le_of_ble_eq_true rfl) dX9_strokes_48 (q := 51) rfl (kV (fun σ48 h48 => ?_))
      have hob := slR_ob hW.2.1 h48
      have hR2 := RC_sl hW.1 hW.2.1 hR.1.2.1.1 hb9 h48
      have hrow := fun i hi => row_sl hW.2.1 hb9 h48 (k := i) hi
      refine v_iconst h (v := 0) dX9_strokes_51 (q := 52) rfl (by decide) ?_
      refine v_istore_n h (i := 3) (ls1 := [(3, .int 0), (0, .ref (b_ad w 0)), (1, .int (nI d)), (2, .int (nI k))]) dX9_strokes_52 (q := 53) rfl rfl (Nat.le_of_ble_eq_true rfl) rfl ?_
      refine v_iconst h (v := 0) dX9_strokes_53 (q := 54) rfl (by decide) ?_
      refine v_istore h (i := 4) (ls1 := [(4, .int 0), (3, .int 0), (0, .ref (b_ad w 0)), (1, .int (nI d)), (2, .int (nI k))]) dX9_strokes_54 (q := 56) rfl (Nat.le_of_ble_eq_true rfl) rfl ?_
      exact lX9_strokes_56 hs hR h d k hd hk ⟨(hold_iff hR).mp c8, c15⟩ rfl rfl _ hR2 hob hrow k 0 (by omega)
    · refine v_if_ne h (t := 27) dX9_strokes_18 (by decide) (q := 21) rfl (fun c => absurd (by decide) c) (fun _ => ?_)
      refine v_aload_n h (i := 0) dX9_strokes_21 (q := 22) rfl rfl 0 rfl ?_
      refine v_iconst h (v := 1) dX9_strokes_22 (q := 23) rfl (by decide) ?_
      refine v_callV h (As := [.int 1]) (rest := []) (c_ref (σ := σ) hs (e := 1) (by decide) rfl) cal_X9_refuse calV_X9_refuse m315 ⟨rfl, rfl, Nat.le_of_ble_eq_true rfl, Nat.le_of_ble_eq_true rfl⟩ rfl hs.1.1 hs.1.2 ⟨_, _, rfl⟩ rfl (Nat.le_of_ble_eq_true rfl) dX9_strokes_23 (q := 26) rfl (kI ?_)
      exact v_iret h dX9_strokes_26 (pA_of (by unfold oStrokes; rw [if_neg (fun z => by first | exact c8 ((hold_iff hR).mpr z.1) | exact c15 z.2)]; rfl) (hR.err (by decide)))
  · refine v_if_eq h (t := 21) dX9_strokes_11 (by decide) (q := 14) rfl (fun _ => ?_) (fun c => absurd (by decide) c)
    refine v_aload_n h (i := 0) dX9_strokes_21 (q := 22) rfl rfl 0 rfl ?_
    refine v_iconst h (v := 1) dX9_strokes_22 (q := 23) rfl (by decide) ?_
    refine v_callV h (As := [.int 1]) (rest := []) (c_ref (σ := σ) hs (e := 1) (by decide) rfl) cal_X9_refuse calV_X9_refuse m315 ⟨rfl, rfl, Nat.le_of_ble_eq_true rfl, Nat.le_of_ble_eq_true rfl⟩ rfl hs.1.1 hs.1.2 ⟨_, _, rfl⟩ rfl (Nat.le_of_ble_eq_true rfl) dX9_strokes_23 (q := 26) rfl (kI ?_)
    exact v_iret h dX9_strokes_26 (pA_of (by unfold oStrokes; rw [if_neg (fun z => by first | exact c8 ((hold_iff hR).mpr z.1) | exact c15 z.2)]; rfl) (hR.err (by decide)))

set_option maxHeartbeats 4000000 in
set_option maxRecDepth 100000 in
theorem lX9_judge_73 {w : bw} {σ : bSt} {A : bA} {s b : Int32} (hs : sOpera w) (hR : RC σ A) {x : bX} (h : Cx x w cX9_judge RX9 5 (some .int) (rmm 5 118)) : ∀ u d q : Nat, ∀ hu : u < 4, d < afN A.1.1 → (A.2.2.2.2.2 u).2.1 = q → q ≤ 40 → inN s 4 ∧ inN b (afN A.1.1) → ¬ (A.2.2.2.2.2 u).1 = 0 → b = nI d → s = nI u → ∀ τ : bSt, RC τ A → OB τ A.1.1 q → (∀ i, i ≤ q → τ (69 + 8 + i) d = pN A.1.1 d (btOf A.1.1) i) → ∀ m i : Nat, i + m = q → jdN (fun k => wrS (A.2.2.2.2.2 u).1 ((A.2.2.2.2.2 u).2.2 k)) A.1.1 d m i = jdN (fun k => wrS (A.2.2.2.2.2 u).1 ((A.2.2.2.2.2 u).2.2 k)) A.1.1 d q 0 → V x w 5 (pA (oJudge s b A)) 73 [(4, .int (nI i)), (0, .ref (b_ad w 0)), (2, .int (nI d)), (3, .ref (b_ad w (44 + 2 * u)))] [] τ := by
  intro u d q hu hd eq hq hcond hbz ebd esu τ hR2 hob hrow
  have hb9 : d < 9 := Nat.lt_of_lt_of_le hd hR.1.2.1.1.af.2
  refine b_ind (fun m ih => ?_)
  intro i him hjd
  refine v_iload h (i := 4) dX9_judge_73 (q := 75) rfl 0 rfl ?_
  refine v_bipush h (v := 40) dX9_judge_75 (q := 77) rfl (by decide) ?_
  refine v_icmp_ge h (t := 118) dX9_judge_77 (by decide) (q := 80) rfl (fun c77 => ?_) (fun c77 => ?_)
  · have hiq2 : i = q := by
      first
      | (have := nge (k := 40) rfl (by omega) c77; omega)
      | (have hz : ¬ i < q := fun z => c83 ((holds_iff hR2 hu).mpr (by rw [eq]; exact inN_of z (by omega))); omega)
    refine v_aload_n h (i := 3) dX9_judge_118 (q := 119) rfl rfl 3 rfl ?_
    refine v_getN h (k := 1) (v := .int (τ (44 + 2 * u) 1)) cls7 (hs.2.2.2.2.2.2.2.2.1 u hu).1.1 (hs.2.2.2.2.2.2.2.2.1 u hu).1.2 (Nat.le_of_ble_eq_true rfl) m178 rfl dX9_judge_119 (q := 122) rfl ?_
    rw [show (τ (44 + 2 * u) 1 : Int32) = nI q from (by rw [(hR2.sh hu).2.2.1, eq])]
    exact v_iret h dX9_judge_122 (pA_of (by subst ebd esu; unfold oJudge shA; rw [if_pos hcond, cl_nI (n := u) (by omega), if_neg hbz, cl_nI (n := d) (by omega), eq, ← hjd, show m = 0 by omega, hiq2]; rfl) hR2)
  · refine v_aload_n h (i := 3) dX9_judge_80 (q := 81) rfl rfl 3 rfl ?_
    refine v_iload h (i := 4) dX9_judge_81 (q := 83) rfl 0 rfl ?_
    refine v_callV h (As := [.int (nI i)]) (rest := []) (c_X7_holds (me := 44 + 2 * u) (σ := τ) (i := nI i) ((hs.2.2.2.2.2.2.2.2.1 u hu)) ) cal_X7_holds calV_X7_holds m763 ⟨rfl, rfl, Nat.le_of_ble_eq_true rfl, Nat.le_of_ble_eq_true rfl⟩ rfl (hs.2.2.2.2.2.2.2.2.1 u hu).1.1 (hs.2.2.2.2.2.2.2.2.1 u hu).1.2 ⟨_, _, rfl⟩ rfl (Nat.le_of_ble_eq_true rfl) dX9_judge_83 (q := 86) rfl (kB (fun c83 => ?_) (fun c83 => ?_))
    · refine v_if_eq h (t := 118) dX9_judge_86 (by decide) (q := 89) rfl (fun c => absurd c (by decide)) (fun _ => ?_)
      have hiq : i < q := by rw [← eq]; exact inN_lt ((holds_iff hR2 hu).mp c83) (by omega)
      have ea := alm_p hR.1.2.1.bt.1 hb9 hd i (by have := hR.1.2.1.bt.2; omega)
      refine v_aload_n h (i := 3) dX9_judge_89 (q := 90) rfl rfl 3 rfl ?_
      refine v_getN h (k := 2) (v := .ref (b_ad w (44 + 2 * u + 1))) cls7 (hs.2.2.2.2.2.2.2.2.1 u hu).1.1 (hs.2.2.2.2.2.2.2.2.1 u hu).1.2 (Nat.le_of_ble_eq_true rfl) m180 rfl dX9_judge_90 (q := 93) rfl ?_
      refine v_iload h (i := 4) dX9_judge_93 (q := 95) rfl 0 rfl ?_
      refine v_iald h (k := i) (hs.2.2.2.2.2.2.2.2.1 u hu).2.1 (hs.2.2.2.2.2.2.2.2.1 u hu).2.2 (vp_in_nI (by omega) (by decide)) (nI_clamp (by omega)) dX9_judge_95 (q := 96) rfl ?_
      rw [show (τ (44 + 2 * u + 1) i : Int32) = wrS (A.2.2.2.2.2 u).1 ((A.2.2.2.2.2 u).2.2 i) from (by rw [show 44 + 2 * u + 1 = 45 + 2 * u by omega]; exact (hR2.sh hu).2.2.2.2.2 i (by omega))]
      refine v_aload_n h (i := 0) dX9_judge_96 (q := 97) rfl rfl 1 rfl ?_
      refine v_get h (k := 12) (v := .ref (b_ad w 69)) cls9 hs.1.1 hs.1.2 (Nat.le_of_ble_eq_true rfl) m277 rfl dX9_judge_97 (q := 100) rfl ?_
      refine v_iload h (i := 4) dX9_judge_100 (q := 102) rfl 0 rfl ?_
      refine v_iload_n h (i := 2) dX9_judge_102 (q := 103) rfl rfl 2 rfl ?_
      refine v_callV h (As := [.int (nI i), .int (nI d)]) (rest := [.int (wrS (A.2.2.2.2.2 u).1 ((A.2.2.2.2.2 u).2.2 i))]) (c_X4_cellBehind (me := 69) (k := i) (b := d) (σ := τ) hs.2.2.2.2.2.2.2.2.2.2.2.2.2.1 (by omega) hb9 ((hB_ob hob hR.1.2.1.1.af hb9).mpr hd)) cal_X4_cellBehind calV_X4_cellBehind m616 ⟨rfl, rfl, Nat.le_of_ble_eq_true rfl, Nat.le_of_ble_eq_true rfl⟩ rfl hs.2.2.2.2.2.2.2.2.2.2.2.2.2.1.1.1 hs.2.2.2.2.2.2.2.2.2.2.2.2.2.1.1.2 ⟨_, _, rfl⟩ rfl (Nat.le_of_ble_eq_true rfl) dX9_judge_103 (q := 106) rfl (kI ?_)
      rw [show (τ (69 + 8 + i) d : Int32) = pN A.1.1 d (btOf A.1.1) i from (hrow i (by omega))]
      refine v_icmp_eq h (t := 112) dX9_judge_106 (by decide) (q := 109) rfl (fun c106 => ?_) (fun c106 => ?_)
      · refine v_iinc h (p := 0) (u := nI (i + 1)) (ls1 := [(4, .int (nI (i + 1))), (0, .ref (b_ad w 0)), (2, .int (nI d)), (3, .ref (b_ad w (44 + 2 * u)))]) dX9_judge_112 (q := 115) rfl rfl (nI_1 i) (Nat.le_of_ble_eq_true rfl) rfl ?_
        refine v_goto h (t := 73) dX9_judge_115 (by decide) ?_
        exact ih (m - 1) (by omega) (i + 1) (by omega) (by rw [← hjd, show m = (m - 1) + 1 by omega, jd_go (by rw [ea]; assumption)]; rfl)
      · refine v_iload h (i := 4) dX9_judge_109 (q := 111) rfl 0 rfl ?_
        exact v_iret h dX9_judge_111 (pA_of (by subst ebd esu; unfold oJudge shA; rw [if_pos hcond, cl_nI (n := u) (by omega), if_neg hbz, cl_nI (n := d) (by omega), eq, ← hjd, show m = (m - 1) + 1 by omega, jd_stop (by rw [ea]; assumption)]) hR2)
    · refine v_if_eq h (t := 118) dX9_judge_86 (by decide) (q := 89) rfl (fun _ => ?_) (fun c => absurd (by decide) c)
      have hiq2 : i = q := by
        first
        | (have := nge (k := 40) rfl (by omega) c77; omega)
        | (have hz : ¬ i < q := fun z => c83 ((holds_iff hR2 hu).mpr (by rw [eq]; exact inN_of z (by omega))); omega)
      refine v_aload_n h (i := 3) dX9_judge_118 (q := 119) rfl rfl 3 rfl ?_
      refine v_getN h (k := 1) (v := .int (τ (44 + 2 * u) 1)) cls7 (hs.2.2.2.2.2.2.2.2.1 u hu).1.1 (hs.2.2.2.2.2.2.2.2.1 u hu).1.2 (Nat.le_of_ble_eq_true rfl) m178 rfl dX9_judge_119 (q := 122) rfl ?_
      rw [show (τ (44 + 2 * u) 1 : Int32) = nI q from (by rw [(hR2.sh hu).2.2.1, eq])]
      exact v_iret h dX9_judge_122 (pA_of (by subst ebd esu; unfold oJudge shA; rw [if_pos hcond, cl_nI (n := u) (by omega), if_neg hbz, cl_nI (n := d) (by omega), eq, ← hjd, show m = 0 by omega, hiq2]; rfl) hR2)
set_option maxHeartbeats 4000000 in
set_option maxRecDepth 100000 in
theorem c_X9_judge {w : bw} {σ : bSt} {A : bA} {s b : Int32} (hs : sOpera w) (hR : RC σ A) : MV yX9_judge cX9_judge 5 (some .int) (rmm 5 118) w [.ref (b_ad w 0), .int s, .int b] σ (pA (oJudge s b A)) := by
  refine b_met (ls := [(0, .ref (b_ad w 0)), (1, .int s), (2, .int b)]) (by decide) (Nat.le_of_ble_eq_true rfl) rfl (fun x h => ?_)
  refine v_aload_n h (i := 0) dX9_judge_0 (q := 1) rfl rfl 0 rfl ?_
  refine v_iload_n h (i := 1) dX9_judge_1 (q := 2) rfl rfl 1 rfl ?_
  refine v_callV h (As := [.int s]) (rest := []) (c_X9_sheetOf (s := s) (σ := σ) hs) cal_X9_sheetOf calV_X9_sheetOf m746 ⟨rfl, rfl, Nat.le_of_ble_eq_true rfl, Nat.le_of_ble_eq_true rfl⟩ rfl hs.1.1 hs.1.2 ⟨_, _, rfl⟩ rfl (Nat.le_of_ble_eq_true rfl) dX9_judge_2 (q := 5) rfl (kS (fun u hu eu => ?_) (fun c2 => ?_))
  · refine v_astore_n h (i := 3) (ls1 := [(3, .ref (b_ad w (44 + 2 * u))), (0, .ref (b_ad w 0)), (1, .int s), (2, .int b)]) dX9_judge_5 (q := 6) rfl rfl (Nat.le_of_ble_eq_true rfl) rfl ?_
    refine v_aload_n h (i := 3) dX9_judge_6 (q := 7) rfl rfl 0 rfl ?_
    refine v_ifnullR h dX9_judge_7 (q := 10) rfl ?_
    refine v_aload_n h (i := 0) dX9_judge_10 (q := 11) rfl rfl 1 rfl ?_
    refine v_get h (k := 1) (v := .ref (b_ad w 10)) cls9 hs.1.1 hs.1.2 (Nat.le_of_ble_eq_true rfl) m266 rfl dX9_judge_11 (q := 14) rfl ?_
    refine v_getN h (k := 3) (v := .ref (b_ad w 11)) cls6 hs.2.2.1.1.1 hs.2.2.1.1.2 (Nat.le_of_ble_eq_true rfl) m120 rfl dX9_judge_14 (q := 17) rfl ?_
    refine v_iload_n h (i := 2) dX9_judge_17 (q := 18) rfl rfl 3 rfl ?_
    refine v_callV h (As := [.int b]) (rest := []) (c_X0_hold (me := 11) (σ := σ) (b := b) hs.2.2.1.2.1) cal_X0_hold calV_X0_hold m342 ⟨rfl, rfl, Nat.le_of_ble_eq_true rfl, Nat.le_of_ble_eq_true rfl⟩ rfl hs.2.2.1.2.1.1.1 hs.2.2.1.2.1.1.2 ⟨_, _, rfl⟩ rfl (Nat.le_of_ble_eq_true rfl) dX9_judge_18 (q := 21) rfl (kB (fun c18 => ?_) (fun c18 => ?_))
    · refine v_if_ne h (t := 30) dX9_judge_21 (by decide) (q := 24) rfl (fun _ => ?_) (fun c => absurd c (by decide))
      refine v_aload_n h (i := 3) dX9_judge_30 (q := 31) rfl rfl 0 rfl ?_
      refine v_callV h (As := []) (rest := []) (c_X7_isMissing (me := 44 + 2 * u) (σ := σ) ((hs.2.2.2.2.2.2.2.2.1 u hu)) ) cal_X7_isMissing calV_X7_isMissing m759 ⟨rfl, rfl, Nat.le_of_ble_eq_true rfl, Nat.le_of_ble_eq_true rfl⟩ rfl (hs.2.2.2.2.2.2.2.2.1 u hu).1.1 (hs.2.2.2.2.2.2.2.2.1 u hu).1.2 ⟨_, _, rfl⟩ rfl (Nat.le_of_ble_eq_true rfl) dX9_judge_31 (q := 34) rfl (kB (fun c31 => ?_) (fun c31 => ?_))
      · refine v_if_eq h (t := 43) dX9_judge_34 (by decide) (q := 37) rfl (fun c => absurd c (by decide)) (fun _ => ?_)
        refine v_aload_n h (i := 0) dX9_judge_37 (q := 38) rfl rfl 1 rfl ?_
        refine v_iconst h (v := 2) dX9_judge_38 (q := 39) rfl (by decide) ?_
        refine v_callV h (As := [.int 2]) (rest := []) (c_ref (σ := σ) hs (e := 2) (by decide) rfl) cal_X9_refuse calV_X9_refuse m315 ⟨rfl, rfl, Nat.le_of_ble_eq_true rfl, Nat.le_of_ble_eq_true rfl⟩ rfl hs.1.1 hs.1.2 ⟨_, _, rfl⟩ rfl (Nat.le_of_ble_eq_true rfl) dX9_judge_39 (q := 42) rfl (kI ?_)
        exact v_iret h dX9_judge_42 (pA_of (by unfold oJudge shA; rw [if_pos ⟨(by rw [eu]; exact inN_of hu (by decide)), (hold_iff hR).mp c18⟩, eu, cl_nI (n := u) (by omega), if_pos (by rw [← (hR.sh hu).1]; assumption)]; rfl) (hR.err (by decide)))
      · refine v_if_eq h (t := 43) dX9_judge_34 (by decide) (q := 37) rfl (fun _ => ?_) (fun c => absurd (by decide) c)
        obtain ⟨d, hd, rfl⟩ := inN_nI ((hold_iff hR).mp c18)
        have hb9 : d < 9 := Nat.lt_of_lt_of_le hd hR.1.2.1.1.af.2
        obtain ⟨q, hq, eq⟩ : ∃ q, q ≤ 40 ∧ (A.2.2.2.2.2 u).2.1 = q := ⟨_, (hR.sh hu).2.2.2.1, rfl⟩
        have hk : q ≤ 128 := by omega
        have hW := WT_0 (n := q) hR hk
        refine v_aload_n h (i := 0) dX9_judge_43 (q := 44) rfl rfl 1 rfl ?_
        refine v_get h (k := 12) (v := .ref (b_ad w 69)) cls9 hs.1.1 hs.1.2 (Nat.le_of_ble_eq_true rfl) m277 rfl dX9_judge_44 (q := 47) rfl ?_
        refine v_aload_n h (i := 0) dX9_judge_47 (q := 48) rfl rfl 1 rfl ?_
        refine v_get h (k := 1) (v := .ref (b_ad w 10)) cls9 hs.1.1 hs.1.2 (Nat.le_of_ble_eq_true rfl) m266 rfl dX9_judge_48 (q := 51) rfl ?_
        refine v_aload_n h (i := 3) dX9_judge_51 (q := 52) rfl rfl 0 rfl ?_
        refine v_getN h (k := 1) (v := .int (σ (44 + 2 * u) 1)) cls7 (hs.2.2.2.2.2.2.2.2.1 u hu).1.1 (hs.2.2.2.2.2.2.2.2.1 u hu).1.2 (Nat.le_of_ble_eq_true rfl) m178 rfl dX9_judge_52 (q := 55) rfl ?_
        rw [show (σ (44 + 2 * u) 1 : Int32) = nI q from (by rw [(hR.sh hu).2.2.1, eq])]
        refine v_callV h (As := [.ref (b_ad w 10), .int (nI q)]) (rest := []) (c_X4_watch (me := 69) (o := 10) (n := q) (σ := σ) hs.2.2.2.2.2.2.2.2.2.2.2.2.2.1 hs.2.2.1 (by omega) hk) cal_X4_watch calV_X4_watch m596 ⟨rfl, rfl, Nat.le_of_ble_eq_true rfl, Nat.le_of_ble_eq_true rfl⟩ rfl hs.2.2.2.2.2.2.2.2.2.2.2.2.2.1.1.1 hs.2.2.2.2.2.2.2.2.2.2.2.2.2.1.1.2 ⟨_, _, rfl⟩ rfl (Nat.le_of_ble_eq_true rfl) dX9_judge_55 (q := 58) rfl (kU ?_)
        refine v_aload_n h (i := 0) dX9_judge_58 (q := 59) rfl rfl 1 rfl ?_
        refine v_get h (k := 12) (v := .ref (b_ad w 69)) cls9 hs.1.1 hs.1.2 (Nat.le_of_ble_eq_true rfl) m277 rfl dX9_judge_59 (q := 62) rfl ?_
        refine v_aload_n h (i := 0) dX9_judge_62 (q := 63) rfl rfl 1 rfl ?_
        refine v_get h (k := 0) (v := .ref (b_ad w 1)) cls9 hs.1.1 hs.1.2 (Nat.le_of_ble_eq_true rfl) m265 rfl dX9_judge_63 (q := 66) rfl ?_
        refine v_iload_n h (i := 2) dX9_judge_66 (q := 67) rfl rfl 3 rfl ?_
        refine v_callV h (As := [.ref (b_ad w 1), .int (nI d)]) (rest := []) (c_X4_sail (me := 69) (L := 1) (b := d) (bt := btOf A.1.1) (n := q) (σ := b_set (b_up (b_up (blk σ (69 + 1) (10 + 1) 5) 69 1 (σ 10 0)) 69 2 (nI q)) (69 + 6) (fun _ => 0)) hs.2.2.2.2.2.2.2.2.2.2.2.2.2.1 hs.2.1 (by omega) hb9 ((hB_ob hW.2.1 hR.1.2.1.1.af hb9).mpr hd) hW.hb.1 hW.hb.2.1 hW.hb.2.2 hk) cal_X4_sail calV_X4_sail m608 ⟨rfl, rfl, Nat.le_of_ble_eq_true rfl, Nat.le_of_ble_eq_true rfl⟩ rfl hs.2.2.2.2.2.2.2.2.2.2.2.2.2.1.1.1 hs.2.2.2.2.2.2.2.2.2.2.2.2.2.1.1.2 ⟨_, _, rfl⟩ rfl (Nat.le_of_ble_eq_true rfl) dX9_judge_67 (q := 70) rfl (kV (fun σ67 h67 => ?_))
        have hob := slR_ob hW.2.1 h67
        have hR2 := RC_sl hW.1 hW.2.1 hR.1.2.1.1 hb9 h67
        have hrow := fun i hi => row_sl hW.2.1 hb9 h67 (k := i) hi
        refine v_iconst h (v := 0) dX9_judge_70 (q := 71) rfl (by decide) ?_
        refine v_istore h (i := 4) (ls1 := [(4, .int 0), (3, .ref (b_ad w (44 + 2 * u))), (0, .ref (b_ad w 0)), (1, .int s), (2, .int (nI d))]) dX9_judge_71 (q := 73) rfl (Nat.le_of_ble_eq_true rfl) rfl ?_
        refine v_ls [0, 2, 4, 1] (ls2 := [(4, .int 0), (0, .ref (b_ad w 0)), (2, .int (nI d)), (3, .ref (b_ad w (44 + 2 * u)))]) rfl ?_
        exact lX9_judge_73 hs hR h u d q hu hd eq hq ⟨(by rw [eu]; exact inN_of hu (by decide)), (hold_iff hR).mp c18⟩ (by rw [← (hR.sh hu).1]; assumption) rfl eu _ hR2 hob hrow q 0 (by omega) rfl
    · refine v_if_ne h (t := 30) dX9_judge_21 (by decide) (q := 24) rfl (fun c => absurd (by decide) c) (fun _ => ?_)
      refine v_aload_n h (i := 0) dX9_judge_24 (q := 25) rfl rfl 1 rfl ?_
      refine v_iconst h (v := 1) dX9_judge_25 (q := 26) rfl (by decide) ?_
      refine v_callV h (As := [.int 1]) (rest := []) (c_ref (σ := σ) hs (e := 1) (by decide) rfl) cal_X9_refuse calV_X9_refuse m315 ⟨rfl, rfl, Nat.le_of_ble_eq_true rfl, Nat.le_of_ble_eq_true rfl⟩ rfl hs.1.1 hs.1.2 ⟨_, _, rfl⟩ rfl (Nat.le_of_ble_eq_true rfl) dX9_judge_26 (q := 29) rfl (kI ?_)
      exact v_iret h dX9_judge_29 (pA_of (by unfold oJudge; rw [if_neg (fun z => by first | exact c2 z.1 | exact c18 ((hold_iff hR).mpr z.2))]; rfl) (hR.err (by decide)))
  · refine v_astore_nN h (i := 3) (ls1 := [(3, .null), (0, .ref (b_ad w 0)), (1, .int s), (2, .int b)]) dX9_judge_5 (q := 6) rfl rfl (Nat.le_of_ble_eq_true rfl) rfl ?_
    refine v_aload_nN h (i := 3) dX9_judge_6 (q := 7) rfl rfl 0 rfl ?_
    refine v_ifnullN h (t := 24) dX9_judge_7 (by decide) ?_
    refine v_aload_n h (i := 0) dX9_judge_24 (q := 25) rfl rfl 1 rfl ?_
    refine v_iconst h (v := 1) dX9_judge_25 (q := 26) rfl (by decide) ?_
    refine v_callV h (As := [.int 1]) (rest := []) (c_ref (σ := σ) hs (e := 1) (by decide) rfl) cal_X9_refuse calV_X9_refuse m315 ⟨rfl, rfl, Nat.le_of_ble_eq_true rfl, Nat.le_of_ble_eq_true rfl⟩ rfl hs.1.1 hs.1.2 ⟨_, _, rfl⟩ rfl (Nat.le_of_ble_eq_true rfl) dX9_judge_26 (q := 29) rfl (kI ?_)
    exact v_iret h dX9_judge_29 (pA_of (by unfold oJudge; rw [if_neg (fun z => by first | exact c2 z.1 | exact c18 ((hold_iff hR).mpr z.2))]; rfl) (hR.err (by decide)))
