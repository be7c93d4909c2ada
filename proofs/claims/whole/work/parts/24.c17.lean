theorem IvN.put {N : bN} (h : IvN N) {k : Nat} {v : Int32} (h0 : k = 0 → ∃ t, t < 20000 ∧ v = nI t) (h1 : k = 1 → ∃ u, 1 ≤ u ∧ u ≤ 9 ∧ v = nI u) (h2 : ∀ p, p < 4 → k = 2 + p → ∃ u, u ≤ 4 ∧ v = nI u) (h6 : k = 6 → ∃ u, u ≤ 999999 ∧ v = nI u) (h7 : k = 7 → ∃ u, u ≤ 9 ∧ v = nI u) (h8 : k = 8 → ∃ u, u ≤ 6 ∧ v = nI u)
    (hk : ∀ b, b < 9 → k = 12 + 4 * b → ∃ u, u ≤ 6 ∧ v = nI u) (hm : ∀ b, b < 9 → k = 13 + 4 * b → ∃ u, u ≤ 9 ∧ v = nI u) (hc : ∀ b, b < 9 → k = 14 + 4 * b → ∃ u, u < 64 ∧ v = nI u)
    (hp : ∀ l, l < 6 → k = 48 + 3 * l → ∃ u, u < 64 ∧ v = nI u) (hi : ∀ l, l < 6 → k = 49 + 3 * l → ∃ u, u ≤ 9999 ∧ v = nI u) (ho : ∀ l, l < 6 → k = 50 + 3 * l → ∃ u, u ≤ 99999 ∧ v = nI u) : IvN (upd N k v) := by
  obtain ⟨g0, g1, g2, g6, g7, g8, gb, gl⟩ := h
  have key : ∀ {P : Int32 → Prop} (j : Nat), P (N j) → (k = j → P v) → P (upd N k v j) := by
    intro P j a b
    unfold upd
    by_cases e : j = k
    · rw [if_pos e]; exact b e.symm
    · rw [if_neg e]; exact a
  refine ⟨key (P := fun z => ∃ t, t < 20000 ∧ z = nI t) 0 g0 h0, key (P := fun z => ∃ u, 1 ≤ u ∧ u ≤ 9 ∧ z = nI u) 1 g1 h1, fun p hp4 => key (P := fun z => ∃ u, u ≤ 4 ∧ z = nI u) (2 + p) (g2 p hp4) (h2 p hp4), key (P := fun z => ∃ u, u ≤ 999999 ∧ z = nI u) 6 g6 h6, key (P := fun z => ∃ u, u ≤ 9 ∧ z = nI u) 7 g7 h7, key (P := fun z => ∃ u, u ≤ 6 ∧ z = nI u) 8 g8 h8, fun b hb => ⟨?_, ?_, ?_⟩, fun l hl => ⟨?_, ?_, ?_⟩⟩
  · exact key (P := fun z => ∃ u, u ≤ 6 ∧ z = nI u) (12 + 4 * b) (gb b hb).1 (hk b hb)
  · exact key (P := fun z => ∃ u, u ≤ 9 ∧ z = nI u) (13 + 4 * b) (gb b hb).2.1 (hm b hb)
  · exact key (P := fun z => ∃ u, u < 64 ∧ z = nI u) (14 + 4 * b) (gb b hb).2.2 (hc b hb)
  · exact key (P := fun z => ∃ u, u < 64 ∧ z = nI u) (48 + 3 * l) (gl l hl).1 (hp l hl)
  · exact key (P := fun z => ∃ u, u ≤ 9999 ∧ z = nI u) (49 + 3 * l) (gl l hl).2.1 (hi l hl)
  · exact key (P := fun z => ∃ u, u ≤ 99999 ∧ z = nI u) (50 + 3 * l) (gl l hl).2.2 (ho l hl)
section IVB
variable {N : bN}
theorem IvB.b0 (h : IvB N) {k : Nat} {v : Int32} (hk : ¬ k = 0) : ∃ t, t ≤ 9999 ∧ upd N k v 0 = nI t := by
  rw [upd_n (fun z => hk z.symm)]
  exact h.2
theorem IvB.tide (h : IvB N) {p : Nat} {v : Int32} (hp : p < 4) (hv : ∃ u, u ≤ 4 ∧ v = nI u) : IvB (upd N (2 + p) v) :=
  ⟨h.1.put (by intros; exfalso; omega) (by intros; exfalso; omega) (fun _ _ _ => hv) (by intros; exfalso; omega) (by intros; exfalso; omega) (by intros; exfalso; omega) (by intros; exfalso; omega) (by intros; exfalso; omega) (by intros; exfalso; omega) (by intros; exfalso; omega) (by intros; exfalso; omega) (by intros; exfalso; omega), h.b0 (by omega)⟩
theorem IvB.speed (h : IvB N) {v : Int32} (hv : ∃ u, 1 ≤ u ∧ u ≤ 9 ∧ v = nI u) : IvB (upd N 1 v) :=
  ⟨h.1.put (by intros; exfalso; omega) (fun _ => hv) (by intros; exfalso; omega) (by intros; exfalso; omega) (by intros; exfalso; omega) (by intros; exfalso; omega) (by intros; exfalso; omega) (by intros; exfalso; omega) (by intros; exfalso; omega) (by intros; exfalso; omega) (by intros; exfalso; omega) (by intros; exfalso; omega), h.b0 (by omega)⟩
theorem IvB.n7 (h : IvB N) {v : Int32} (hv : ∃ u, u ≤ 9 ∧ v = nI u) : IvB (upd N 7 v) :=
  ⟨h.1.put (by intros; exfalso; omega) (by intros; exfalso; omega) (by intros; exfalso; omega) (by intros; exfalso; omega) (fun _ => hv) (by intros; exfalso; omega) (by intros; exfalso; omega) (by intros; exfalso; omega) (by intros; exfalso; omega) (by intros; exfalso; omega) (by intros; exfalso; omega) (by intros; exfalso; omega), h.b0 (by omega)⟩
theorem IvB.n8 (h : IvB N) {v : Int32} (hv : ∃ u, u ≤ 6 ∧ v = nI u) : IvB (upd N 8 v) :=
  ⟨h.1.put (by intros; exfalso; omega) (by intros; exfalso; omega) (by intros; exfalso; omega) (by intros; exfalso; omega) (by intros; exfalso; omega) (fun _ => hv) (by intros; exfalso; omega) (by intros; exfalso; omega) (by intros; exfalso; omega) (by intros; exfalso; omega) (by intros; exfalso; omega) (by intros; exfalso; omega), h.b0 (by omega)⟩
theorem IvB.fog (h : IvB N) {v : Int32} : IvB (upd N 11 v) := ⟨IvN_upz h.1 v, h.b0 (by omega)⟩
theorem IvB.kind (h : IvB N) {b : Nat} {v : Int32} (hv : ∃ u, u ≤ 6 ∧ v = nI u) : IvB (upd N (12 + 4 * b) v) :=
  ⟨h.1.put (by intros; exfalso; omega) (by intros; exfalso; omega) (by intros; exfalso; omega) (by intros; exfalso; omega) (by intros; exfalso; omega) (by intros; exfalso; omega) (fun _ _ _ => hv) (by intros; exfalso; omega) (by intros; exfalso; omega) (fun l _ e => by obtain ⟨u, hu, e2⟩ := hv; exact ⟨u, by omega, e2⟩) (fun l _ e => by obtain ⟨u, hu, e2⟩ := hv; exact ⟨u, by omega, e2⟩) (fun l _ e => by obtain ⟨u, hu, e2⟩ := hv; exact ⟨u, by omega, e2⟩), h.b0 (by omega)⟩
theorem IvB.numb (h : IvB N) {b : Nat} {v : Int32} (hv : ∃ u, u ≤ 9 ∧ v = nI u) : IvB (upd N (13 + 4 * b) v) :=
  ⟨h.1.put (by intros; exfalso; omega) (by intros; exfalso; omega) (by intros; exfalso; omega) (by intros; exfalso; omega) (by intros; exfalso; omega) (by intros; exfalso; omega) (by intros; exfalso; omega) (fun _ _ _ => hv) (by intros; exfalso; omega) (fun l _ e => by obtain ⟨u, hu, e2⟩ := hv; exact ⟨u, by omega, e2⟩) (fun l _ e => by obtain ⟨u, hu, e2⟩ := hv; exact ⟨u, by omega, e2⟩) (fun l _ e => by obtain ⟨u, hu, e2⟩ := hv; exact ⟨u, by omega, e2⟩), h.b0 (by omega)⟩
theorem IvB.cellB (h : IvB N) {b : Nat} {v : Int32} (hv : ∃ u, u < 64 ∧ v = nI u) : IvB (upd N (14 + 4 * b) v) :=
  ⟨h.1.put (by intros; exfalso; omega) (by intros; exfalso; omega) (by intros; exfalso; omega) (by intros; exfalso; omega) (by intros; exfalso; omega) (by intros; exfalso; omega) (by intros; exfalso; omega) (by intros; exfalso; omega) (fun _ _ _ => hv) (fun l _ e => hv) (fun l _ e => by obtain ⟨u, hu, e2⟩ := hv; exact ⟨u, by omega, e2⟩) (fun l _ e => by obtain ⟨u, hu, e2⟩ := hv; exact ⟨u, by omega, e2⟩), h.b0 (by omega)⟩
theorem IvB.part (h : IvB N) {b : Nat} {v : Int32} (hb : b < 9) : IvB (upd N (15 + 4 * b) v) :=
  ⟨h.1.put (by intros; exfalso; omega) (by intros; exfalso; omega) (by intros; exfalso; omega) (by intros; exfalso; omega) (by intros; exfalso; omega) (by intros; exfalso; omega) (by intros; exfalso; omega) (by intros; exfalso; omega) (by intros; exfalso; omega) (by intros; exfalso; omega) (by intros; exfalso; omega) (by intros; exfalso; omega), h.b0 (by omega)⟩
theorem IvB.lcell (h : IvB N) {l : Nat} {v : Int32} (hl : l < 6) (hv : ∃ u, u < 64 ∧ v = nI u) : IvB (upd N (48 + 3 * l) v) :=
  ⟨h.1.put (by intros; exfalso; omega) (by intros; exfalso; omega) (by intros; exfalso; omega) (by intros; exfalso; omega) (by intros; exfalso; omega) (by intros; exfalso; omega) (by intros; exfalso; omega) (by intros; exfalso; omega) (by intros; exfalso; omega) (fun _ _ _ => hv) (by intros; exfalso; omega) (by intros; exfalso; omega), h.b0 (by omega)⟩
theorem IvB.ltime (h : IvB N) {l : Nat} {v : Int32} (hl : l < 6) (hv : ∃ u, u ≤ 9999 ∧ v = nI u) : IvB (upd N (49 + 3 * l) v) :=
  ⟨h.1.put (by intros; exfalso; omega) (by intros; exfalso; omega) (by intros; exfalso; omega) (by intros; exfalso; omega) (by intros; exfalso; omega) (by intros; exfalso; omega) (by intros; exfalso; omega) (by intros; exfalso; omega) (by intros; exfalso; omega) (by intros; exfalso; omega) (fun _ _ _ => hv) (by intros; exfalso; omega), h.b0 (by omega)⟩
theorem IvB.lcoin (h : IvB N) {l : Nat} {v : Int32} (hl : l < 6) (hv : ∃ u, u ≤ 99999 ∧ v = nI u) : IvB (upd N (50 + 3 * l) v) :=
  ⟨h.1.put (by intros; exfalso; omega) (by intros; exfalso; omega) (by intros; exfalso; omega) (by intros; exfalso; omega) (by intros; exfalso; omega) (by intros; exfalso; omega) (by intros; exfalso; omega) (by intros; exfalso; omega) (by intros; exfalso; omega) (by intros; exfalso; omega) (by intros; exfalso; omega) (fun _ _ _ => hv), h.b0 (by omega)⟩
end IVB
/-- a number of one of so many -/
abbrev wj (v l m : Int32) : Prop := ¬ v < l ∧ ¬ m < v
abbrev inN (b : Int32) (a : Nat) : Prop := 0 ≤ b.toInt ∧ b.toInt < a
theorem inN_nI {b : Int32} {a : Nat} (h : inN b a) : ∃ n, n < a ∧ b = nI n := by
  obtain ⟨h1, h2⟩ := h
  obtain ⟨k, hk, e⟩ := nI_of (x := b) (by rw [i_lt]; show ¬ b.toInt < 0; omega)
  refine ⟨k, ?_, e⟩
  rw [e, nI_toInt hk] at h2
  omega
theorem inN_of {n a : Nat} (h : n < a) (ha : a < 2 ^ 31) : inN (nI n) a := by
  unfold inN
  rw [nI_toInt (by omega)]
  omega
theorem hold_iff {σ : bSt} {A : bA} (h : RC σ A) {b : Int32} : hB σ 11 b ↔ inN b (afN A.1.1) := by
  have h7 := h.iv.af
  have e := h.vwE
  rw [← e]
  unfold hB inN
  rw [show σ 11 0 = vw σ 10 1 7 from rfl, h7.1, i_lt, i_le, i_le, nI_toInt (by omega)]
  have h0 : (0 : Int32).toInt = 0 := rfl
  have h9 : (9 : Int32).toInt = 9 := rfl
  omega
theorem seat_iff {σ : bSt} {A : bA} (h : RC σ A) {l : Int32} : (¬ l < 0 ∧ ¬ σ 10 4 ≤ l ∧ ¬ (6 : Int32) ≤ l) ↔ inN l (liN A.1.1) := by
  have h7 := h.iv.li
  have e := h.vwE
  rw [← e]
  unfold inN
  rw [show σ 10 4 = vw σ 10 1 8 from rfl, h7.1, i_lt, i_le, i_le, nI_toInt (by omega)]
  have h0 : (0 : Int32).toInt = 0 := rfl
  have h9 : (6 : Int32).toInt = 6 := rfl
  omega
theorem wi_0 {v m : Int32} {n : Nat} (h : wi v 0 m) (hm : m.toInt = n) : ∃ u, u ≤ n ∧ v = nI u := wi_nI h hm
theorem wi_1 {v : Int32} {m : Int32} {n : Nat} (h : wi v 1 m) (hm : m.toInt = n) : ∃ u, 1 ≤ u ∧ u ≤ n ∧ v = nI u := by
  have h1 := wi_iff.mp h
  have h2 : (1 : Int32).toInt = 1 := rfl
  obtain ⟨k, hk, e⟩ := nI_of (x := v) (by rw [i_lt]; show ¬ v.toInt < 0; omega)
  have h3 := nI_toInt hk
  rw [← e] at h3
  exact ⟨k, by omega, by omega, e⟩
def cl (b : Int32) : Nat := b.toNatClampNeg
theorem cl_nI {n : Nat} (h : n < 2 ^ 31) : cl (nI n) = n := nI_clamp h
/-! the acts -/
def oTide (p v : Int32) (A : bA) : Int32 × bA := if wj p 0 3 ∧ wj v 0 4 then (A.1.1 (2 + cl p), setN A (upd A.1.1 (2 + cl p) v)) else refA 1 A
def oSpeed (v : Int32) (A : bA) : Int32 × bA := if wj v 1 9 then (A.1.1 1, setN A (upd A.1.1 1 v)) else refA 1 A
def launchN (N : bN) (km cell : Int32) : bN := upd (upd (upd (upd (upd N (12 + 4 * afN N) (km / 10)) (13 + 4 * afN N) (irm km 10)) (14 + 4 * afN N) cell) (15 + 4 * afN N) 0) 7 (nI (afN N + 1))
def oBoat (km cell : Int32) (A : bA) : Int32 × bA := if wj km 0 69 ∧ wj cell 0 63 then (if afN A.1.1 < 9 then (nI (afN A.1.1), setN A (launchN A.1.1 km cell)) else refA 4 A) else refA 1 A
def oOfBoat (b what : Int32) (A : bA) : Int32 × bA := if inN b (afN A.1.1) ∧ wj what 0 4 then ((if what = 4 then (if sgN A.1.1 (cl b) = true then 1 else 0) else A.1.1 (12 + cl what + 4 * cl b)), A) else refA 1 A
def oChange (b what v : Int32) (A : bA) : Int32 × bA := if inN b (afN A.1.1) ∧ ((what = 2 ∧ wj v 0 63) ∨ what = 3) then (A.1.1 (12 + cl what + 4 * cl b), setN A (upd A.1.1 (12 + cl what + 4 * cl b) v)) else refA 1 A
def oBecome (b km : Int32) (A : bA) : Int32 × bA := if inN b (afN A.1.1) ∧ wj km 0 69 then (A.1.1 (12 + 4 * cl b), setN A (upd (upd A.1.1 (12 + 4 * cl b) (km / 10)) (13 + 4 * cl b) (irm km 10))) else refA 1 A
abbrev unN (k o : Int32) : Prop := o = k ∨ o = nI (abK (cl k)) ∨ o = nI (abK (abK (cl k)))
def oAs (b kind : Int32) (A : bA) : Int32 × bA := if inN b (afN A.1.1) ∧ wj kind 0 6 then (if unN (A.1.1 (12 + 4 * cl b)) kind then (A.1.1 (13 + 4 * cl b), A) else refA 5 A) else refA 1 A
def oLag (b cell : Int32) (A : bA) : Int32 × bA := if inN b (afN A.1.1) ∧ wj cell 0 63 then (lgN (gvT A.1.2.1) A.1.1 cell (cl b), A) else refA 1 A
def seatN (N : bN) (cell : Int32) : bN := upd (upd (upd (upd N (48 + 3 * liN N) cell) (49 + 3 * liN N) 0) (50 + 3 * liN N) 50) 8 (nI (liN N + 1))
def oListener (cell : Int32) (A : bA) : Int32 × bA := if wj cell 0 63 then (if liN A.1.1 < 6 then (nI (liN A.1.1), setN A (seatN A.1.1 cell)) else refA 4 A) else refA 1 A
def telN (g : bG) (N : bN) (l : Nat) (what : Int32) : Int32 := if what = 3 then (if togN g N (N (48 + 3 * l)) (sngN N 9) = true then 1 else 0) else N (48 + cl what + 3 * l)
def oOfListener (l what : Int32) (A : bA) : Int32 × bA := if inN l (liN A.1.1) ∧ wj what 0 3 then (telN (gvT A.1.2.1) A.1.1 (cl l) what, A) else refA 1 A
def oRow (l cell : Int32) (A : bA) : Int32 × bA := if inN l (liN A.1.1) ∧ wj cell 0 63 then (A.1.1 (48 + 3 * cl l), setN A (upd A.1.1 (48 + 3 * cl l) cell)) else refA 1 A
theorem c_ref {w : bw} {σ : bSt} {e : Nat} {v : Int32} (hs : sOpera w) (he : e < 6) (hv : v = nI e) : MV yX9_refuse cX9_refuse 2 (some .int) (rmm 0 0) w [.ref (b_ad w 0), .int v] σ (pI (-1000000000 - nI e) (b_up σ 54 e (σ 54 e + 1))) := by
  subst hv
  exact c_X9_refuse hs he
section VT
variable {σ : bSt} {sc L : Nat} {v : Int32}
theorem vw_upt {p : Nat} (hp : p < 4) (hd : sc + 9 ≤ L ∨ L + 9 ≤ sc) : vw (b_up σ (L + 1) p v) sc L = upd (vw σ sc L) (2 + p) v := by
  funext k
  by_cases e : k = 2 + p
  · subst e
    rw [upd_s, vw_t hp, b_up_s, upd_s]
  · rw [upd_n e]
    unfold vw
    rw [b_up_s, b_up_n (show L ≠ L + 1 by omega), b_up_n (show sc + 1 ≠ L + 1 by omega), b_up_n (show sc ≠ L + 1 by omega), b_up_n (show sc + 2 + (k - 12) % 4 ≠ L + 1 by omega), b_up_n (show sc + 6 + (k - 48) % 3 ≠ L + 1 by omega)]
    by_cases c0 : k = 0
    · rw [if_pos c0, if_pos c0]
    · rw [if_neg c0, if_neg c0]
      by_cases c1 : k = 1
      · rw [if_pos c1, if_pos c1]
      · rw [if_neg c1, if_neg c1]
        by_cases c2 : k < 6
        · rw [if_pos c2, if_pos c2, upd_n (show k - 2 ≠ p by omega)]
        · rw [if_neg c2, if_neg c2]
theorem vw_upv (hd : sc + 9 ≤ L ∨ L + 9 ≤ sc) : vw (b_up σ L 0 v) sc L = upd (vw σ sc L) 1 v := by
  funext k
  by_cases e : k = 1
  · subst e
    rw [upd_s, vw_1, b_up_s, upd_s]
  · rw [upd_n e]
    unfold vw
    rw [b_up_n (show L + 1 ≠ L by omega), b_up_n (show sc + 1 ≠ L by omega), b_up_n (show sc ≠ L by omega), b_up_n (show sc + 2 + (k - 12) % 4 ≠ L by omega), b_up_n (show sc + 6 + (k - 48) % 3 ≠ L by omega), if_neg e, if_neg e]
end VT
theorem RC.up1 {σ : bSt} {A : bA} {j k K : Nat} {v : Int32} (h : RC σ A) (hj : (10 ≤ j ∧ j < 19) ∨ j = 1 ∨ j = 2) (hv : vw (b_up σ j k v) 10 1 = upd (vw σ 10 1) K v) (hI : IvB (upd A.1.1 K v)) : RC (b_up σ j k v) (setN A (upd A.1.1 K v)) :=
  h.num (fun i a b c _ _ _ _ => b_up_n (by omega)) (cacheOK_at h.ca (fun i a b _ _ => b_up_n (by omega))) (h.ro.at (fun i a b => b_up_n (by omega))) (by rw [hv, h.vwE]) hI
theorem km_div : ∀ u : Nat, u ≤ 69 → nI u / 10 = nI (u / 10) ∧ irm (nI u) 10 = nI (u % 10) := by decide +kernel
theorem km_k {km : Int32} (h : wi km 0 69) : (∃ u, u ≤ 6 ∧ km / 10 = nI u) ∧ ∃ u, u ≤ 9 ∧ irm km 10 = nI u := by
  obtain ⟨u, hu, rfl⟩ := wi_0 (n := 69) h rfl
  have := km_div u hu
  exact ⟨⟨u / 10, by omega, this.1⟩, ⟨u % 10, by omega, this.2⟩⟩
theorem cell_w {c : Int32} (h : wi c 0 63) : ∃ u, u < 64 ∧ c = nI u := by
  obtain ⟨u, hu, e⟩ := wi_0 (n := 63) h rfl
  exact ⟨u, by omega, e⟩
theorem ge_gt {p : Int32} (h : (4 : Int32) ≤ p) : (3 : Int32) < p := by
  rw [i_le] at h
  rw [i_lt]
  have a : (4 : Int32).toInt = 4 := rfl
  have b : (3 : Int32).toInt = 3 := rfl
  omega
theorem gt_ge {p : Int32} (h : ¬ (4 : Int32) ≤ p) : ¬ (3 : Int32) < p := by
  rw [i_le] at h
  rw [i_lt]
  have a : (4 : Int32).toInt = 4 := rfl
  have b : (3 : Int32).toInt = 3 := rfl
  omega
theorem RC.af {σ : bSt} {A : bA} (h : RC σ A) : σ 11 0 = nI (afN A.1.1) ∧ afN A.1.1 ≤ 9 := by
  have := h.iv.af
  rw [← h.vwE]
  exact this
theorem RC.li {σ : bSt} {A : bA} (h : RC σ A) : σ 10 4 = nI (liN A.1.1) ∧ liN A.1.1 ≤ 6 := by
  have := h.iv.li
  rw [← h.vwE]
  exact this
theorem RC.nb {σ : bSt} {A : bA} (h : RC σ A) {b f : Nat} (hb : b < 9) (hf : f < 4) : σ (12 + f) b = A.1.1 (12 + f + 4 * b) := by
  rw [← h.vwE, vw_b hb hf]
theorem RC.nl {σ : bSt} {A : bA} (h : RC σ A) {l f : Nat} (hl : l < 6) (hf : f < 3) : σ (16 + f) l = A.1.1 (48 + f + 3 * l) := by
  rw [← h.vwE, vw_l hl hf]
theorem RC.nt {σ : bSt} {A : bA} (h : RC σ A) {p : Nat} (hp : p < 4) : σ 2 p = A.1.1 (2 + p) := by
  rw [← h.vwE, vw_t hp]
theorem un_tab : ∀ k : Nat, k < 7 → ∀ o : Nat, o < 7 → True := by decide +kernel
theorem wh_4 {v : Int32} (h : wi v 0 4) (h0 : ¬ v = 0) (h1 : ¬ v = 1) (h2 : ¬ v = 2) (h3 : ¬ v = 3) : v = 4 := by
  obtain ⟨u, hu, rfl⟩ := wi_0 (n := 4) h rfl
  rcases (show u = 0 ∨ u = 1 ∨ u = 2 ∨ u = 3 ∨ u = 4 by omega) with rfl | rfl | rfl | rfl | rfl
  · exact absurd rfl h0
  · exact absurd rfl h1
  · exact absurd rfl h2
  · exact absurd rfl h3
  · rfl
theorem wh_3 {v : Int32} (h : wi v 0 3) (h0 : ¬ v = 0) (h1 : ¬ v = 1) (h2 : ¬ v = 2) : v = 3 := by
  obtain ⟨u, hu, rfl⟩ := wi_0 (n := 3) h rfl
  rcases (show u = 0 ∨ u = 1 ∨ u = 2 ∨ u = 3 by omega) with rfl | rfl | rfl | rfl
  · exact absurd rfl h0
  · exact absurd rfl h1
  · exact absurd rfl h2
  · rfl
theorem sg_hold {σ : bSt} {A : bA} (h : RC σ A) {b : Nat} (hb : b < 9) : sgB σ 11 b (σ 10 0 &&& 31) ↔ sgN A.1.1 b = true := by
  rw [← h.vwE, ← sg_vw hb, show σ 10 0 &&& 31 = nI (tN (vw σ 10 1)) from h.iv.t.1]
theorem sg_hold2 {σ : bSt} {A : bA} (h : RC σ A) {b : Nat} (hb : b < 9) : sgB σ 11 (nI b).toNatClampNeg (σ 10 0 &&& 31) ↔ sgN A.1.1 b = true := by
  rw [nI_clamp (by omega)]
  exact sg_hold h hb
theorem tel_eq {σ : bSt} {A : bA} (h : RC σ A) {l : Nat} {what : Int32} (hl : l < 6) (hw : wi what 0 3) : (if what = 0 then σ (10 + 6) l else if what = 1 then σ (10 + 7) l else if what = 2 then σ (10 + 8) l else if togN (gvS σ 1) (vw σ 10 1) (σ (10 + 6) l) (sngN (vw σ 10 1) 9) = true then 1 else 0) = telN (gvT A.1.2.1) A.1.1 l what := by
  unfold telN
  rw [h.gv, h.vwE]
  by_cases c0 : what = 0
  · rw [if_pos c0, c0, if_neg (by decide)]
    exact h.nl (f := 0) hl (by decide)
  · rw [if_neg c0]
    by_cases c1 : what = 1
    · rw [if_pos c1, c1, if_neg (by decide)]
      exact h.nl (f := 1) hl (by decide)
    · rw [if_neg c1]
      by_cases c2 : what = 2
      · rw [if_pos c2, c2, if_neg (by decide)]
        exact h.nl (f := 2) hl (by decide)
      · rw [if_neg c2, if_pos (wh_3 hw c0 c1 c2), show σ (10 + 6) l = A.1.1 (48 + 3 * l) from h.nl (f := 0) hl (by decide)]
theorem lag_eq {σ : bSt} {A : bA} (h : RC σ A) {b y cb vn : Nat} (hb : b < 9) (hy : y < 64) (ecb : σ (10 + 4) b = nI cb) (hcb : cb < 64) (ev : vw σ 10 1 1 = nI vn) : gvS σ 1 0 (nI (farN cb y)) (nI vn) (nI (tN (vw σ 10 1))) + latB σ 11 (nI b) = lgN (gvT A.1.2.1) A.1.1 (nI y) b := by
  rw [← h.gv, ← h.vwE, ← lag_vw h.iv hb]
  unfold lagC
  rw [ecb, far_nI hcb hy, ev]

theorem nlt9 {a : Nat} (h : a ≤ 9) (c : nI a < 9) : a < 9 := (nI_ltI (a := a) (b := 9) (by omega) (by decide)).mp c
theorem nlt9i {a : Nat} (h : a ≤ 9) (c : ¬ nI a < 9) (z : a < 9) : False := c (nI_lt (a := a) (b := 9) z (by decide))

set_option maxHeartbeats 4000000 in
set_option maxRecDepth 100000 in
theorem c_X9_tide {w : bw} {σ : bSt} {A : bA} {p v : Int32} (hs : sOpera w) (hR : RC σ A) : MV yX9_tide cX9_tide 4 (some .int) (rmm 1 22) w [.ref (b_ad w 0), .int p, .int v] σ (pA (oTide p v A)) := by
  refine b_met (ls := [(0, .ref (b_ad w 0)), (1, .int p), (2, .int v)]) (by decide) (Nat.le_of_ble_eq_true rfl) rfl (fun x h => ?_)
  refine v_iload_n h (i := 1) dX9_tide_0 (q := 1) rfl rfl 1 rfl ?_
  refine v_if_lt h (t := 18) dX9_tide_1 (by decide) (q := 4) rfl (fun c1 => ?_) (fun c1 => ?_)
  · refine v_aload_n h (i := 0) dX9_tide_18 (q := 19) rfl rfl 0 rfl ?_
    refine v_iconst h (v := 1) dX9_tide_19 (q := 20) rfl (by decide) ?_
    refine v_callV h (As := [.int 1]) (rest := []) (c_ref (σ := σ) hs (e := 1) (by decide) rfl) cal_X9_refuse calV_X9_refuse m315 ⟨rfl, rfl, Nat.le_of_ble_eq_true rfl, Nat.le_of_ble_eq_true rfl⟩ rfl hs.1.1 hs.1.2 ⟨_, _, rfl⟩ rfl (Nat.le_of_ble_eq_true rfl) dX9_tide_20 (q := 23) rfl (kI ?_)
    exact v_iret h dX9_tide_23 (pA_of (by unfold oTide; rw [if_neg (fun z => by first | exact z.1.1 c1 | exact z.1.2 (ge_gt c6) | exact c12 z.2)]; rfl) (hR.err (by decide)))
  · refine v_iload_n h (i := 1) dX9_tide_4 (q := 5) rfl rfl 1 rfl ?_
    refine v_iconst h (v := 4) dX9_tide_5 (q := 6) rfl (by decide) ?_
    refine v_icmp_ge h (t := 18) dX9_tide_6 (by decide) (q := 9) rfl (fun c6 => ?_) (fun c6 => ?_)
    · refine v_aload_n h (i := 0) dX9_tide_18 (q := 19) rfl rfl 0 rfl ?_
      refine v_iconst h (v := 1) dX9_tide_19 (q := 20) rfl (by decide) ?_
      refine v_callV h (As := [.int 1]) (rest := []) (c_ref (σ := σ) hs (e := 1) (by decide) rfl) cal_X9_refuse calV_X9_refuse m315 ⟨rfl, rfl, Nat.le_of_ble_eq_true rfl, Nat.le_of_ble_eq_true rfl⟩ rfl hs.1.1 hs.1.2 ⟨_, _, rfl⟩ rfl (Nat.le_of_ble_eq_true rfl) dX9_tide_20 (q := 23) rfl (kI ?_)
      exact v_iret h dX9_tide_23 (pA_of (by unfold oTide; rw [if_neg (fun z => by first | exact z.1.1 c1 | exact z.1.2 (ge_gt c6) | exact c12 z.2)]; rfl) (hR.err (by decide)))
    · refine v_iload_n h (i := 2) dX9_tide_9 (q := 10) rfl rfl 2 rfl ?_
      refine v_iconst h (v := 0) dX9_tide_10 (q := 11) rfl (by decide) ?_
      refine v_iconst h (v := 4) dX9_tide_11 (q := 12) rfl (by decide) ?_
      refine v_callS h (As := [.int v, .int 0, .int 4]) (rest := []) (c_X9_within (v := v) (l := 0) (m := 4)) cal_X9_within m313 m312 ⟨rfl, rfl, Nat.le_of_ble_eq_true rfl, Nat.le_of_ble_eq_true rfl⟩ rfl rfl (Nat.le_of_ble_eq_true rfl) dX9_tide_12 (q := 15) rfl (kB (fun c12 => ?_) (fun c12 => ?_))
      · refine v_if_ne h (t := 24) dX9_tide_15 (by decide) (q := 18) rfl (fun _ => ?_) (fun c => absurd c (by decide))
        have hwp : wi p 0 3 := ⟨c1, gt_ge c6⟩
        obtain ⟨k, hk, rfl⟩ := wi_0 (n := 3) hwp rfl
        have hk4 : k < 4 := by omega
        refine v_aload_n h (i := 0) dX9_tide_24 (q := 25) rfl rfl 0 rfl ?_
        refine v_get h (k := 0) (v := .ref (b_ad w 1)) cls9 hs.1.1 hs.1.2 (Nat.le_of_ble_eq_true rfl) m265 rfl dX9_tide_25 (q := 28) rfl ?_
        refine v_getN h (k := 1) (v := .ref (b_ad w 2)) cls3 hs.2.1.1.1 hs.2.1.1.2 (Nat.le_of_ble_eq_true rfl) m60 rfl dX9_tide_28 (q := 31) rfl ?_
        refine v_iload_n h (i := 1) dX9_tide_31 (q := 32) rfl rfl 1 rfl ?_
        refine v_iald h (k := k) hs.2.1.2.1.1 hs.2.1.2.1.2 (vp_in_nI hk4 (by decide)) (nI_clamp (by omega)) dX9_tide_32 (q := 33) rfl ?_
        refine v_istore_n h (i := 3) (ls1 := [(3, .int (σ 2 k)), (0, .ref (b_ad w 0)), (1, .int (nI k)), (2, .int v)]) dX9_tide_33 (q := 34) rfl rfl (Nat.le_of_ble_eq_true rfl) rfl ?_
        refine v_aload_n h (i := 0) dX9_tide_34 (q := 35) rfl rfl 1 rfl ?_
        refine v_get h (k := 0) (v := .ref (b_ad w 1)) cls9 hs.1.1 hs.1.2 (Nat.le_of_ble_eq_true rfl) m265 rfl dX9_tide_35 (q := 38) rfl ?_
        refine v_getN h (k := 1) (v := .ref (b_ad w 2)) cls3 hs.2.1.1.1 hs.2.1.1.2 (Nat.le_of_ble_eq_true rfl) m60 rfl dX9_tide_38 (q := 41) rfl ?_
        refine v_iload_n h (i := 1) dX9_tide_41 (q := 42) rfl rfl 2 rfl ?_
        refine v_iload_n h (i := 2) dX9_tide_42 (q := 43) rfl rfl 3 rfl ?_
        refine v_iast h (k := k) hs.2.1.2.1.1 hs.2.1.2.1.2 (vp_in_nI hk4 (by decide)) (nI_clamp (by omega)) dX9_tide_43 (q := 44) rfl ?_
        refine v_iload_n h (i := 3) dX9_tide_44 (q := 45) rfl rfl 0 rfl ?_
        exact v_iret h dX9_tide_45 (pA_of (by unfold oTide; rw [if_pos ⟨hwp, c12⟩, cl_nI (by omega), hR.nt hk4]) (hR.up1 (K := 2 + k) (by omega) (vw_upt hk4 (by decide)) (hR.1.2.1.tide hk4 (wi_0 (n := 4) c12 rfl))))
      · refine v_if_ne h (t := 24) dX9_tide_15 (by decide) (q := 18) rfl (fun c => absurd (by decide) c) (fun _ => ?_)
        refine v_aload_n h (i := 0) dX9_tide_18 (q := 19) rfl rfl 0 rfl ?_
        refine v_iconst h (v := 1) dX9_tide_19 (q := 20) rfl (by decide) ?_
        refine v_callV h (As := [.int 1]) (rest := []) (c_ref (σ := σ) hs (e := 1) (by decide) rfl) cal_X9_refuse calV_X9_refuse m315 ⟨rfl, rfl, Nat.le_of_ble_eq_true rfl, Nat.le_of_ble_eq_true rfl⟩ rfl hs.1.1 hs.1.2 ⟨_, _, rfl⟩ rfl (Nat.le_of_ble_eq_true rfl) dX9_tide_20 (q := 23) rfl (kI ?_)
        exact v_iret h dX9_tide_23 (pA_of (by unfold oTide; rw [if_neg (fun z => by first | exact z.1.1 c1 | exact z.1.2 (ge_gt c6) | exact c12 z.2)]; rfl) (hR.err (by decide)))

set_option maxHeartbeats 4000000 in
set_option maxRecDepth 100000 in
theorem c_X9_speed {w : bw} {σ : bSt} {A : bA} {v : Int32} (hs : sOpera w) (hR : RC σ A) : MV yX9_speed cX9_speed 3 (some .int) (rmm 1 22) w [.ref (b_ad w 0), .int v] σ (pA (oSpeed v A)) := by
  refine b_met (ls := [(0, .ref (b_ad w 0)), (1, .int v)]) (by decide) (Nat.le_of_ble_eq_true rfl) rfl (fun x h => ?_)
  refine v_iload_n h (i := 1) dX9_speed_0 (q := 1) rfl rfl 1 rfl ?_
  refine v_iconst h (v := 1) dX9_speed_1 (q := 2) rfl (by decide) ?_
  refine v_bipush h (v := 9) dX9_speed_2 (q := 4) rfl (by decide) ?_
  refine v_callS h (As := [.int v, .int 1, .int 9]) (rest := []) (c_X9_within (v := v) (l := 1) (m := 9)) cal_X9_within m313 m312 ⟨rfl, rfl, Nat.le_of_ble_eq_true rfl, Nat.le_of_ble_eq_true rfl⟩ rfl rfl (Nat.le_of_ble_eq_true rfl) dX9_speed_4 (q := 7) rfl (kB (fun c4 => ?_) (fun c4 => ?_))
  · refine v_if_ne h (t := 16) dX9_speed_7 (by decide) (q := 10) rfl (fun _ => ?_) (fun c => absurd c (by decide))
    refine v_aload_n h (i := 0) dX9_speed_16 (q := 17) rfl rfl 0 rfl ?_
    refine v_get h (k := 0) (v := .ref (b_ad w 1)) cls9 hs.1.1 hs.1.2 (Nat.le_of_ble_eq_true rfl) m265 rfl dX9_speed_17 (q := 20) rfl ?_
    refine v_getN h (k := 0) (v := .int (σ 1 0)) cls3 hs.2.1.1.1 hs.2.1.1.2 (Nat.le_of_ble_eq_true rfl) m57 rfl dX9_speed_20 (q := 23) rfl ?_
    refine v_istore_n h (i := 2) (ls1 := [(2, .int (σ 1 0)), (0, .ref (b_ad w 0)), (1, .int v)]) dX9_speed_23 (q := 24) rfl rfl (Nat.le_of_ble_eq_true rfl) rfl ?_
    refine v_aload_n h (i := 0) dX9_speed_24 (q := 25) rfl rfl 1 rfl ?_
    refine v_get h (k := 0) (v := .ref (b_ad w 1)) cls9 hs.1.1 hs.1.2 (Nat.le_of_ble_eq_true rfl) m265 rfl dX9_speed_25 (q := 28) rfl ?_
    refine v_iload_n h (i := 1) dX9_speed_28 (q := 29) rfl rfl 2 rfl ?_
    refine v_putN h (k := 0) cls3 hs.2.1.1.1 hs.2.1.1.2 (Nat.le_of_ble_eq_true rfl) rfl m57 rfl ⟨rfl, rfl⟩ dX9_speed_29 (q := 32) rfl ?_
    refine v_iload_n h (i := 2) dX9_speed_32 (q := 33) rfl rfl 0 rfl ?_
    exact v_iret h dX9_speed_33 (pA_of (by unfold oSpeed; rw [if_pos (show wj v 1 9 from c4), ← hR.vwE]; rfl) (hR.up1 (K := 1) (by omega) (vw_upv (by decide)) (hR.1.2.1.speed (wi_1 (n := 9) c4 rfl))))
  · refine v_if_ne h (t := 16) dX9_speed_7 (by decide) (q := 10) rfl (fun c => absurd (by decide) c) (fun _ => ?_)
    refine v_aload_n h (i := 0) dX9_speed_10 (q := 11) rfl rfl 0 rfl ?_
    refine v_iconst h (v := 1) dX9_speed_11 (q := 12) rfl (by decide) ?_
    refine v_callV h (As := [.int 1]) (rest := []) (c_ref (σ := σ) hs (e := 1) (by decide) rfl) cal_X9_refuse calV_X9_refuse m315 ⟨rfl, rfl, Nat.le_of_ble_eq_true rfl, Nat.le_of_ble_eq_true rfl⟩ rfl hs.1.1 hs.1.2 ⟨_, _, rfl⟩ rfl (Nat.le_of_ble_eq_true rfl) dX9_speed_12 (q := 15) rfl (kI ?_)
    exact v_iret h dX9_speed_15 (pA_of (by unfold oSpeed; rw [if_neg (fun z => by first | exact c4 z)]; rfl) (hR.err (by decide)))

set_option maxHeartbeats 4000000 in
set_option maxRecDepth 100000 in
theorem c_X9_boat {w : bw} {σ : bSt} {A : bA} {km cell : Int32} (hs : sOpera w) (hR : RC σ A) : MV yX9_boat cX9_boat 3 (some .int) (rmm 2 42) w [.ref (b_ad w 0), .int km, .int cell] σ (pA (oBoat km cell A)) := by
  refine b_met (ls := [(0, .ref (b_ad w 0)), (1, .int km), (2, .int cell)]) (by decide) (Nat.le_of_ble_eq_true rfl) rfl (fun x h => ?_)
  refine v_iload_n h (i := 1) dX9_boat_0 (q := 1) rfl rfl 1 rfl ?_
  refine v_callS h (As := [.int km]) (rest := []) (c_X9_isKindAndNumber (v := km)) cal_X9_isKindAndNumber m329 m328 ⟨rfl, rfl, Nat.le_of_ble_eq_true rfl, Nat.le_of_ble_eq_true rfl⟩ rfl rfl (Nat.le_of_ble_eq_true rfl) dX9_boat_1 (q := 4) rfl (kB (fun c1 => ?_) (fun c1 => ?_))
  · refine v_if_eq h (t := 14) dX9_boat_4 (by decide) (q := 7) rfl (fun c => absurd c (by decide)) (fun _ => ?_)
    refine v_iload_n h (i := 2) dX9_boat_7 (q := 8) rfl rfl 2 rfl ?_
    refine v_callS h (As := [.int cell]) (rest := []) (c_X9_isCell (v := cell)) cal_X9_isCell m332 m331 ⟨rfl, rfl, Nat.le_of_ble_eq_true rfl, Nat.le_of_ble_eq_true rfl⟩ rfl rfl (Nat.le_of_ble_eq_true rfl) dX9_boat_8 (q := 11) rfl (kB (fun c8 => ?_) (fun c8 => ?_))
    · refine v_if_ne h (t := 20) dX9_boat_11 (by decide) (q := 14) rfl (fun _ => ?_) (fun c => absurd c (by decide))
      refine v_aload_n h (i := 0) dX9_boat_20 (q := 21) rfl rfl 0 rfl ?_
      refine v_get h (k := 1) (v := .ref (b_ad w 10)) cls9 hs.1.1 hs.1.2 (Nat.le_of_ble_eq_true rfl) m266 rfl dX9_boat_21 (q := 24) rfl ?_
      refine v_getN h (k := 3) (v := .ref (b_ad w 11)) cls6 hs.2.2.1.1.1 hs.2.2.1.1.2 (Nat.le_of_ble_eq_true rfl) m120 rfl dX9_boat_24 (q := 27) rfl ?_
      refine v_getN h (k := 0) (v := .int (σ 11 0)) cls0 hs.2.2.1.2.1.1.1 hs.2.2.1.2.1.1.2 (Nat.le_of_ble_eq_true rfl) m88 rfl dX9_boat_27 (q := 30) rfl ?_
      rw [show (σ 11 0 : Int32) = nI (afN A.1.1) from hR.af.1]
      refine v_bipush h (v := 9) dX9_boat_30 (q := 32) rfl (by decide) ?_
      refine v_icmp_lt h (t := 41) dX9_boat_32 (by decide) (q := 35) rfl (fun c32 => ?_) (fun c32 => ?_)
      · have hb9 : afN A.1.1 < 9 := nlt9 hR.af.2 c32
        have hI0 := hR.1.2.1
        have h1 := hR.up1 (k := afN A.1.1) (j := 12) (K := 12 + 4 * afN A.1.1) (by omega) (vw_upb (f := 0) (by decide) hb9 (by decide)) (hI0.kind (b := afN A.1.1) (km_k c1).1)
        have h2 := h1.up1 (k := afN A.1.1) (j := 13) (K := 13 + 4 * afN A.1.1) (by omega) (vw_upb (f := 1) (by decide) hb9 (by decide)) (h1.1.2.1.numb (b := afN A.1.1) (km_k c1).2)
        have h3 := h2.up1 (k := afN A.1.1) (j := 14) (K := 14 + 4 * afN A.1.1) (by omega) (vw_upb (f := 2) (by decide) hb9 (by decide)) (h2.1.2.1.cellB (b := afN A.1.1) (cell_w c8))
        have h4 := h3.up1 (k := afN A.1.1) (v := 0) (j := 15) (K := 15 + 4 * afN A.1.1) (by omega) (vw_upb (f := 3) (by decide) hb9 (by decide)) (h3.1.2.1.part (b := afN A.1.1) hb9)
        have h5 := h4.up1 (k := 0) (j := 11) (K := 7) (by omega) (vw_upa (by decide)) (h4.1.2.1.n7 ⟨afN A.1.1 + 1, by omega, rfl⟩)
        refine v_aload_n h (i := 0) dX9_boat_41 (q := 42) rfl rfl 0 rfl ?_
        refine v_get h (k := 1) (v := .ref (b_ad w 10)) cls9 hs.1.1 hs.1.2 (Nat.le_of_ble_eq_true rfl) m266 rfl dX9_boat_42 (q := 45) rfl ?_
        refine v_getN h (k := 3) (v := .ref (b_ad w 11)) cls6 hs.2.2.1.1.1 hs.2.2.1.1.2 (Nat.le_of_ble_eq_true rfl) m120 rfl dX9_boat_45 (q := 48) rfl ?_
        refine v_iload_n h (i := 1) dX9_boat_48 (q := 49) rfl rfl 1 rfl ?_
        refine v_iload_n h (i := 2) dX9_boat_49 (q := 50) rfl rfl 2 rfl ?_
        refine v_callV h (As := [.int km, .int cell]) (rest := []) (c_X0_launch (me := 11) (σ := σ) (b := afN A.1.1) (km := km) (c := cell) hs.2.2.1.2.1 hR.af.1 hb9) cal_X0_launch calV_X0_launch m334 ⟨rfl, rfl, Nat.le_of_ble_eq_true rfl, Nat.le_of_ble_eq_true rfl⟩ rfl hs.2.2.1.2.1.1.1 hs.2.2.1.2.1.1.2 ⟨_, _, rfl⟩ rfl (Nat.le_of_ble_eq_true rfl) dX9_boat_50 (q := 53) rfl (kI ?_)
        exact v_iret h dX9_boat_53 (pA_of (by unfold oBoat; rw [if_pos ⟨c1, c8⟩, if_pos hb9]; rfl) h5)
      · refine v_aload_n h (i := 0) dX9_boat_35 (q := 36) rfl rfl 0 rfl ?_
        refine v_iconst h (v := 4) dX9_boat_36 (q := 37) rfl (by decide) ?_
        refine v_callV h (As := [.int 4]) (rest := []) (c_ref (σ := σ) hs (e := 4) (by decide) rfl) cal_X9_refuse calV_X9_refuse m315 ⟨rfl, rfl, Nat.le_of_ble_eq_true rfl, Nat.le_of_ble_eq_true rfl⟩ rfl hs.1.1 hs.1.2 ⟨_, _, rfl⟩ rfl (Nat.le_of_ble_eq_true rfl) dX9_boat_37 (q := 40) rfl (kI ?_)
        exact v_iret h dX9_boat_40 (pA_of (by unfold oBoat; rw [if_pos ⟨c1, c8⟩, if_neg (fun z => by first | exact nlt9i hR.af.2 c32 z)]; rfl) (hR.err (by decide)))
    · refine v_if_ne h (t := 20) dX9_boat_11 (by decide) (q := 14) rfl (fun c => absurd (by decide) c) (fun _ => ?_)
      refine v_aload_n h (i := 0) dX9_boat_14 (q := 15) rfl rfl 0 rfl ?_
      refine v_iconst h (v := 1) dX9_boat_15 (q := 16) rfl (by decide) ?_
      refine v_callV h (As := [.int 1]) (rest := []) (c_ref (σ := σ) hs (e := 1) (by decide) rfl) cal_X9_refuse calV_X9_refuse m315 ⟨rfl, rfl, Nat.le_of_ble_eq_true rfl, Nat.le_of_ble_eq_true rfl⟩ rfl hs.1.1 hs.1.2 ⟨_, _, rfl⟩ rfl (Nat.le_of_ble_eq_true rfl) dX9_boat_16 (q := 19) rfl (kI ?_)
      exact v_iret h dX9_boat_19 (pA_of (by unfold oBoat; rw [if_neg (fun z => by first | exact c1 z.1 | exact c8 z.2)]; rfl) (hR.err (by decide)))
  · refine v_if_eq h (t := 14) dX9_boat_4 (by decide) (q := 7) rfl (fun _ => ?_) (fun c => absurd (by decide) c)
    refine v_aload_n h (i := 0) dX9_boat_14 (q := 15) rfl rfl 0 rfl ?_
    refine v_iconst h (v := 1) dX9_boat_15 (q := 16) rfl (by decide) ?_
    refine v_callV h (As := [.int 1]) (rest := []) (c_ref (σ := σ) hs (e := 1) (by decide) rfl) cal_X9_refuse calV_X9_refuse m315 ⟨rfl, rfl, Nat.le_of_ble_eq_true rfl, Nat.le_of_ble_eq_true rfl⟩ rfl hs.1.1 hs.1.2 ⟨_, _, rfl⟩ rfl (Nat.le_of_ble_eq_true rfl) dX9_boat_16 (q := 19) rfl (kI ?_)
    exact v_iret h dX9_boat_19 (pA_of (by unfold oBoat; rw [if_neg (fun z => by first | exact c1 z.1 | exact c8 z.2)]; rfl) (hR.err (by decide)))

set_option maxHeartbeats 4000000 in
set_option maxRecDepth 100000 in
theorem c_X9_ofBoat {w : bw} {σ : bSt} {A : bA} {b what : Int32} (hs : sOpera w) (hR : RC σ A) : MV yX9_ofBoat cX9_ofBoat 4 (some .int) (rmm 2 43) w [.ref (b_ad w 0), .int b, .int what] σ (pA (oOfBoat b what A)) := by
  refine b_met (ls := [(0, .ref (b_ad w 0)), (1, .int b), (2, .int what)]) (by decide) (Nat.le_of_ble_eq_true rfl) rfl (fun x h => ?_)
  refine v_aload_n h (i := 0) dX9_ofBoat_0 (q := 1) rfl rfl 0 rfl ?_
  refine v_get h (k := 1) (v := .ref (b_ad w 10)) cls9 hs.1.1 hs.1.2 (Nat.le_of_ble_eq_true rfl) m266 rfl dX9_ofBoat_1 (q := 4) rfl ?_
  refine v_getN h (k := 3) (v := .ref (b_ad w 11)) cls6 hs.2.2.1.1.1 hs.2.2.1.1.2 (Nat.le_of_ble_eq_true rfl) m120 rfl dX9_ofBoat_4 (q := 7) rfl ?_
  refine v_astore_n h (i := 3) (ls1 := [(3, .ref (b_ad w 11)), (0, .ref (b_ad w 0)), (1, .int b), (2, .int what)]) dX9_ofBoat_7 (q := 8) rfl rfl (Nat.le_of_ble_eq_true rfl) rfl ?_
  refine v_aload_n h (i := 3) dX9_ofBoat_8 (q := 9) rfl rfl 0 rfl ?_
  refine v_iload_n h (i := 1) dX9_ofBoat_9 (q := 10) rfl rfl 2 rfl ?_
  refine v_callV h (As := [.int b]) (rest := []) (c_X0_hold (me := 11) (σ := σ) (b := b) hs.2.2.1.2.1) cal_X0_hold calV_X0_hold m342 ⟨rfl, rfl, Nat.le_of_ble_eq_true rfl, Nat.le_of_ble_eq_true rfl⟩ rfl hs.2.2.1.2.1.1.1 hs.2.2.1.2.1.1.2 ⟨_, _, rfl⟩ rfl (Nat.le_of_ble_eq_true rfl) dX9_ofBoat_10 (q := 13) rfl (kB (fun c10 => ?_) (fun c10 => ?_))
  · refine v_if_eq h (t := 25) dX9_ofBoat_13 (by decide) (q := 16) rfl (fun c => absurd c (by decide)) (fun _ => ?_)
    refine v_iload_n h (i := 2) dX9_ofBoat_16 (q := 17) rfl rfl 3 rfl ?_
    refine v_iconst h (v := 0) dX9_ofBoat_17 (q := 18) rfl (by decide) ?_
    refine v_iconst h (v := 4) dX9_ofBoat_18 (q := 19) rfl (by decide) ?_
    refine v_callS h (As := [.int what, .int 0, .int 4]) (rest := []) (c_X9_within (v := what) (l := 0) (m := 4)) cal_X9_within m313 m312 ⟨rfl, rfl, Nat.le_of_ble_eq_true rfl, Nat.le_of_ble_eq_true rfl⟩ rfl rfl (Nat.le_of_ble_eq_true rfl) dX9_ofBoat_19 (q := 22) rfl (kB (fun c19 => ?_) (fun c19 => ?_))
    · refine v_if_ne h (t := 31) dX9_ofBoat_22 (by decide) (q := 25) rfl (fun _ => ?_) (fun c => absurd c (by decide))
      obtain ⟨n, hn, rfl⟩ := inN_nI ((hold_iff hR).mp c10)
      have hb9 : n < 9 := by have := hR.af.2; omega
      refine v_iload_n h (i := 2) dX9_ofBoat_31 (q := 32) rfl rfl 3 rfl ?_
      by_cases e32_0 : what = (0 : Int32)
      · refine v_tableIn h (off := 32) (t := 64) dX9_ofBoat_32 (by rw [e32_0]; decide) (by rw [e32_0]; decide) (by rw [e32_0]; rfl) (by decide) ?_
        refine v_aload_n h (i := 3) dX9_ofBoat_64 (q := 65) rfl rfl 0 rfl ?_
        refine v_getN h (k := 1) (v := .ref (b_ad w 12)) cls0 hs.2.2.1.2.1.1.1 hs.2.2.1.2.1.1.2 (Nat.le_of_ble_eq_true rfl) m91 rfl dX9_ofBoat_65 (q := 68) rfl ?_
        refine v_iload_n h (i := 1) dX9_ofBoat_68 (q := 69) rfl rfl 2 rfl ?_
        refine v_iald h (k := n) hs.2.2.1.2.1.2.1.1 hs.2.2.1.2.1.2.1.2 (vp_in_nI hb9 (by decide)) (nI_clamp (by omega)) dX9_ofBoat_69 (q := 70) rfl ?_
        exact v_iret h dX9_ofBoat_70 (pA_of (by unfold oOfBoat; rw [if_pos ⟨(hold_iff hR).mp c10, c19⟩, if_neg (by rw [e32_0]; decide), e32_0, cl_nI (by omega), hR.nb (f := 0) hb9 (by decide)]; rfl) hR)
      by_cases e32_1 : what = (1 : Int32)
      · refine v_tableIn h (off := 39) (t := 71) dX9_ofBoat_32 (by rw [e32_1]; decide) (by rw [e32_1]; decide) (by rw [e32_1]; rfl) (by decide) ?_
        refine v_aload_n h (i := 3) dX9_ofBoat_71 (q := 72) rfl rfl 0 rfl ?_
        refine v_getN h (k := 2) (v := .ref (b_ad w 13)) cls0 hs.2.2.1.2.1.1.1 hs.2.2.1.2.1.1.2 (Nat.le_of_ble_eq_true rfl) m93 rfl dX9_ofBoat_72 (q := 75) rfl ?_
        refine v_iload_n h (i := 1) dX9_ofBoat_75 (q := 76) rfl rfl 2 rfl ?_
        refine v_iald h (k := n) hs.2.2.1.2.1.2.2.1.1 hs.2.2.1.2.1.2.2.1.2 (vp_in_nI hb9 (by decide)) (nI_clamp (by omega)) dX9_ofBoat_76 (q := 77) rfl ?_
        exact v_iret h dX9_ofBoat_77 (pA_of (by unfold oOfBoat; rw [if_pos ⟨(hold_iff hR).mp c10, c19⟩, if_neg (by rw [e32_1]; decide), e32_1, cl_nI (by omega), hR.nb (f := 1) hb9 (by decide)]; rfl) hR)
      by_cases e32_2 : what = (2 : Int32)
      · refine v_tableIn h (off := 46) (t := 78) dX9_ofBoat_32 (by rw [e32_2]; decide) (by rw [e32_2]; decide) (by rw [e32_2]; rfl) (by decide) ?_
        refine v_aload_n h (i := 3) dX9_ofBoat_78 (q := 79) rfl rfl 0 rfl ?_
        refine v_getN h (k := 3) (v := .ref (b_ad w 14)) cls0 hs.2.2.1.2.1.1.1 hs.2.2.1.2.1.1.2 (Nat.le_of_ble_eq_true rfl) m96 rfl dX9_ofBoat_79 (q := 82) rfl ?_
        refine v_iload_n h (i := 1) dX9_ofBoat_82 (q := 83) rfl rfl 2 rfl ?_
        refine v_iald h (k := n) hs.2.2.1.2.1.2.2.2.1.1 hs.2.2.1.2.1.2.2.2.1.2 (vp_in_nI hb9 (by decide)) (nI_clamp (by omega)) dX9_ofBoat_83 (q := 84) rfl ?_
        exact v_iret h dX9_ofBoat_84 (pA_of (by unfold oOfBoat; rw [if_pos ⟨(hold_iff hR).mp c10, c19⟩, if_neg (by rw [e32_2]; decide), e32_2, cl_nI (by omega), hR.nb (f := 2) hb9 (by decide)]; rfl) hR)
      by_cases e32_3 : what = (3 : Int32)
      · refine v_tableIn h (off := 53) (t := 85) dX9_ofBoat_32 (by rw [e32_3]; decide) (by rw [e32_3]; decide) (by rw [e32_3]; rfl) (by decide) ?_
        refine v_aload_n h (i := 3) dX9_ofBoat_85 (q := 86) rfl rfl 0 rfl ?_
        refine v_getN h (k := 4) (v := .ref (b_ad w 15)) cls0 hs.2.2.1.2.1.1.1 hs.2.2.1.2.1.1.2 (Nat.le_of_ble_eq_true rfl) m99 rfl dX9_ofBoat_86 (q := 89) rfl ?_
        refine v_iload_n h (i := 1) dX9_ofBoat_89 (q := 90) rfl rfl 2 rfl ?_
        refine v_iald h (k := n) hs.2.2.1.2.1.2.2.2.2.1 hs.2.2.1.2.1.2.2.2.2.2 (vp_in_nI hb9 (by decide)) (nI_clamp (by omega)) dX9_ofBoat_90 (q := 91) rfl ?_
        exact v_iret h dX9_ofBoat_91 (pA_of (by unfold oOfBoat; rw [if_pos ⟨(hold_iff hR).mp c10, c19⟩, if_neg (by rw [e32_3]; decide), e32_3, cl_nI (by omega), hR.nb (f := 3) hb9 (by decide)]; rfl) hR)
      have e32_0i := sw_ne e32_0 (z := 0) (by decide)
      have e32_1i := sw_ne e32_1 (z := 1) (by decide)
      have e32_2i := sw_ne e32_2 (z := 2) (by decide)
      have e32_3i := sw_ne e32_3 (z := 3) (by decide)
      refine v_tableOut h (t := 92) dX9_ofBoat_32 (by omega) (by decide) ?_
      refine v_aload_n h (i := 3) dX9_ofBoat_92 (q := 93) rfl rfl 0 rfl ?_
      refine v_iload_n h (i := 1) dX9_ofBoat_93 (q := 94) rfl rfl 2 rfl ?_
      refine v_aload_n h (i := 0) dX9_ofBoat_94 (q := 95) rfl rfl 1 rfl ?_
      refine v_get h (k := 1) (v := .ref (b_ad w 10)) cls9 hs.1.1 hs.1.2 (Nat.le_of_ble_eq_true rfl) m266 rfl dX9_ofBoat_95 (q := 98) rfl ?_
      refine v_callV h (As := []) (rest := [.int (nI n), .ref (b_ad w 11)]) (c_X6_pieceBeat (me := 10) (σ := σ) hs.2.2.1 ) cal_X6_pieceBeat calV_X6_pieceBeat m346 ⟨rfl, rfl, Nat.le_of_ble_eq_true rfl, Nat.le_of_ble_eq_true rfl⟩ rfl hs.2.2.1.1.1 hs.2.2.1.1.2 ⟨_, _, rfl⟩ rfl (Nat.le_of_ble_eq_true rfl) dX9_ofBoat_98 (q := 101) rfl (kI ?_)
      refine v_callV h (As := [.int (nI n), .int (σ 10 0 &&& 31)]) (rest := []) (c_X0_sings (me := 11) (σ := σ) (b := nI n) (t := σ 10 0 &&& 31) hs.2.2.1.2.1) cal_X0_sings calV_X0_sings m350 ⟨rfl, rfl, Nat.le_of_ble_eq_true rfl, Nat.le_of_ble_eq_true rfl⟩ rfl hs.2.2.1.2.1.1.1 hs.2.2.1.2.1.1.2 ⟨_, _, rfl⟩ rfl (Nat.le_of_ble_eq_true rfl) dX9_ofBoat_101 (q := 104) rfl (kB (fun c101 => ?_) (fun c101 => ?_))
      · refine v_if_eq h (t := 111) dX9_ofBoat_104 (by decide) (q := 107) rfl (fun c => absurd c (by decide)) (fun _ => ?_)
        refine v_iconst h (v := 1) dX9_ofBoat_107 (q := 108) rfl (by decide) ?_
        refine v_goto h (t := 112) dX9_ofBoat_108 (by decide) ?_
        exact v_iret h dX9_ofBoat_112 (pA_of (by unfold oOfBoat; rw [if_pos ⟨(hold_iff hR).mp c10, c19⟩, if_pos (wh_4 c19 e32_0 e32_1 e32_2 e32_3), cl_nI (by omega), if_pos ((sg_hold2 hR hb9).mp c101.2)]) hR)
      · refine v_if_eq h (t := 111) dX9_ofBoat_104 (by decide) (q := 107) rfl (fun _ => ?_) (fun c => absurd (by decide) c)
        refine v_iconst h (v := 0) dX9_ofBoat_111 (q := 112) rfl (by decide) ?_
        exact v_iret h dX9_ofBoat_112 (pA_of (by unfold oOfBoat; rw [if_pos ⟨(hold_iff hR).mp c10, c19⟩, if_pos (wh_4 c19 e32_0 e32_1 e32_2 e32_3), cl_nI (by omega), if_neg (fun z => c101 ⟨c10, (sg_hold2 hR hb9).mpr z⟩)]) hR)
    · refine v_if_ne h (t := 31) dX9_ofBoat_22 (by decide) (q := 25) rfl (fun c => absurd (by decide) c) (fun _ => ?_)
      refine v_aload_n h (i := 0) dX9_ofBoat_25 (q := 26) rfl rfl 1 rfl ?_
      refine v_iconst h (v := 1) dX9_ofBoat_26 (q := 27) rfl (by decide) ?_
      refine v_callV h (As := [.int 1]) (rest := []) (c_ref (σ := σ) hs (e := 1) (by decide) rfl) cal_X9_refuse calV_X9_refuse m315 ⟨rfl, rfl, Nat.le_of_ble_eq_true rfl, Nat.le_of_ble_eq_true rfl⟩ rfl hs.1.1 hs.1.2 ⟨_, _, rfl⟩ rfl (Nat.le_of_ble_eq_true rfl) dX9_ofBoat_27 (q := 30) rfl (kI ?_)
      exact v_iret h dX9_ofBoat_30 (pA_of (by unfold oOfBoat; rw [if_neg (fun z => by first | exact c10 ((hold_iff hR).mpr z.1) | exact c19 z.2)]; rfl) (hR.err (by decide)))
  · refine v_if_eq h (t := 25) dX9_ofBoat_13 (by decide) (q := 16) rfl (fun _ => ?_) (fun c => absurd (by decide) c)
    refine v_aload_n h (i := 0) dX9_ofBoat_25 (q := 26) rfl rfl 1 rfl ?_
    refine v_iconst h (v := 1) dX9_ofBoat_26 (q := 27) rfl (by decide) ?_
    refine v_callV h (As := [.int 1]) (rest := []) (c_ref (σ := σ) hs (e := 1) (by decide) rfl) cal_X9_refuse calV_X9_refuse m315 ⟨rfl, rfl, Nat.le_of_ble_eq_true rfl, Nat.le_of_ble_eq_true rfl⟩ rfl hs.1.1 hs.1.2 ⟨_, _, rfl⟩ rfl (Nat.le_of_ble_eq_true rfl) dX9_ofBoat_27 (q := 30) rfl (kI ?_)
    exact v_iret h dX9_ofBoat_30 (pA_of (by unfold oOfBoat; rw [if_neg (fun z => by first | exact c10 ((hold_iff hR).mpr z.1) | exact c19 z.2)]; rfl) (hR.err (by decide)))

set_option maxHeartbeats 4000000 in
set_option maxRecDepth 100000 in
theorem c_X9_change {w : bw} {σ : bSt} {A : bA} {b what v : Int32} (hs : sOpera w) (hR : RC σ A) : MV yX9_change cX9_change 6 (some .int) (rmm 2 42) w [.ref (b_ad w 0), .int b, .int what, .int v] σ (pA (oChange b what v A)) := by
  refine b_met (ls := [(0, .ref (b_ad w 0)), (1, .int b), (2, .int what), (3, .int v)]) (by decide) (Nat.le_of_ble_eq_true rfl) rfl (fun x h => ?_)
  refine v_aload_n h (i := 0) dX9_change_0 (q := 1) rfl rfl 0 rfl ?_
  refine v_get h (k := 1) (v := .ref (b_ad w 10)) cls9 hs.1.1 hs.1.2 (Nat.le_of_ble_eq_true rfl) m266 rfl dX9_change_1 (q := 4) rfl ?_
  refine v_getN h (k := 3) (v := .ref (b_ad w 11)) cls6 hs.2.2.1.1.1 hs.2.2.1.1.2 (Nat.le_of_ble_eq_true rfl) m120 rfl dX9_change_4 (q := 7) rfl ?_
  refine v_astore h (i := 4) (ls1 := [(4, .ref (b_ad w 11)), (0, .ref (b_ad w 0)), (1, .int b), (2, .int what), (3, .int v)]) dX9_change_7 (q := 9) rfl (Nat.le_of_ble_eq_true rfl) rfl ?_
  refine v_aload h (i := 4) dX9_change_9 (q := 11) rfl 0 rfl ?_
  refine v_iload_n h (i := 1) dX9_change_11 (q := 12) rfl rfl 2 rfl ?_
  refine v_callV h (As := [.int b]) (rest := []) (c_X0_hold (me := 11) (σ := σ) (b := b) hs.2.2.1.2.1) cal_X0_hold calV_X0_hold m342 ⟨rfl, rfl, Nat.le_of_ble_eq_true rfl, Nat.le_of_ble_eq_true rfl⟩ rfl hs.2.2.1.2.1.1.1 hs.2.2.1.2.1.1.2 ⟨_, _, rfl⟩ rfl (Nat.le_of_ble_eq_true rfl) dX9_change_12 (q := 15) rfl (kB (fun c12 => ?_) (fun c12 => ?_))
  · refine v_if_ne h (t := 24) dX9_change_15 (by decide) (q := 18) rfl (fun _ => ?_) (fun c => absurd c (by decide))
    obtain ⟨n, hn, rfl⟩ := inN_nI ((hold_iff hR).mp c12)
    have hb9 : n < 9 := by have := hR.af.2; omega
    refine v_iload_n h (i := 2) dX9_change_24 (q := 25) rfl rfl 3 rfl ?_
    refine v_iconst h (v := 2) dX9_change_25 (q := 26) rfl (by decide) ?_
    refine v_icmp_ne h (t := 56) dX9_change_26 (by decide) (q := 29) rfl (fun c26 => ?_) (fun c26 => ?_)
    · refine v_iload_n h (i := 2) dX9_change_56 (q := 57) rfl rfl 3 rfl ?_
      refine v_iconst h (v := 3) dX9_change_57 (q := 58) rfl (by decide) ?_
      refine v_icmp_ne h (t := 81) dX9_change_58 (by decide) (q := 61) rfl (fun c58 => ?_) (fun c58 => ?_)
      · refine v_aload_n h (i := 0) dX9_change_81 (q := 82) rfl rfl 1 rfl ?_
        refine v_iconst h (v := 1) dX9_change_82 (q := 83) rfl (by decide) ?_
        refine v_callV h (As := [.int 1]) (rest := []) (c_ref (σ := σ) hs (e := 1) (by decide) rfl) cal_X9_refuse calV_X9_refuse m315 ⟨rfl, rfl, Nat.le_of_ble_eq_true rfl, Nat.le_of_ble_eq_true rfl⟩ rfl hs.1.1 hs.1.2 ⟨_, _, rfl⟩ rfl (Nat.le_of_ble_eq_true rfl) dX9_change_83 (q := 86) rfl (kI ?_)
        exact v_iret h dX9_change_86 (pA_of (by unfold oChange; rw [if_neg (fun z => by first | exact z.2.elim (fun q => c26 q.1) c58 | exact z.2.elim (fun q => c30 q.2) c58_1)]; rfl) (hR.err (by decide)))
      · refine v_aload h (i := 4) dX9_change_61 (q := 63) rfl 0 rfl ?_
        refine v_getN h (k := 4) (v := .ref (b_ad w 15)) cls0 hs.2.2.1.2.1.1.1 hs.2.2.1.2.1.1.2 (Nat.le_of_ble_eq_true rfl) m99 rfl dX9_change_63 (q := 66) rfl ?_
        refine v_iload_n h (i := 1) dX9_change_66 (q := 67) rfl rfl 2 rfl ?_
        refine v_iald h (k := n) hs.2.2.1.2.1.2.2.2.2.1 hs.2.2.1.2.1.2.2.2.2.2 (vp_in_nI hb9 (by decide)) (nI_clamp (by omega)) dX9_change_67 (q := 68) rfl ?_
        refine v_istore h (i := 5) (ls1 := [(5, .int (σ 15 n)), (4, .ref (b_ad w 11)), (0, .ref (b_ad w 0)), (1, .int (nI n)), (2, .int what), (3, .int v)]) dX9_change_68 (q := 70) rfl (Nat.le_of_ble_eq_true rfl) rfl ?_
        refine v_aload h (i := 4) dX9_change_70 (q := 72) rfl 1 rfl ?_
        refine v_getN h (k := 4) (v := .ref (b_ad w 15)) cls0 hs.2.2.1.2.1.1.1 hs.2.2.1.2.1.1.2 (Nat.le_of_ble_eq_true rfl) m99 rfl dX9_change_72 (q := 75) rfl ?_
        refine v_iload_n h (i := 1) dX9_change_75 (q := 76) rfl rfl 3 rfl ?_
        refine v_iload_n h (i := 3) dX9_change_76 (q := 77) rfl rfl 5 rfl ?_
        refine v_iast h (k := n) hs.2.2.1.2.1.2.2.2.2.1 hs.2.2.1.2.1.2.2.2.2.2 (vp_in_nI hb9 (by decide)) (nI_clamp (by omega)) dX9_change_77 (q := 78) rfl ?_
        refine v_iload h (i := 5) dX9_change_78 (q := 80) rfl 0 rfl ?_
        exact v_iret h dX9_change_80 (pA_of (by unfold oChange; rw [if_pos ⟨(hold_iff hR).mp c12, Or.inr (by assumption)⟩, (show what = 3 by assumption), cl_nI (by omega), hR.nb (f := 3) hb9 (by decide)]; rfl) (hR.up1 (j := 15) (K := 15 + 4 * n) (by omega) (vw_upb (f := 3) (by decide) hb9 (by decide)) (hR.1.2.1.part hb9)))
    · refine v_iload_n h (i := 3) dX9_change_29 (q := 30) rfl rfl 4 rfl ?_
      refine v_callS h (As := [.int v]) (rest := []) (c_X9_isCell (v := v)) cal_X9_isCell m332 m331 ⟨rfl, rfl, Nat.le_of_ble_eq_true rfl, Nat.le_of_ble_eq_true rfl⟩ rfl rfl (Nat.le_of_ble_eq_true rfl) dX9_change_30 (q := 33) rfl (kB (fun c30 => ?_) (fun c30 => ?_))
      · refine v_if_eq h (t := 56) dX9_change_33 (by decide) (q := 36) rfl (fun c => absurd c (by decide)) (fun _ => ?_)
        refine v_aload h (i := 4) dX9_change_36 (q := 38) rfl 0 rfl ?_
        refine v_getN h (k := 3) (v := .ref (b_ad w 14)) cls0 hs.2.2.1.2.1.1.1 hs.2.2.1.2.1.1.2 (Nat.le_of_ble_eq_true rfl) m96 rfl dX9_change_38 (q := 41) rfl ?_
        refine v_iload_n h (i := 1) dX9_change_41 (q := 42) rfl rfl 2 rfl ?_
        refine v_iald h (k := n) hs.2.2.1.2.1.2.2.2.1.1 hs.2.2.1.2.1.2.2.2.1.2 (vp_in_nI hb9 (by decide)) (nI_clamp (by omega)) dX9_change_42 (q := 43) rfl ?_
        refine v_istore h (i := 5) (ls1 := [(5, .int (σ 14 n)), (4, .ref (b_ad w 11)), (0, .ref (b_ad w 0)), (1, .int (nI n)), (2, .int what), (3, .int v)]) dX9_change_43 (q := 45) rfl (Nat.le_of_ble_eq_true rfl) rfl ?_
        refine v_aload h (i := 4) dX9_change_45 (q := 47) rfl 1 rfl ?_
        refine v_getN h (k := 3) (v := .ref (b_ad w 14)) cls0 hs.2.2.1.2.1.1.1 hs.2.2.1.2.1.1.2 (Nat.le_of_ble_eq_true rfl) m96 rfl dX9_change_47 (q := 50) rfl ?_
        refine v_iload_n h (i := 1) dX9_change_50 (q := 51) rfl rfl 3 rfl ?_
        refine v_iload_n h (i := 3) dX9_change_51 (q := 52) rfl rfl 5 rfl ?_
        refine v_iast h (k := n) hs.2.2.1.2.1.2.2.2.1.1 hs.2.2.1.2.1.2.2.2.1.2 (vp_in_nI hb9 (by decide)) (nI_clamp (by omega)) dX9_change_52 (q := 53) rfl ?_
        refine v_iload h (i := 5) dX9_change_53 (q := 55) rfl 0 rfl ?_
        exact v_iret h dX9_change_55 (pA_of (by unfold oChange; rw [if_pos ⟨(hold_iff hR).mp c12, Or.inl ⟨c26, c30⟩⟩, c26, cl_nI (by omega), hR.nb (f := 2) hb9 (by decide)]; rfl) (hR.up1 (j := 14) (K := 14 + 4 * n) (by omega) (vw_upb (f := 2) (by decide) hb9 (by decide)) (hR.1.2.1.cellB (cell_w c30))))
      · refine v_if_eq h (t := 56) dX9_change_33 (by decide) (q := 36) rfl (fun _ => ?_) (fun c => absurd (by decide) c)
        refine v_iload_n h (i := 2) dX9_change_56 (q := 57) rfl rfl 3 rfl ?_
        refine v_iconst h (v := 3) dX9_change_57 (q := 58) rfl (by decide) ?_
        refine v_icmp_ne h (t := 81) dX9_change_58 (by decide) (q := 61) rfl (fun c58_1 => ?_) (fun c58_1 => ?_)
        · refine v_aload_n h (i := 0) dX9_change_81 (q := 82) rfl rfl 1 rfl ?_
          refine v_iconst h (v := 1) dX9_change_82 (q := 83) rfl (by decide) ?_
          refine v_callV h (As := [.int 1]) (rest := []) (c_ref (σ := σ) hs (e := 1) (by decide) rfl) cal_X9_refuse calV_X9_refuse m315 ⟨rfl, rfl, Nat.le_of_ble_eq_true rfl, Nat.le_of_ble_eq_true rfl⟩ rfl hs.1.1 hs.1.2 ⟨_, _, rfl⟩ rfl (Nat.le_of_ble_eq_true rfl) dX9_change_83 (q := 86) rfl (kI ?_)
          exact v_iret h dX9_change_86 (pA_of (by unfold oChange; rw [if_neg (fun z => by first | exact z.2.elim (fun q => c26 q.1) c58 | exact z.2.elim (fun q => c30 q.2) c58_1)]; rfl) (hR.err (by decide)))
        · refine v_aload h (i := 4) dX9_change_61 (q := 63) rfl 0 rfl ?_
          refine v_getN h (k := 4) (v := .ref (b_ad w 15)) cls0 hs.2.2.1.2.1.1.1 hs.2.2.1.2.1.1.2 (Nat.le_of_ble_eq_true rfl) m99 rfl dX9_change_63 (q := 66) rfl ?_
          refine v_iload_n h (i := 1) dX9_change_66 (q := 67) rfl rfl 2 rfl ?_
          refine v_iald h (k := n) hs.2.2.1.2.1.2.2.2.2.1 hs.2.2.1.2.1.2.2.2.2.2 (vp_in_nI hb9 (by decide)) (nI_clamp (by omega)) dX9_change_67 (q := 68) rfl ?_
          refine v_istore h (i := 5) (ls1 := [(5, .int (σ 15 n)), (4, .ref (b_ad w 11)), (0, .ref (b_ad w 0)), (1, .int (nI n)), (2, .int what), (3, .int v)]) dX9_change_68 (q := 70) rfl (Nat.le_of_ble_eq_true rfl) rfl ?_
          refine v_aload h (i := 4) dX9_change_70 (q := 72) rfl 1 rfl ?_
          refine v_getN h (k := 4) (v := .ref (b_ad w 15)) cls0 hs.2.2.1.2.1.1.1 hs.2.2.1.2.1.1.2 (Nat.le_of_ble_eq_true rfl) m99 rfl dX9_change_72 (q := 75) rfl ?_
          refine v_iload_n h (i := 1) dX9_change_75 (q := 76) rfl rfl 3 rfl ?_
          refine v_iload_n h (i := 3) dX9_change_76 (q := 77) rfl rfl 5 rfl ?_
          refine v_iast h (k := n) hs.2.2.1.2.1.2.2.2.2.1 hs.2.2.1.2.1.2.2.2.2.2 (vp_in_nI hb9 (by decide)) (nI_clamp (by omega)) dX9_change_77 (q := 78) rfl ?_
          refine v_iload h (i := 5) dX9_change_78 (q := 80) rfl 0 rfl ?_
          exact v_iret h dX9_change_80 (pA_of (by unfold oChange; rw [if_pos ⟨(hold_iff hR).mp c12, Or.inr (by assumption)⟩, (show what = 3 by assumption), cl_nI (by omega), hR.nb (f := 3) hb9 (by decide)]; rfl) (hR.up1 (j := 15) (K := 15 + 4 * n) (by omega) (vw_upb (f := 3) (by decide) hb9 (by decide)) (hR.1.2.1.part hb9)))
  · refine v_if_ne h (t := 24) dX9_change_15 (by decide) (q := 18) rfl (fun c => absurd (by decide) c) (fun _ => ?_)
    refine v_aload_n h (i := 0) dX9_change_18 (q := 19) rfl rfl 1 rfl ?_
    refine v_iconst h (v := 1) dX9_change_19 (q := 20) rfl (by decide) ?_
    refine v_callV h (As := [.int 1]) (rest := []) (c_ref (σ := σ) hs (e := 1) (by decide) rfl) cal_X9_refuse calV_X9_refuse m315 ⟨rfl, rfl, Nat.le_of_ble_eq_true rfl, Nat.le_of_ble_eq_true rfl⟩ rfl hs.1.1 hs.1.2 ⟨_, _, rfl⟩ rfl (Nat.le_of_ble_eq_true rfl) dX9_change_20 (q := 23) rfl (kI ?_)
    exact v_iret h dX9_change_23 (pA_of (by unfold oChange; rw [if_neg (fun z => by first | exact c12 ((hold_iff hR).mpr z.1))]; rfl) (hR.err (by decide)))

set_option maxHeartbeats 4000000 in
set_option maxRecDepth 100000 in
theorem c_X9_become {w : bw} {σ : bSt} {A : bA} {b km : Int32} (hs : sOpera w) (hR : RC σ A) : MV yX9_become cX9_become 5 (some .int) (rmm 2 42) w [.ref (b_ad w 0), .int b, .int km] σ (pA (oBecome b km A)) := by
  refine b_met (ls := [(0, .ref (b_ad w 0)), (1, .int b), (2, .int km)]) (by decide) (Nat.le_of_ble_eq_true rfl) rfl (fun x h => ?_)
  refine v_aload_n h (i := 0) dX9_become_0 (q := 1) rfl rfl 0 rfl ?_
  refine v_get h (k := 1) (v := .ref (b_ad w 10)) cls9 hs.1.1 hs.1.2 (Nat.le_of_ble_eq_true rfl) m266 rfl dX9_become_1 (q := 4) rfl ?_
  refine v_getN h (k := 3) (v := .ref (b_ad w 11)) cls6 hs.2.2.1.1.1 hs.2.2.1.1.2 (Nat.le_of_ble_eq_true rfl) m120 rfl dX9_become_4 (q := 7) rfl ?_
  refine v_astore_n h (i := 3) (ls1 := [(3, .ref (b_ad w 11)), (0, .ref (b_ad w 0)), (1, .int b), (2, .int km)]) dX9_become_7 (q := 8) rfl rfl (Nat.le_of_ble_eq_true rfl) rfl ?_
  refine v_aload_n h (i := 3) dX9_become_8 (q := 9) rfl rfl 0 rfl ?_
  refine v_iload_n h (i := 1) dX9_become_9 (q := 10) rfl rfl 2 rfl ?_
  refine v_callV h (As := [.int b]) (rest := []) (c_X0_hold (me := 11) (σ := σ) (b := b) hs.2.2.1.2.1) cal_X0_hold calV_X0_hold m342 ⟨rfl, rfl, Nat.le_of_ble_eq_true rfl, Nat.le_of_ble_eq_true rfl⟩ rfl hs.2.2.1.2.1.1.1 hs.2.2.1.2.1.1.2 ⟨_, _, rfl⟩ rfl (Nat.le_of_ble_eq_true rfl) dX9_become_10 (q := 13) rfl (kB (fun c10 => ?_) (fun c10 => ?_))
  · refine v_if_eq h (t := 23) dX9_become_13 (by decide) (q := 16) rfl (fun c => absurd c (by decide)) (fun _ => ?_)
    refine v_iload_n h (i := 2) dX9_become_16 (q := 17) rfl rfl 3 rfl ?_
    refine v_callS h (As := [.int km]) (rest := []) (c_X9_isKindAndNumber (v := km)) cal_X9_isKindAndNumber m329 m328 ⟨rfl, rfl, Nat.le_of_ble_eq_true rfl, Nat.le_of_ble_eq_true rfl⟩ rfl rfl (Nat.le_of_ble_eq_true rfl) dX9_become_17 (q := 20) rfl (kB (fun c17 => ?_) (fun c17 => ?_))
    · refine v_if_ne h (t := 29) dX9_become_20 (by decide) (q := 23) rfl (fun _ => ?_) (fun c => absurd c (by decide))
      obtain ⟨n, hn, rfl⟩ := inN_nI ((hold_iff hR).mp c10)
      have hb9 : n < 9 := by have := hR.af.2; omega
      refine v_aload_n h (i := 3) dX9_become_29 (q := 30) rfl rfl 0 rfl ?_
      refine v_getN h (k := 1) (v := .ref (b_ad w 12)) cls0 hs.2.2.1.2.1.1.1 hs.2.2.1.2.1.1.2 (Nat.le_of_ble_eq_true rfl) m91 rfl dX9_become_30 (q := 33) rfl ?_
      refine v_iload_n h (i := 1) dX9_become_33 (q := 34) rfl rfl 2 rfl ?_
      refine v_iald h (k := n) hs.2.2.1.2.1.2.1.1 hs.2.2.1.2.1.2.1.2 (vp_in_nI hb9 (by decide)) (nI_clamp (by omega)) dX9_become_34 (q := 35) rfl ?_
      refine v_istore h (i := 4) (ls1 := [(4, .int (σ 12 n)), (3, .ref (b_ad w 11)), (0, .ref (b_ad w 0)), (1, .int (nI n)), (2, .int km)]) dX9_become_35 (q := 37) rfl (Nat.le_of_ble_eq_true rfl) rfl ?_
      refine v_aload_n h (i := 3) dX9_become_37 (q := 38) rfl rfl 1 rfl ?_
      refine v_getN h (k := 1) (v := .ref (b_ad w 12)) cls0 hs.2.2.1.2.1.1.1 hs.2.2.1.2.1.1.2 (Nat.le_of_ble_eq_true rfl) m91 rfl dX9_become_38 (q := 41) rfl ?_
      refine v_iload_n h (i := 1) dX9_become_41 (q := 42) rfl rfl 3 rfl ?_
      refine v_iload_n h (i := 2) dX9_become_42 (q := 43) rfl rfl 4 rfl ?_
      refine v_bipush h (v := 10) dX9_become_43 (q := 45) rfl (by decide) ?_
      refine v_idiv h dX9_become_45 (q := 46) rfl (by decide) ?_
      refine v_iast h (k := n) hs.2.2.1.2.1.2.1.1 hs.2.2.1.2.1.2.1.2 (vp_in_nI hb9 (by decide)) (nI_clamp (by omega)) dX9_become_46 (q := 47) rfl ?_
      refine v_aload_n h (i := 3) dX9_become_47 (q := 48) rfl rfl 1 rfl ?_
      refine v_getN h (k := 2) (v := .ref (b_ad w 13)) cls0 hs.2.2.1.2.1.1.1 hs.2.2.1.2.1.1.2 (Nat.le_of_ble_eq_true rfl) m93 rfl dX9_become_48 (q := 51) rfl ?_
      refine v_iload_n h (i := 1) dX9_become_51 (q := 52) rfl rfl 3 rfl ?_
      refine v_iload_n h (i := 2) dX9_become_52 (q := 53) rfl rfl 4 rfl ?_
      refine v_bipush h (v := 10) dX9_become_53 (q := 55) rfl (by decide) ?_
      refine v_irem h dX9_become_55 (q := 56) rfl (by decide) ?_
      refine v_iast h (k := n) hs.2.2.1.2.1.2.2.1.1 hs.2.2.1.2.1.2.2.1.2 (vp_in_nI hb9 (by decide)) (nI_clamp (by omega)) dX9_become_56 (q := 57) rfl ?_
      refine v_iload h (i := 4) dX9_become_57 (q := 59) rfl 0 rfl ?_
      exact v_iret h dX9_become_59 (pA_of (by unfold oBecome; rw [if_pos ⟨(hold_iff hR).mp c10, c17⟩, cl_nI (by omega), hR.nb (f := 0) hb9 (by decide)]; rfl) ((hR.up1 (j := 12) (K := 12 + 4 * n) (by omega) (vw_upb (f := 0) (by decide) hb9 (by decide)) (hR.1.2.1.kind (km_k c17).1)).up1 (j := 13) (K := 13 + 4 * n) (by omega) (vw_upb (f := 1) (by decide) hb9 (by decide)) ((hR.1.2.1.kind (km_k c17).1).numb (km_k c17).2)))
    · refine v_if_ne h (t := 29) dX9_become_20 (by decide) (q := 23) rfl (fun c => absurd (by decide) c) (fun _ => ?_)
      refine v_aload_n h (i := 0) dX9_become_23 (q := 24) rfl rfl 1 rfl ?_
      refine v_iconst h (v := 1) dX9_become_24 (q := 25) rfl (by decide) ?_
      refine v_callV h (As := [.int 1]) (rest := []) (c_ref (σ := σ) hs (e := 1) (by decide) rfl) cal_X9_refuse calV_X9_refuse m315 ⟨rfl, rfl, Nat.le_of_ble_eq_true rfl, Nat.le_of_ble_eq_true rfl⟩ rfl hs.1.1 hs.1.2 ⟨_, _, rfl⟩ rfl (Nat.le_of_ble_eq_true rfl) dX9_become_25 (q := 28) rfl (kI ?_)
      exact v_iret h dX9_become_28 (pA_of (by unfold oBecome; rw [if_neg (fun z => by first | exact c10 ((hold_iff hR).mpr z.1) | exact c17 z.2)]; rfl) (hR.err (by decide)))
  · refine v_if_eq h (t := 23) dX9_become_13 (by decide) (q := 16) rfl (fun _ => ?_) (fun c => absurd (by decide) c)
    refine v_aload_n h (i := 0) dX9_become_23 (q := 24) rfl rfl 1 rfl ?_
    refine v_iconst h (v := 1) dX9_become_24 (q := 25) rfl (by decide) ?_
    refine v_callV h (As := [.int 1]) (rest := []) (c_ref (σ := σ) hs (e := 1) (by decide) rfl) cal_X9_refuse calV_X9_refuse m315 ⟨rfl, rfl, Nat.le_of_ble_eq_true rfl, Nat.le_of_ble_eq_true rfl⟩ rfl hs.1.1 hs.1.2 ⟨_, _, rfl⟩ rfl (Nat.le_of_ble_eq_true rfl) dX9_become_25 (q := 28) rfl (kI ?_)
    exact v_iret h dX9_become_28 (pA_of (by unfold oBecome; rw [if_neg (fun z => by first | exact c10 ((hold_iff hR).mpr z.1) | exact c17 z.2)]; rfl) (hR.err (by decide)))

set_option maxHeartbeats 4000000 in
set_option maxRecDepth 100000 in
theorem c_X9_listener {w : bw} {σ : bSt} {A : bA} {cell : Int32} (hs : sOpera w) (hR : RC σ A) : MV yX9_listener cX9_listener 2 (some .int) (rmm 2 42) w [.ref (b_ad w 0), .int cell] σ (pA (oListener cell A)) := by
  refine b_met (ls := [(0, .ref (b_ad w 0)), (1, .int cell)]) (by decide) (Nat.le_of_ble_eq_true rfl) rfl (fun x h => ?_)
  refine v_iload_n h (i := 1) dX9_listener_0 (q := 1) rfl rfl 1 rfl ?_
  refine v_callS h (As := [.int cell]) (rest := []) (c_X9_isCell (v := cell)) cal_X9_isCell m332 m331 ⟨rfl, rfl, Nat.le_of_ble_eq_true rfl, Nat.le_of_ble_eq_true rfl⟩ rfl rfl (Nat.le_of_ble_eq_true rfl) dX9_listener_1 (q := 4) rfl (kB (fun c1 => ?_) (fun c1 => ?_))
  · refine v_if_ne h (t := 13) dX9_listener_4 (by decide) (q := 7) rfl (fun _ => ?_) (fun c => absurd c (by decide))
    refine v_aload_n h (i := 0) dX9_listener_13 (q := 14) rfl rfl 0 rfl ?_
    refine v_get h (k := 1) (v := .ref (b_ad w 10)) cls9 hs.1.1 hs.1.2 (Nat.le_of_ble_eq_true rfl) m266 rfl dX9_listener_14 (q := 17) rfl ?_
    refine v_getN h (k := 4) (v := .int (σ 10 4)) cls6 hs.2.2.1.1.1 hs.2.2.1.1.2 (Nat.le_of_ble_eq_true rfl) m122 rfl dX9_listener_17 (q := 20) rfl ?_
    rw [show (σ 10 4 : Int32) = nI (liN A.1.1) from hR.li.1]
    refine v_bipush h (v := 6) dX9_listener_20 (q := 22) rfl (by decide) ?_
    refine v_icmp_lt h (t := 31) dX9_listener_22 (by decide) (q := 25) rfl (fun c22 => ?_) (fun c22 => ?_)
    · have hl6 : liN A.1.1 < 6 := (nI_ltI (a := liN A.1.1) (b := 6) (by have := hR.li.2; omega) (by decide)).mp c22
      have hI0 := hR.1.2.1
      have h1 := hR.up1 (k := liN A.1.1) (j := 16) (K := 48 + 3 * liN A.1.1) (by omega) (vw_upl (f := 0) (by decide) hl6 (by decide)) (hI0.lcell hl6 (cell_w c1))
      have h2 := h1.up1 (k := liN A.1.1) (v := 0) (j := 17) (K := 49 + 3 * liN A.1.1) (by omega) (vw_upl (f := 1) (by decide) hl6 (by decide)) (h1.1.2.1.ltime hl6 ⟨0, by omega, rfl⟩)
      have h3 := h2.up1 (k := liN A.1.1) (v := 50) (j := 18) (K := 50 + 3 * liN A.1.1) (by omega) (vw_upl (f := 2) (by decide) hl6 (by decide)) (h2.1.2.1.lcoin hl6 ⟨50, by omega, rfl⟩)
      have h4 := h3.up1 (k := 4) (j := 10) (K := 8) (by omega) (vw_ups (f := 4) (by decide) (by decide)) (h3.1.2.1.n8 ⟨liN A.1.1 + 1, by omega, rfl⟩)
      refine v_aload_n h (i := 0) dX9_listener_31 (q := 32) rfl rfl 0 rfl ?_
      refine v_get h (k := 1) (v := .ref (b_ad w 10)) cls9 hs.1.1 hs.1.2 (Nat.le_of_ble_eq_true rfl) m266 rfl dX9_listener_32 (q := 35) rfl ?_
      refine v_iload_n h (i := 1) dX9_listener_35 (q := 36) rfl rfl 1 rfl ?_
      refine v_callV h (As := [.int cell]) (rest := []) (c_X6_seat (me := 10) (σ := σ) (l := liN A.1.1) (c := cell) hs.2.2.1 hR.li.1 hl6) cal_X6_seat calV_X6_seat m422 ⟨rfl, rfl, Nat.le_of_ble_eq_true rfl, Nat.le_of_ble_eq_true rfl⟩ rfl hs.2.2.1.1.1 hs.2.2.1.1.2 ⟨_, _, rfl⟩ rfl (Nat.le_of_ble_eq_true rfl) dX9_listener_36 (q := 39) rfl (kI ?_)
      exact v_iret h dX9_listener_39 (pA_of (by unfold oListener; rw [if_pos (show wj cell 0 63 from c1), if_pos hl6]; rfl) h4)
    · refine v_aload_n h (i := 0) dX9_listener_25 (q := 26) rfl rfl 0 rfl ?_
      refine v_iconst h (v := 4) dX9_listener_26 (q := 27) rfl (by decide) ?_
      refine v_callV h (As := [.int 4]) (rest := []) (c_ref (σ := σ) hs (e := 4) (by decide) rfl) cal_X9_refuse calV_X9_refuse m315 ⟨rfl, rfl, Nat.le_of_ble_eq_true rfl, Nat.le_of_ble_eq_true rfl⟩ rfl hs.1.1 hs.1.2 ⟨_, _, rfl⟩ rfl (Nat.le_of_ble_eq_true rfl) dX9_listener_27 (q := 30) rfl (kI ?_)
      exact v_iret h dX9_listener_30 (pA_of (by unfold oListener; rw [if_pos (show wj cell 0 63 from c1), if_neg (fun z => by first | exact c22 (nI_lt (a := liN A.1.1) (b := 6) z (by decide)))]; rfl) (hR.err (by decide)))
  · refine v_if_ne h (t := 13) dX9_listener_4 (by decide) (q := 7) rfl (fun c => absurd (by decide) c) (fun _ => ?_)
    refine v_aload_n h (i := 0) dX9_listener_7 (q := 8) rfl rfl 0 rfl ?_
    refine v_iconst h (v := 1) dX9_listener_8 (q := 9) rfl (by decide) ?_
    refine v_callV h (As := [.int 1]) (rest := []) (c_ref (σ := σ) hs (e := 1) (by decide) rfl) cal_X9_refuse calV_X9_refuse m315 ⟨rfl, rfl, Nat.le_of_ble_eq_true rfl, Nat.le_of_ble_eq_true rfl⟩ rfl hs.1.1 hs.1.2 ⟨_, _, rfl⟩ rfl (Nat.le_of_ble_eq_true rfl) dX9_listener_9 (q := 12) rfl (kI ?_)
    exact v_iret h dX9_listener_12 (pA_of (by unfold oListener; rw [if_neg (fun z => by first | exact c1 z)]; rfl) (hR.err (by decide)))

set_option maxHeartbeats 4000000 in
set_option maxRecDepth 100000 in
theorem c_X9_row {w : bw} {σ : bSt} {A : bA} {l cell : Int32} (hs : sOpera w) (hR : RC σ A) : MV yX9_row cX9_row 4 (some .int) (rmm 2 42) w [.ref (b_ad w 0), .int l, .int cell] σ (pA (oRow l cell A)) := by
  refine b_met (ls := [(0, .ref (b_ad w 0)), (1, .int l), (2, .int cell)]) (by decide) (Nat.le_of_ble_eq_true rfl) rfl (fun x h => ?_)
  refine v_aload_n h (i := 0) dX9_row_0 (q := 1) rfl rfl 0 rfl ?_
  refine v_get h (k := 1) (v := .ref (b_ad w 10)) cls9 hs.1.1 hs.1.2 (Nat.le_of_ble_eq_true rfl) m266 rfl dX9_row_1 (q := 4) rfl ?_
  refine v_iload_n h (i := 1) dX9_row_4 (q := 5) rfl rfl 1 rfl ?_
  refine v_callV h (As := [.int l]) (rest := []) (c_X6_seats (me := 10) (σ := σ) (l := l) hs.2.2.1 ) cal_X6_seats calV_X6_seats m430 ⟨rfl, rfl, Nat.le_of_ble_eq_true rfl, Nat.le_of_ble_eq_true rfl⟩ rfl hs.2.2.1.1.1 hs.2.2.1.1.2 ⟨_, _, rfl⟩ rfl (Nat.le_of_ble_eq_true rfl) dX9_row_5 (q := 8) rfl (kB (fun c5 => ?_) (fun c5 => ?_))
  · refine v_if_eq h (t := 18) dX9_row_8 (by decide) (q := 11) rfl (fun c => absurd c (by decide)) (fun _ => ?_)
    refine v_iload_n h (i := 2) dX9_row_11 (q := 12) rfl rfl 2 rfl ?_
    refine v_callS h (As := [.int cell]) (rest := []) (c_X9_isCell (v := cell)) cal_X9_isCell m332 m331 ⟨rfl, rfl, Nat.le_of_ble_eq_true rfl, Nat.le_of_ble_eq_true rfl⟩ rfl rfl (Nat.le_of_ble_eq_true rfl) dX9_row_12 (q := 15) rfl (kB (fun c12 => ?_) (fun c12 => ?_))
    · refine v_if_ne h (t := 24) dX9_row_15 (by decide) (q := 18) rfl (fun _ => ?_) (fun c => absurd c (by decide))
      obtain ⟨n, hn, rfl⟩ := inN_nI ((seat_iff hR).mp c5)
      have hl6 : n < 6 := by have := hR.li.2; omega
      refine v_aload_n h (i := 0) dX9_row_24 (q := 25) rfl rfl 0 rfl ?_
      refine v_get h (k := 1) (v := .ref (b_ad w 10)) cls9 hs.1.1 hs.1.2 (Nat.le_of_ble_eq_true rfl) m266 rfl dX9_row_25 (q := 28) rfl ?_
      refine v_getN h (k := 5) (v := .ref (b_ad w 16)) cls6 hs.2.2.1.1.1 hs.2.2.1.1.2 (Nat.le_of_ble_eq_true rfl) m124 rfl dX9_row_28 (q := 31) rfl ?_
      refine v_iload_n h (i := 1) dX9_row_31 (q := 32) rfl rfl 1 rfl ?_
      refine v_iald h (k := n) hs.2.2.1.2.2.1.1 hs.2.2.1.2.2.1.2 (vp_in_nI hl6 (by decide)) (nI_clamp (by omega)) dX9_row_32 (q := 33) rfl ?_
      refine v_istore_n h (i := 3) (ls1 := [(3, .int (σ 16 n)), (0, .ref (b_ad w 0)), (1, .int (nI n)), (2, .int cell)]) dX9_row_33 (q := 34) rfl rfl (Nat.le_of_ble_eq_true rfl) rfl ?_
      refine v_aload_n h (i := 0) dX9_row_34 (q := 35) rfl rfl 1 rfl ?_
      refine v_get h (k := 1) (v := .ref (b_ad w 10)) cls9 hs.1.1 hs.1.2 (Nat.le_of_ble_eq_true rfl) m266 rfl dX9_row_35 (q := 38) rfl ?_
      refine v_getN h (k := 5) (v := .ref (b_ad w 16)) cls6 hs.2.2.1.1.1 hs.2.2.1.1.2 (Nat.le_of_ble_eq_true rfl) m124 rfl dX9_row_38 (q := 41) rfl ?_
      refine v_iload_n h (i := 1) dX9_row_41 (q := 42) rfl rfl 2 rfl ?_
      refine v_iload_n h (i := 2) dX9_row_42 (q := 43) rfl rfl 3 rfl ?_
      refine v_iast h (k := n) hs.2.2.1.2.2.1.1 hs.2.2.1.2.2.1.2 (vp_in_nI hl6 (by decide)) (nI_clamp (by omega)) dX9_row_43 (q := 44) rfl ?_
      refine v_iload_n h (i := 3) dX9_row_44 (q := 45) rfl rfl 0 rfl ?_
      exact v_iret h dX9_row_45 (pA_of (by unfold oRow; rw [if_pos ⟨(seat_iff hR).mp c5, c12⟩, cl_nI (by omega), hR.nl (f := 0) hl6 (by decide)]) (hR.up1 (j := 16) (K := 48 + 3 * n) (by omega) (vw_upl (f := 0) (by decide) hl6 (by decide)) (hR.1.2.1.lcell hl6 (cell_w c12))))
    · refine v_if_ne h (t := 24) dX9_row_15 (by decide) (q := 18) rfl (fun c => absurd (by decide) c) (fun _ => ?_)
      refine v_aload_n h (i := 0) dX9_row_18 (q := 19) rfl rfl 0 rfl ?_
      refine v_iconst h (v := 1) dX9_row_19 (q := 20) rfl (by decide) ?_
      refine v_callV h (As := [.int 1]) (rest := []) (c_ref (σ := σ) hs (e := 1) (by decide) rfl) cal_X9_refuse calV_X9_refuse m315 ⟨rfl, rfl, Nat.le_of_ble_eq_true rfl, Nat.le_of_ble_eq_true rfl⟩ rfl hs.1.1 hs.1.2 ⟨_, _, rfl⟩ rfl (Nat.le_of_ble_eq_true rfl) dX9_row_20 (q := 23) rfl (kI ?_)
      exact v_iret h dX9_row_23 (pA_of (by unfold oRow; rw [if_neg (fun z => by first | exact c5 ((seat_iff hR).mpr z.1) | exact c12 z.2)]; rfl) (hR.err (by decide)))
  · refine v_if_eq h (t := 18) dX9_row_8 (by decide) (q := 11) rfl (fun _ => ?_) (fun c => absurd (by decide) c)
    refine v_aload_n h (i := 0) dX9_row_18 (q := 19) rfl rfl 0 rfl ?_
    refine v_iconst h (v := 1) dX9_row_19 (q := 20) rfl (by decide) ?_
    refine v_callV h (As := [.int 1]) (rest := []) (c_ref (σ := σ) hs (e := 1) (by decide) rfl) cal_X9_refuse calV_X9_refuse m315 ⟨rfl, rfl, Nat.le_of_ble_eq_true rfl, Nat.le_of_ble_eq_true rfl⟩ rfl hs.1.1 hs.1.2 ⟨_, _, rfl⟩ rfl (Nat.le_of_ble_eq_true rfl) dX9_row_20 (q := 23) rfl (kI ?_)
    exact v_iret h dX9_row_23 (pA_of (by unfold oRow; rw [if_neg (fun z => by first | exact c5 ((seat_iff hR).mpr z.1) | exact c12 z.2)]; rfl) (hR.err (by decide)))

set_option maxHeartbeats 4000000 in
set_option maxRecDepth 100000 in
theorem c_X9_ofListener {w : bw} {σ : bSt} {A : bA} {l what : Int32} (hs : sOpera w) (hR : RC σ A) : MV yX9_ofListener cX9_ofListener 3 (some .int) (rmm 6 151) w [.ref (b_ad w 0), .int l, .int what] σ (pA (oOfListener l what A)) := by
  refine b_met (ls := [(0, .ref (b_ad w 0)), (1, .int l), (2, .int what)]) (by decide) (Nat.le_of_ble_eq_true rfl) rfl (fun x h => ?_)
  refine v_aload_n h (i := 0) dX9_ofListener_0 (q := 1) rfl rfl 0 rfl ?_
  refine v_get h (k := 1) (v := .ref (b_ad w 10)) cls9 hs.1.1 hs.1.2 (Nat.le_of_ble_eq_true rfl) m266 rfl dX9_ofListener_1 (q := 4) rfl ?_
  refine v_iload_n h (i := 1) dX9_ofListener_4 (q := 5) rfl rfl 1 rfl ?_
  refine v_callV h (As := [.int l]) (rest := []) (c_X6_seats (me := 10) (σ := σ) (l := l) hs.2.2.1 ) cal_X6_seats calV_X6_seats m430 ⟨rfl, rfl, Nat.le_of_ble_eq_true rfl, Nat.le_of_ble_eq_true rfl⟩ rfl hs.2.2.1.1.1 hs.2.2.1.1.2 ⟨_, _, rfl⟩ rfl (Nat.le_of_ble_eq_true rfl) dX9_ofListener_5 (q := 8) rfl (kB (fun c5 => ?_) (fun c5 => ?_))
  · refine v_if_eq h (t := 20) dX9_ofListener_8 (by decide) (q := 11) rfl (fun c => absurd c (by decide)) (fun _ => ?_)
    refine v_iload_n h (i := 2) dX9_ofListener_11 (q := 12) rfl rfl 2 rfl ?_
    refine v_iconst h (v := 0) dX9_ofListener_12 (q := 13) rfl (by decide) ?_
    refine v_iconst h (v := 3) dX9_ofListener_13 (q := 14) rfl (by decide) ?_
    refine v_callS h (As := [.int what, .int 0, .int 3]) (rest := []) (c_X9_within (v := what) (l := 0) (m := 3)) cal_X9_within m313 m312 ⟨rfl, rfl, Nat.le_of_ble_eq_true rfl, Nat.le_of_ble_eq_true rfl⟩ rfl rfl (Nat.le_of_ble_eq_true rfl) dX9_ofListener_14 (q := 17) rfl (kB (fun c14 => ?_) (fun c14 => ?_))
    · refine v_if_ne h (t := 26) dX9_ofListener_17 (by decide) (q := 20) rfl (fun _ => ?_) (fun c => absurd c (by decide))
      obtain ⟨n, hn, rfl⟩ := inN_nI ((seat_iff hR).mp c5)
      have hl6 : n < 6 := by have := hR.li.2; omega
      refine v_aload_n h (i := 0) dX9_ofListener_26 (q := 27) rfl rfl 0 rfl ?_
      refine v_get h (k := 1) (v := .ref (b_ad w 10)) cls9 hs.1.1 hs.1.2 (Nat.le_of_ble_eq_true rfl) m266 rfl dX9_ofListener_27 (q := 30) rfl ?_
      refine v_aload_n h (i := 0) dX9_ofListener_30 (q := 31) rfl rfl 0 rfl ?_
      refine v_get h (k := 0) (v := .ref (b_ad w 1)) cls9 hs.1.1 hs.1.2 (Nat.le_of_ble_eq_true rfl) m265 rfl dX9_ofListener_31 (q := 34) rfl ?_
      refine v_iload_n h (i := 1) dX9_ofListener_34 (q := 35) rfl rfl 1 rfl ?_
      refine v_iload_n h (i := 2) dX9_ofListener_35 (q := 36) rfl rfl 2 rfl ?_
      refine v_callV h (As := [.ref (b_ad w 1), .int (nI n), .int what]) (rest := []) (c_X6_tellOf (me := 10) (L := 1) (l := n) (what := what) (σ := σ) hs.2.2.1 hs.2.1 hR.ok hR.ca hR.iv (by decide) (by rw [hR.vwE]; exact hn)) cal_X6_tellOf calV_X6_tellOf m434 ⟨rfl, rfl, Nat.le_of_ble_eq_true rfl, Nat.le_of_ble_eq_true rfl⟩ rfl hs.2.2.1.1.1 hs.2.2.1.1.2 ⟨_, _, rfl⟩ rfl (Nat.le_of_ble_eq_true rfl) dX9_ofListener_36 (q := 39) rfl (kR (fun r36 σ36 h36 => ?_))
      exact v_iret h dX9_ofListener_39 (pA_of (by unfold oOfListener; rw [if_pos ⟨(seat_iff hR).mp c5, c14⟩, cl_nI (by omega), h36.1, ← tel_eq hR hl6 c14]) (hR.scrE (fun j a b c _ => h36.2.1 j (by omega) (by omega) (by omega)) h36.2.2 (hR.ro.at (fun j a b => h36.2.1 j (by omega) (by omega) (by omega)))))
    · refine v_if_ne h (t := 26) dX9_ofListener_17 (by decide) (q := 20) rfl (fun c => absurd (by decide) c) (fun _ => ?_)
      refine v_aload_n h (i := 0) dX9_ofListener_20 (q := 21) rfl rfl 0 rfl ?_
      refine v_iconst h (v := 1) dX9_ofListener_21 (q := 22) rfl (by decide) ?_
      refine v_callV h (As := [.int 1]) (rest := []) (c_ref (σ := σ) hs (e := 1) (by decide) rfl) cal_X9_refuse calV_X9_refuse m315 ⟨rfl, rfl, Nat.le_of_ble_eq_true rfl, Nat.le_of_ble_eq_true rfl⟩ rfl hs.1.1 hs.1.2 ⟨_, _, rfl⟩ rfl (Nat.le_of_ble_eq_true rfl) dX9_ofListener_22 (q := 25) rfl (kI ?_)
      exact v_iret h dX9_ofListener_25 (pA_of (by unfold oOfListener; rw [if_neg (fun z => by first | exact c5 ((seat_iff hR).mpr z.1) | exact c14 z.2)]; rfl) (hR.err (by decide)))
  · refine v_if_eq h (t := 20) dX9_ofListener_8 (by decide) (q := 11) rfl (fun _ => ?_) (fun c => absurd (by decide) c)
    refine v_aload_n h (i := 0) dX9_ofListener_20 (q := 21) rfl rfl 0 rfl ?_
    refine v_iconst h (v := 1) dX9_ofListener_21 (q := 22) rfl (by decide) ?_
    refine v_callV h (As := [.int 1]) (rest := []) (c_ref (σ := σ) hs (e := 1) (by decide) rfl) cal_X9_refuse calV_X9_refuse m315 ⟨rfl, rfl, Nat.le_of_ble_eq_true rfl, Nat.le_of_ble_eq_true rfl⟩ rfl hs.1.1 hs.1.2 ⟨_, _, rfl⟩ rfl (Nat.le_of_ble_eq_true rfl) dX9_ofListener_22 (q := 25) rfl (kI ?_)
    exact v_iret h dX9_ofListener_25 (pA_of (by unfold oOfListener; rw [if_neg (fun z => by first | exact c5 ((seat_iff hR).mpr z.1) | exact c14 z.2)]; rfl) (hR.err (by decide)))

set_option maxHeartbeats 4000000 in
set_option maxRecDepth 100000 in
theorem c_X9_lag {w : bw} {σ : bSt} {A : bA} {b cell : Int32} (hs : sOpera w) (hR : RC σ A) : MV yX9_lag cX9_lag 5 (some .int) (rmm 4 98) w [.ref (b_ad w 0), .int b, .int cell] σ (pA (oLag b cell A)) := by
  refine b_met (ls := [(0, .ref (b_ad w 0)), (1, .int b), (2, .int cell)]) (by decide) (Nat.le_of_ble_eq_true rfl) rfl (fun x h => ?_)
  refine v_aload_n h (i := 0) dX9_lag_0 (q := 1) rfl rfl 0 rfl ?_
  refine v_get h (k := 1) (v := .ref (b_ad w 10)) cls9 hs.1.1 hs.1.2 (Nat.le_of_ble_eq_true rfl) m266 rfl dX9_lag_1 (q := 4) rfl ?_
  refine v_getN h (k := 3) (v := .ref (b_ad w 11)) cls6 hs.2.2.1.1.1 hs.2.2.1.1.2 (Nat.le_of_ble_eq_true rfl) m120 rfl dX9_lag_4 (q := 7) rfl ?_
  refine v_astore_n h (i := 3) (ls1 := [(3, .ref (b_ad w 11)), (0, .ref (b_ad w 0)), (1, .int b), (2, .int cell)]) dX9_lag_7 (q := 8) rfl rfl (Nat.le_of_ble_eq_true rfl) rfl ?_
  refine v_aload_n h (i := 3) dX9_lag_8 (q := 9) rfl rfl 0 rfl ?_
  refine v_iload_n h (i := 1) dX9_lag_9 (q := 10) rfl rfl 2 rfl ?_
  refine v_callV h (As := [.int b]) (rest := []) (c_X0_hold (me := 11) (σ := σ) (b := b) hs.2.2.1.2.1) cal_X0_hold calV_X0_hold m342 ⟨rfl, rfl, Nat.le_of_ble_eq_true rfl, Nat.le_of_ble_eq_true rfl⟩ rfl hs.2.2.1.2.1.1.1 hs.2.2.1.2.1.1.2 ⟨_, _, rfl⟩ rfl (Nat.le_of_ble_eq_true rfl) dX9_lag_10 (q := 13) rfl (kB (fun c10 => ?_) (fun c10 => ?_))
  · refine v_if_eq h (t := 23) dX9_lag_13 (by decide) (q := 16) rfl (fun c => absurd c (by decide)) (fun _ => ?_)
    refine v_iload_n h (i := 2) dX9_lag_16 (q := 17) rfl rfl 3 rfl ?_
    refine v_callS h (As := [.int cell]) (rest := []) (c_X9_isCell (v := cell)) cal_X9_isCell m332 m331 ⟨rfl, rfl, Nat.le_of_ble_eq_true rfl, Nat.le_of_ble_eq_true rfl⟩ rfl rfl (Nat.le_of_ble_eq_true rfl) dX9_lag_17 (q := 20) rfl (kB (fun c17 => ?_) (fun c17 => ?_))
    · refine v_if_ne h (t := 29) dX9_lag_20 (by decide) (q := 23) rfl (fun _ => ?_) (fun c => absurd c (by decide))
      obtain ⟨n, hn, rfl⟩ := inN_nI ((hold_iff hR).mp c10)
      have hb9 : n < 9 := by have := hR.af.2; omega
      obtain ⟨y, hy, rfl⟩ := cell_w c17
      obtain ⟨cb, hcb, ecb⟩ := hR.iv.hcl n hb9
      obtain ⟨vn, hv1, hv9, ev⟩ := hR.iv.2.1
      refine v_aload_n h (i := 3) dX9_lag_29 (q := 30) rfl rfl 0 rfl ?_
      refine v_getN h (k := 3) (v := .ref (b_ad w 14)) cls0 hs.2.2.1.2.1.1.1 hs.2.2.1.2.1.1.2 (Nat.le_of_ble_eq_true rfl) m96 rfl dX9_lag_30 (q := 33) rfl ?_
      refine v_iload_n h (i := 1) dX9_lag_33 (q := 34) rfl rfl 2 rfl ?_
      refine v_iald h (k := n) hs.2.2.1.2.1.2.2.2.1.1 hs.2.2.1.2.1.2.2.2.1.2 (vp_in_nI hb9 (by decide)) (nI_clamp (by omega)) dX9_lag_34 (q := 35) rfl ?_
      refine v_iload_n h (i := 2) dX9_lag_35 (q := 36) rfl rfl 3 rfl ?_
      refine v_callS h (As := [.int (σ 14 n), .int (nI y)]) (rest := []) (c_X9_far (a := σ 14 n) (b := nI y)) cal_X9_far m380 m379 ⟨rfl, rfl, Nat.le_of_ble_eq_true rfl, Nat.le_of_ble_eq_true rfl⟩ rfl rfl (Nat.le_of_ble_eq_true rfl) dX9_lag_36 (q := 39) rfl (kI ?_)
      rw [show (farC (σ 14 n) (nI y) : Int32) = nI (farN cb y) from (by rw [show σ 14 n = nI cb from ecb]; exact far_nI hcb hy)]
      refine v_istore h (i := 4) (ls1 := [(4, .int (nI (farN cb y))), (3, .ref (b_ad w 11)), (0, .ref (b_ad w 0)), (1, .int (nI n)), (2, .int (nI y))]) dX9_lag_39 (q := 41) rfl (Nat.le_of_ble_eq_true rfl) rfl ?_
      refine v_aload_n h (i := 0) dX9_lag_41 (q := 42) rfl rfl 2 rfl ?_
      refine v_get h (k := 0) (v := .ref (b_ad w 1)) cls9 hs.1.1 hs.1.2 (Nat.le_of_ble_eq_true rfl) m265 rfl dX9_lag_42 (q := 45) rfl ?_
      refine v_iload h (i := 4) dX9_lag_45 (q := 47) rfl 0 rfl ?_
      refine v_aload_n h (i := 0) dX9_lag_47 (q := 48) rfl rfl 2 rfl ?_
      refine v_get h (k := 0) (v := .ref (b_ad w 1)) cls9 hs.1.1 hs.1.2 (Nat.le_of_ble_eq_true rfl) m265 rfl dX9_lag_48 (q := 51) rfl ?_
      refine v_getN h (k := 0) (v := .int (σ 1 0)) cls3 hs.2.1.1.1 hs.2.1.1.2 (Nat.le_of_ble_eq_true rfl) m57 rfl dX9_lag_51 (q := 54) rfl ?_
      rw [show (σ 1 0 : Int32) = nI vn from ev]
      refine v_aload_n h (i := 0) dX9_lag_54 (q := 55) rfl rfl 2 rfl ?_
      refine v_get h (k := 1) (v := .ref (b_ad w 10)) cls9 hs.1.1 hs.1.2 (Nat.le_of_ble_eq_true rfl) m266 rfl dX9_lag_55 (q := 58) rfl ?_
      refine v_callV h (As := []) (rest := [.int (nI vn), .int (nI (farN cb y)), .ref (b_ad w 1)]) (c_X6_pieceBeat (me := 10) (σ := σ) hs.2.2.1 ) cal_X6_pieceBeat calV_X6_pieceBeat m346 ⟨rfl, rfl, Nat.le_of_ble_eq_true rfl, Nat.le_of_ble_eq_true rfl⟩ rfl hs.2.2.1.1.1 hs.2.2.1.1.2 ⟨_, _, rfl⟩ rfl (Nat.le_of_ble_eq_true rfl) dX9_lag_58 (q := 61) rfl (kI ?_)
      rw [show (σ 10 0 &&& 31 : Int32) = nI (tN (vw σ 10 1)) from hR.iv.t.1]
      refine v_callV h (As := [.int (nI (farN cb y)), .int (nI vn), .int (nI (tN (vw σ 10 1)))]) (rest := []) (c_X3_lagBy (me := 1) (vn := vn) (tn := tN (vw σ 10 1)) (d := farN cb y) (σ := σ) hs.2.1 hR.ok hR.ca hv1 hv9 hR.iv.t.2 (far_lt hcb hy)) cal_X3_lagBy calV_X3_lagBy m388 ⟨rfl, rfl, Nat.le_of_ble_eq_true rfl, Nat.le_of_ble_eq_true rfl⟩ rfl hs.2.1.1.1 hs.2.1.1.2 ⟨_, _, rfl⟩ rfl (Nat.le_of_ble_eq_true rfl) dX9_lag_61 (q := 64) rfl (kR (fun r61 σ61 h61 => ?_))
      refine v_aload_n h (i := 3) dX9_lag_64 (q := 65) rfl rfl 1 rfl ?_
      refine v_iload_n h (i := 1) dX9_lag_65 (q := 66) rfl rfl 3 rfl ?_
      refine v_callV h (As := [.int (nI n)]) (rest := [.int r61]) (c_X0_later (me := 11) (σ := σ61) (b := nI n) hs.2.2.1.2.1) cal_X0_later calV_X0_later m414 ⟨rfl, rfl, Nat.le_of_ble_eq_true rfl, Nat.le_of_ble_eq_true rfl⟩ rfl hs.2.2.1.2.1.1.1 hs.2.2.1.2.1.1.2 ⟨_, _, rfl⟩ rfl (Nat.le_of_ble_eq_true rfl) dX9_lag_66 (q := 69) rfl (kI ?_)
      refine v_iadd h dX9_lag_69 (q := 70) rfl ?_
      exact v_iret h dX9_lag_70 (pA_of (by unfold oLag; rw [if_pos ⟨(hold_iff hR).mp c10, c17⟩, cl_nI (by omega), ← lag_eq hR hb9 hy ecb hcb ev, h61.1, latB_eq (σ := σ) (h61.2.1 11 (by decide) (by decide) (by decide)) (h61.2.1 12 (by decide) (by decide) (by decide)) (h61.2.1 13 (by decide) (by decide) (by decide))]) (hR.scrE (fun j a b c _ => h61.2.1 j (by omega) (by omega) (by omega)) h61.2.2 (hR.ro.at (fun j a b => h61.2.1 j (by omega) (by omega) (by omega)))))
    · refine v_if_ne h (t := 29) dX9_lag_20 (by decide) (q := 23) rfl (fun c => absurd (by decide) c) (fun _ => ?_)
      refine v_aload_n h (i := 0) dX9_lag_23 (q := 24) rfl rfl 1 rfl ?_
      refine v_iconst h (v := 1) dX9_lag_24 (q := 25) rfl (by decide) ?_
      refine v_callV h (As := [.int 1]) (rest := []) (c_ref (σ := σ) hs (e := 1) (by decide) rfl) cal_X9_refuse calV_X9_refuse m315 ⟨rfl, rfl, Nat.le_of_ble_eq_true rfl, Nat.le_of_ble_eq_true rfl⟩ rfl hs.1.1 hs.1.2 ⟨_, _, rfl⟩ rfl (Nat.le_of_ble_eq_true rfl) dX9_lag_25 (q := 28) rfl (kI ?_)
      exact v_iret h dX9_lag_28 (pA_of (by unfold oLag; rw [if_neg (fun z => by first | exact c10 ((hold_iff hR).mpr z.1) | exact c17 z.2)]; rfl) (hR.err (by decide)))
  · refine v_if_eq h (t := 23) dX9_lag_13 (by decide) (q := 16) rfl (fun _ => ?_) (fun c => absurd (by decide) c)
    refine v_aload_n h (i := 0) dX9_lag_23 (q := 24) rfl rfl 1 rfl ?_
    refine v_iconst h (v := 1) dX9_lag_24 (q := 25) rfl (by decide) ?_
    refine v_callV h (As := [.int 1]) (rest := []) (c_ref (σ := σ) hs (e := 1) (by decide) rfl) cal_X9_refuse calV_X9_refuse m315 ⟨rfl, rfl, Nat.le_of_ble_eq_true rfl, Nat.le_of_ble_eq_true rfl⟩ rfl hs.1.1 hs.1.2 ⟨_, _, rfl⟩ rfl (Nat.le_of_ble_eq_true rfl) dX9_lag_25 (q := 28) rfl (kI ?_)
    exact v_iret h dX9_lag_28 (pA_of (by unfold oLag; rw [if_neg (fun z => by first | exact c10 ((hold_iff hR).mpr z.1) | exact c17 z.2)]; rfl) (hR.err (by decide)))
