/-! small facts of ints -/
theorem sw_ne {x k : Int32} (h : ¬ x = k) {z : Int} (hz : k.toInt = z) : x.toInt ≠ z := fun e => h (Int32.toInt_inj.mp (e.trans hz.symm))
theorem i_lt {a b : Int32} : a < b ↔ a.toInt < b.toInt := Int32.lt_iff_toInt_lt
theorem i_le {a b : Int32} : a ≤ b ↔ a.toInt ≤ b.toInt := Int32.le_iff_toInt_le
theorem vinl {x m : Int32} {n : Nat} (h0 : ¬ x < 0) (h1 : ¬ m ≤ x) (hm : m.toInt = n) : vp_in x n := by
  rw [i_lt] at h0
  rw [i_le] at h1
  have : (0 : Int32).toInt = 0 := rfl
  exact vp_in_iff.mpr (by omega)
theorem vint {x : Int32} {n : Nat} (h0 : 0 ≤ x.toInt) (h1 : x.toInt < n) : vp_in x n := vp_in_iff.mpr ⟨h0, h1⟩
def wi (a l m : Int32) : Prop := ¬ a < l ∧ ¬ m < a
theorem wi_iff {a l m : Int32} : wi a l m ↔ l.toInt ≤ a.toInt ∧ a.toInt ≤ m.toInt := by
  unfold wi
  rw [i_lt, i_lt]
  omega
theorem wi_nI {a m : Int32} {n : Nat} (h : wi a 0 m) (hm : m.toInt = n) : ∃ k : Nat, k ≤ n ∧ a = nI k := by
  have h1 := wi_iff.mp h
  have h2 : (0 : Int32).toInt = 0 := rfl
  obtain ⟨k, hk, e⟩ := nI_of (x := a) (by rw [i_lt]; omega)
  refine ⟨k, ?_, e⟩
  have := nI_toInt hk
  rw [← e] at this
  omega
def abv (k : Int32) : Int32 := if ¬ k < 0 ∧ ¬ (7 : Int32) ≤ k then b_tKA k.toNatClampNeg else -1
def farC (a b : Int32) : Int32 := imax (iabs (a >>> (3 &&& 31) - b >>> (3 &&& 31))) (iabs ((a &&& 7) - (b &&& 7)))
def nxC (cell way : Int32) : Int32 :=
  if way = 1 then (if cell >>> (3 &&& 31) = 0 then cell else cell - 8) else
  if way = 2 then (if (cell &&& 7) = 7 then cell else cell + 1) else
  if way = 3 then (if cell >>> (3 &&& 31) = 7 then cell else cell + 8) else
  if way = 4 then (if (cell &&& 7) = 0 then cell else cell - 1) else cell
abbrev hB (σ : bSt) (me : Nat) (b : Int32) : Prop := ¬ b < 0 ∧ ¬ σ me 0 ≤ b ∧ ¬ (9 : Int32) ≤ b
abbrev sgB (σ : bSt) (me b : Nat) (t : Int32) : Prop := ushr (σ (me + 4) b) t &&& 1 = 1
theorem hB_in {σ : bSt} {me : Nat} {b : Int32} (h : hB σ me b) : vp_in b 9 := vinl h.1 h.2.2 rfl
def latK (kind m : Int32) : Int32 := if kind = 5 then m / 3 else if kind = 4 then m else 0
def latB (σ : bSt) (me : Nat) (b : Int32) : Int32 := if hB σ me b then latK (σ (me + 1) b.toNatClampNeg) (σ (me + 2) b.toNatClampNeg) else 0
def rkC (cell t tide : Int32) : Int32 := if t &&& 1 = 1 then nxC cell tide else cell
def plC (m cell t tide : Int32) : Int32 := if t &&& 7 = 7 then nxC (rkC cell t tide) (m - m / 4 * 4 + 1) else rkC cell t tide
def mvC (kind m : Int32) (sg : Prop) [Decidable sg] (cell t tide : Int32) : Int32 :=
  if kind = 0 then rkC cell t tide else if kind = 2 then nxC cell tide else if kind = 3 then plC m cell t tide else
  if kind = 5 then (if t < m then cell else nxC cell tide) else if kind = 6 then (if sg then plC m cell t tide else cell) else cell
def behB (σ : bSt) (me : Nat) (b cell t tide : Int32) : Int32 := if hB σ me b then mvC (σ (me + 1) b.toNatClampNeg) (σ (me + 2) b.toNatClampNeg) (sgB σ me b.toNatClampNeg t) cell t tide else cell
def sngF (σ : bSt) (me : Nat) (t : Int32) : Nat → Int32
  | 0 => 0
  | n + 1 => if hB σ me (nI n) ∧ sgB σ me n t then sngF σ me t n ||| ((1 : Int32) <<< (nI n &&& 31)) else sngF σ me t n
theorem hB_nI {σ : bSt} {me n : Nat} (h : n < 2 ^ 31) : hB σ me (nI n) ↔ (n : Int) < (σ me 0).toInt ∧ n < 9 := by
  have h0 : (0 : Int32).toInt = 0 := rfl
  have h9 : (9 : Int32).toInt = 9 := rfl
  have hn := nI_toInt h
  unfold hB
  rw [i_lt, i_le, i_le]
  omega
theorem sngF_stop {σ : bSt} {me : Nat} {t : Int32} {b : Nat} (hb : b ≤ 9) (h : ¬ (b : Int) < (σ me 0).toInt) : ∀ k : Nat, b + k ≤ 9 → sngF σ me t (b + k) = sngF σ me t b
  | 0, _ => rfl
  | k + 1, hk => by
    show sngF σ me t ((b + k) + 1) = _
    rw [sngF, if_neg (fun z => by have := (hB_nI (n := b + k) (by omega)).mp z.1; omega), sngF_stop hb h k (by omega)]
theorem nlt {m : Int32} {k b : Nat} (hm : m.toInt = k) (hb : b < 2 ^ 31) (c : ¬ m ≤ nI b) : b < k := by
  rw [i_le, hm, nI_toInt hb] at c
  omega
theorem nge {m : Int32} {k b : Nat} (hm : m.toInt = k) (hb : b < 2 ^ 31) (c : m ≤ nI b) : k ≤ b := by
  rw [i_le, hm, nI_toInt hb] at c
  omega
theorem sngF_end {σ : bSt} {me : Nat} {t : Int32} {n b : Nat} (hb : b + n = 9) (h : σ me 0 ≤ nI b ∨ (9 : Int32) ≤ nI b) : sngF σ me t 9 = sngF σ me t b := by
  rcases h with h | h
  · rw [i_le, nI_toInt (by omega)] at h
    have := sngF_stop (σ := σ) (me := me) (t := t) (b := b) (by omega) (by omega) n (by omega)
    rw [hb] at this
    exact this
  · have := nge (k := 9) rfl (by omega) h
    rw [show b = 9 by omega]
def bc1 (x : Int32) : Int32 := x - (ushr x 1 &&& 1431655765)
def bc2 (x : Int32) : Int32 := (x &&& 858993459) + (ushr x 2 &&& 858993459)
def bc3 (x : Int32) : Int32 := (x + ushr x 4) &&& 252645135
def bc4 (x : Int32) : Int32 := x + ushr x 8
def bc5 (x : Int32) : Int32 := (x + ushr x 16) &&& 63
def bcJ (x : Int32) : Int32 := bc5 (bc4 (bc3 (bc2 (bc1 x))))
def bl1 (x : Int64) : Int64 := x - (ushrL x 1 &&& 6148914691236517205)
def bl2 (x : Int64) : Int64 := (x &&& 3689348814741910323) + (ushrL x 2 &&& 3689348814741910323)
def bl3 (x : Int64) : Int64 := (x + ushrL x 4) &&& 1085102592571150095
def bl4 (x : Int64) : Int64 := x + ushrL x 8
def bl5 (x : Int64) : Int64 := x + ushrL x 16
def bl6 (x : Int64) : Int64 := x + ushrL x 32
def bcL (x : Int64) : Int32 := (bl6 (bl5 (bl4 (bl3 (bl2 (bl1 x)))))).toInt32 &&& 127
def rotR (x k : Int32) : Int32 := ushr x k ||| (x <<< (-k &&& 31))
def irm (a b : Int32) : Int32 := a - a / b * b
def jnC (sign x y : Int32) : Int32 :=
  if sign = 124 then (if x ≠ 0 ∨ y ≠ 0 then 1 else 0) else
  if sign = 38 then (if x ≠ 0 ∧ y ≠ 0 then 1 else 0) else
  if sign = 60 then (if x < y then 1 else 0) else
  if sign = 61 then (if x = y then 1 else 0) else
  if sign = 62 then (if y < x then 1 else 0) else
  if sign = 43 then x + y else
  if sign = 45 then x - y else
  if sign = 42 then x * y else
  if sign = 47 then (if y = 0 then 0 else x / y) else
  if sign = 37 then (if y = 0 then 0 else irm x y) else 0
/-- a TEXT's code (numbers; -1 .. -3 the names; -33 not; other operators as their signs, negative) worked out over a row -/
def pshC (a b c s : Int32) : Int32 := if s < 0 then (if s = -1 then a else if s = -2 then b else c) else s
def stpC (a b c s : Int32) (q : Nat × (Nat → Int32)) : Nat × (Nat → Int32) :=
  if s < -3 then (if s = -33 then (q.1, upd q.2 (q.1 - 1) (if q.2 (q.1 - 1) = 0 then 1 else 0)) else (q.1 - 1, upd q.2 (q.1 - 2) (jnC (-s) (q.2 (q.1 - 2)) (q.2 (q.1 - 1)))))
  else (q.1 + 1, upd q.2 q.1 (pshC a b c s))
def runC (g : Nat → Int32) (a b c : Int32) : Nat → Nat × (Nat → Int32)
  | 0 => (0, fun _ => 0)
  | n + 1 => stpC a b c (g n) (runC g a b c n)
def dptC (g : Nat → Int32) : Nat → Nat
  | 0 => 0
  | n + 1 => if g n < -3 then (if g n = -33 then dptC g n else dptC g n - 1) else dptC g n + 1
theorem runC_1 (g : Nat → Int32) (a b c : Int32) : ∀ n, (runC g a b c n).1 = dptC g n
  | 0 => rfl
  | n + 1 => by
    show (stpC a b c (g n) (runC g a b c n)).1 = _
    unfold stpC
    rw [dptC]
    split
    · split
      · exact runC_1 g a b c n
      · show _ - 1 = _
        rw [runC_1 g a b c n]
    · show _ + 1 = _
      rw [runC_1 g a b c n]
theorem dptC_le (g : Nat → Int32) : ∀ n, dptC g n ≤ n
  | 0 => Nat.le_refl _
  | n + 1 => by
    have := dptC_le g n
    rw [dptC]
    split
    · split <;> omega
    · omega
/-- a code that can be worked out -/
def okC (g : Nat → Int32) (n : Nat) : Prop := n ≤ 50 ∧ (0 < n → 1 ≤ dptC g n) ∧ ∀ i, i < n → g i < -3 → (if g i = -33 then 1 else 2) ≤ dptC g i
def evC (g : Nat → Int32) (n : Nat) (a b c : Int32) : Int32 := (runC g a b c n).2 0
