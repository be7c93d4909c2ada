/-! the lagoon in one row of numbers, as the document's terms go over it: what both systems are held against -/
abbrev bN : Type := Nat → Int32
abbrev bG : Type := Int32 → Int32 → Int32 → Int32 → Int32
def tN (N : bN) : Nat := (N 0).toNatClampNeg % 32
def afN (N : bN) : Nat := (N 7).toNatClampNeg
def liN (N : bN) : Nat := (N 8).toNatClampNeg
def tgB (lagf : Nat → Int32) (heard : Int32) : Bool := decide ((2 : Int32) ≤ bcJ heard) && (tgR lagf heard 9).isSome
theorem tgB_iff {lagf : Nat → Int32} {heard : Int32} : tgP lagf heard ↔ tgB lagf heard = true := by
  unfold tgP tgB
  rw [Bool.and_eq_true, decide_eq_true_eq, Option.isSome_iff_ne_none]
def latN (N : bN) (b : Nat) : Int32 := if b < afN N then latK (N (12 + 4 * b)) (N (13 + 4 * b)) else 0
def lgN (g : bG) (N : bN) (there : Int32) (b : Nat) : Int32 := g 0 (farC (N (14 + 4 * b)) there) (N 1) (nI (tN N)) + latN N b
def togN (g : bG) (N : bN) (there heard : Int32) : Bool := tgB (lgN g N there) heard
def sgN (N : bN) (b : Nat) : Bool := decide (ushr (N (15 + 4 * b)) (nI (tN N)) &&& 1 = 1)
def sngN (N : bN) : Nat → Int32
  | 0 => 0
  | n + 1 => if n < afN N ∧ sgN N n = true then sngN N n ||| ((1 : Int32) <<< (nI n &&& 31)) else sngN N n
def mv1N (N : bN) (b : Nat) : Int32 := mvC (N (12 + 4 * b)) (N (13 + 4 * b)) (sgN N b = true) (N (14 + 4 * b)) (nI (tN N)) (N (2 + tN N / 8))
def mvN (N : bN) : Nat → bN
  | 0 => N
  | n + 1 => if n < afN N then upd (mvN N n) (14 + 4 * n) (mv1N N n) else mvN N n
def allN (N : bN) : bN := upd (mvN N 9) 0 (N 0 + 1)
def lis1 (g : bG) (N : bN) (heard : Int32) (l : Nat) : bN :=
  let is : Int32 := if togN g N (N (48 + 3 * l)) heard = true then 1 else 0
  let pays := imin (g 1 (bcJ heard) is (nI (tN N))) (N (50 + 3 * l))
  upd (upd (upd N (49 + 3 * l) (imin 9999 (N (49 + 3 * l) + is))) (50 + 3 * l) (N (50 + 3 * l) - pays)) 6 (imin 999999 (N 6 + pays))
def lisN (g : bG) (N : bN) (heard : Int32) : Nat → bN
  | 0 => N
  | n + 1 => if n < liN N then lis1 g (lisN g N heard n) heard n else lisN g N heard n
def fgN (heard : Int32) (z : Int32) : Nat → Int32 × Int32
  | 0 => (z, heard)
  | n + 1 => if ushr heard (nI n) &&& 1 = 0 then fgN heard z n else
    ((fgN heard z n).1 * 1103515245 + 12345, if irm (ushr ((fgN heard z n).1 * 1103515245 + 12345) 8) 6 = 0 then (fgN heard z n).2 &&& ((1 : Int32) <<< (nI n &&& 31) ^^^ -1) else (fgN heard z n).2)
def btN (g : bG) (N : bN) (loose : Bool) : bN :=
  let s := sngN N 9
  if loose then allN (lisN g (upd N 11 (fgN s (N 11) 9).1) (fgN s (N 11) 9).2 6) else allN (lisN g N s 6)
def goN (g : bG) (loose : Bool) (N : bN) : Nat → bN
  | 0 => N
  | n + 1 => btN g (goN g loose N n) loose
def almN (N : bN) : Nat → bN
  | 0 => N
  | n + 1 => allN (almN N n)
/-- what always holds of the lagoon's numbers -/
def IvN (N : bN) : Prop := (∃ t, t < 20000 ∧ N 0 = nI t) ∧ (∃ v, 1 ≤ v ∧ v ≤ 9 ∧ N 1 = nI v) ∧ (∀ p, p < 4 → ∃ v, v ≤ 4 ∧ N (2 + p) = nI v) ∧ (∃ v, v ≤ 999999 ∧ N 6 = nI v) ∧ (∃ a, a ≤ 9 ∧ N 7 = nI a) ∧ (∃ a, a ≤ 6 ∧ N 8 = nI a) ∧
  (∀ b, b < 9 → (∃ k, k ≤ 6 ∧ N (12 + 4 * b) = nI k) ∧ (∃ k, k ≤ 9 ∧ N (13 + 4 * b) = nI k) ∧ (∃ k, k < 64 ∧ N (14 + 4 * b) = nI k)) ∧
  ∀ l, l < 6 → (∃ k, k < 64 ∧ N (48 + 3 * l) = nI k) ∧ (∃ k, k ≤ 9999 ∧ N (49 + 3 * l) = nI k) ∧ (∃ k, k ≤ 99999 ∧ N (50 + 3 * l) = nI k)
/-- the lagoon's numbers out of a Scene at sc and Laws at L -/
def vw (σ : bSt) (sc L : Nat) : bN := fun k =>
  if k = 0 then σ sc 0 else if k = 1 then σ L 0 else if k < 6 then σ (L + 1) (k - 2) else if k = 6 then σ sc 1 else if k = 7 then σ (sc + 1) 0 else if k = 8 then σ sc 4 else if k = 11 then σ sc 2 else
  if 12 ≤ k ∧ k < 48 then σ (sc + 2 + (k - 12) % 4) ((k - 12) / 4) else if 48 ≤ k ∧ k < 66 then σ (sc + 6 + (k - 48) % 3) ((k - 48) / 3) else 0
theorem vw_0 {σ : bSt} {sc L : Nat} : vw σ sc L 0 = σ sc 0 := rfl
theorem vw_1 {σ : bSt} {sc L : Nat} : vw σ sc L 1 = σ L 0 := rfl
theorem vw_t {σ : bSt} {sc L p : Nat} (h : p < 4) : vw σ sc L (2 + p) = σ (L + 1) p := by
  unfold vw
  rw [if_neg (by omega), if_neg (by omega), if_pos (by omega), Nat.add_sub_cancel_left]
theorem vw_6 {σ : bSt} {sc L : Nat} : vw σ sc L 6 = σ sc 1 := rfl
theorem vw_7 {σ : bSt} {sc L : Nat} : vw σ sc L 7 = σ (sc + 1) 0 := rfl
theorem vw_8 {σ : bSt} {sc L : Nat} : vw σ sc L 8 = σ sc 4 := rfl
theorem vw_11 {σ : bSt} {sc L : Nat} : vw σ sc L 11 = σ sc 2 := rfl
theorem vw_b {σ : bSt} {sc L b f : Nat} (h : b < 9) (hf : f < 4) : vw σ sc L (12 + f + 4 * b) = σ (sc + 2 + f) b := by
  unfold vw
  rw [if_neg (by omega), if_neg (by omega), if_neg (by omega), if_neg (by omega), if_neg (by omega), if_neg (by omega), if_neg (by omega), if_pos (by omega), show (12 + f + 4 * b - 12) % 4 = f by omega, show (12 + f + 4 * b - 12) / 4 = b by omega]
theorem vw_l {σ : bSt} {sc L l f : Nat} (h : l < 6) (hf : f < 3) : vw σ sc L (48 + f + 3 * l) = σ (sc + 6 + f) l := by
  unfold vw
  rw [if_neg (by omega), if_neg (by omega), if_neg (by omega), if_neg (by omega), if_neg (by omega), if_neg (by omega), if_neg (by omega), if_neg (by omega), if_pos (by omega), show (48 + f + 3 * l - 48) % 3 = f by omega, show (48 + f + 3 * l - 48) / 3 = l by omega]
theorem and31 {t : Nat} (h : t < 20000) : nI t &&& 31 = nI (t % 32) := pk_andN (by omega) 5 rfl
theorem nI_inj {a b : Nat} (ha : a < 2 ^ 31) (hb : b < 2 ^ 31) (h : nI a = nI b) : a = b := (nI_eq ha hb).mp h
theorem IvN.t {N : bN} (h : IvN N) : N 0 &&& 31 = nI (tN N) ∧ tN N < 32 := by
  obtain ⟨t, ht, e⟩ := h.1
  unfold tN
  rw [e, nI_clamp (by omega), and31 ht]
  exact ⟨rfl, Nat.mod_lt _ (by decide)⟩
theorem IvN.af {N : bN} (h : IvN N) : N 7 = nI (afN N) ∧ afN N ≤ 9 := by
  obtain ⟨a, ha, e⟩ := h.2.2.2.2.1
  unfold afN
  rw [e, nI_clamp (by omega)]
  exact ⟨rfl, ha⟩
theorem IvN.li {N : bN} (h : IvN N) : N 8 = nI (liN N) ∧ liN N ≤ 6 := by
  obtain ⟨a, ha, e⟩ := h.2.2.2.2.2.1
  unfold liN
  rw [e, nI_clamp (by omega)]
  exact ⟨rfl, ha⟩
section VW
variable {σ : bSt} {sc L : Nat}
theorem vw_k {b : Nat} (h : b < 9) : vw σ sc L (12 + 4 * b) = σ (sc + 2) b := vw_b (f := 0) h (by decide)
theorem vw_m {b : Nat} (h : b < 9) : vw σ sc L (13 + 4 * b) = σ (sc + 3) b := vw_b (f := 1) h (by decide)
theorem vw_c {b : Nat} (h : b < 9) : vw σ sc L (14 + 4 * b) = σ (sc + 4) b := vw_b (f := 2) h (by decide)
theorem vw_p {b : Nat} (h : b < 9) : vw σ sc L (15 + 4 * b) = σ (sc + 5) b := vw_b (f := 3) h (by decide)
theorem vw_l0 {l : Nat} (h : l < 6) : vw σ sc L (48 + 3 * l) = σ (sc + 6) l := vw_l (f := 0) h (by decide)
theorem vw_l1 {l : Nat} (h : l < 6) : vw σ sc L (49 + 3 * l) = σ (sc + 7) l := vw_l (f := 1) h (by decide)
theorem vw_l2 {l : Nat} (h : l < 6) : vw σ sc L (50 + 3 * l) = σ (sc + 8) l := vw_l (f := 2) h (by decide)
theorem hB_vw (hI : IvN (vw σ sc L)) {b : Nat} (hb : b < 9) : hB σ (sc + 1) (nI b) ↔ b < afN (vw σ sc L) := by
  have h := hI.af
  rw [hB_nI (by omega), ← vw_7 (σ := σ) (sc := sc) (L := L), h.1, nI_toInt (by omega)]
  omega
theorem sg_vw {b : Nat} (hb : b < 9) : sgB σ (sc + 1) b (nI (tN (vw σ sc L))) ↔ sgN (vw σ sc L) b = true := by
  unfold sgN sgB
  rw [decide_eq_true_eq, vw_p hb]
theorem sng_vw (hI : IvN (vw σ sc L)) : ∀ n, n ≤ 9 → sngF σ (sc + 1) (nI (tN (vw σ sc L))) n = sngN (vw σ sc L) n
  | 0, _ => rfl
  | n + 1, hn => by
    rw [sngF, sngN, sng_vw hI n (by omega)]
    have e : (hB σ (sc + 1) (nI n) ∧ sgB σ (sc + 1) n (nI (tN (vw σ sc L)))) ↔ (n < afN (vw σ sc L) ∧ sgN (vw σ sc L) n = true) := by rw [hB_vw hI (by omega), sg_vw (by omega)]
    by_cases c : n < afN (vw σ sc L) ∧ sgN (vw σ sc L) n = true
    · rw [if_pos c, if_pos (e.mpr c)]
    · rw [if_neg c, if_neg (fun z => c (e.mp z))]
theorem lat_vw (hI : IvN (vw σ sc L)) {b : Nat} (hb : b < 9) : latB σ (sc + 1) (nI b) = latN (vw σ sc L) b := by
  unfold latB latN
  rw [nI_clamp (by omega), vw_k hb, vw_m hb]
  by_cases c : b < afN (vw σ sc L)
  · rw [if_pos c, if_pos ((hB_vw hI hb).mpr c)]
  · rw [if_neg c, if_neg (fun z => c ((hB_vw hI hb).mp z))]
theorem lag_vw (hI : IvN (vw σ sc L)) {b : Nat} (hb : b < 9) (there : Int32) : lagC σ L (sc + 1) (sc + 4) there (vw σ sc L 1) (nI (tN (vw σ sc L))) b = lgN (gvS σ L) (vw σ sc L) there b := by
  unfold lagC lgN
  rw [lat_vw hI hb, vw_c hb]
theorem tgR_congr {f g : Nat → Int32} {heard : Int32} : ∀ n, (∀ b, b < n → ¬ ushr heard (nI b) &&& 1 = 0 → f b = g b) → tgR f heard n = tgR g heard n
  | 0, _ => rfl
  | n + 1, h => by
    rw [tgR, tgR, tgR_congr n (fun b hb => h b (by omega))]
    cases tgR g heard n with
    | none => rfl
    | some x =>
      show (if _ then _ else _) = (if _ then _ else _)
      by_cases c : ushr heard (nI n) &&& 1 = 0
      · rw [if_pos c, if_pos c]
      · rw [if_neg c, if_neg c, h n (by omega) c]
theorem tgB_congr {f g : Nat → Int32} {heard : Int32} (h : ∀ b, b < 9 → ¬ ushr heard (nI b) &&& 1 = 0 → f b = g b) : tgB f heard = tgB g heard := by
  unfold tgB
  rw [tgR_congr 9 h]
theorem tog_vw (hI : IvN (vw σ sc L)) {there heard : Int32} : tgP (lagC σ L (sc + 1) (sc + 4) there (vw σ sc L 1) (nI (tN (vw σ sc L)))) heard ↔ togN (gvS σ L) (vw σ sc L) there heard = true := by
  rw [tgB_iff]
  unfold togN
  rw [tgB_congr (fun b hb _ => lag_vw hI hb there)]
theorem beh_vw (hI : IvN (vw σ sc L)) {b : Nat} (hb : b < 9) (h : b < afN (vw σ sc L)) : behB σ (sc + 1) (nI b) (σ (sc + 4) b) (nI (tN (vw σ sc L))) (σ (L + 1) (tN (vw σ sc L) / 8)) = mv1N (vw σ sc L) b := by
  unfold behB mv1N
  have ht := hI.t.2
  rw [if_pos ((hB_vw hI hb).mpr h), nI_clamp (by omega), vw_k hb, vw_m hb, vw_c hb, vw_t (by omega)]
  congr 1
  exact propext (sg_vw hb)
theorem vw_ext {τ : bSt} {sc2 L2 : Nat} (h0 : ∀ k, k = 0 ∨ k = 1 ∨ k = 2 ∨ k = 4 → σ sc k = τ sc2 k) (hL : σ L 0 = τ L2 0) (ht : σ (L + 1) = τ (L2 + 1)) (h1 : σ (sc + 1) 0 = τ (sc2 + 1) 0) (hc : ∀ f, 2 ≤ f → f < 9 → σ (sc + f) = τ (sc2 + f)) : vw σ sc L = vw τ sc2 L2 := by
  funext k
  unfold vw
  rw [h0 0 (by omega), h0 1 (by omega), h0 2 (by omega), h0 4 (by omega), hL, ht, h1]
  by_cases c : 12 ≤ k ∧ k < 48
  · rw [if_pos c, if_pos c, Nat.add_assoc, Nat.add_assoc, hc (2 + (k - 12) % 4) (by omega) (by omega)]
  · rw [if_neg c, if_neg c]
    by_cases c2 : 48 ≤ k ∧ k < 66
    · rw [if_pos c2, if_pos c2, Nat.add_assoc, Nat.add_assoc, hc (6 + (k - 48) % 3) (by omega) (by omega)]
    · rw [if_neg c2, if_neg c2]
end VW
theorem b_up_same {σ : bSt} {j k : Nat} {v : Int32} (h : v = σ j k) : σ = b_up σ j k v := by
  funext a b
  unfold b_up b_set
  by_cases e : a = j
  · subst e
    rw [if_pos rfl]
    unfold upd
    by_cases e2 : b = k
    · rw [if_pos e2, e2, h]
    · rw [if_neg e2]
  · rw [if_neg e]
theorem b_up_up {σ : bSt} {j k : Nat} {v u : Int32} : b_up (b_up σ j k v) j k u = b_up σ j k u := by
  funext a b
  unfold b_up b_set
  by_cases e : a = j
  · subst e
    rw [if_pos rfl, if_pos rfl, if_pos rfl]
    unfold upd
    by_cases e2 : b = k
    · rw [if_pos e2, if_pos e2]
    · rw [if_neg e2, if_neg e2, if_neg e2]
  · rw [if_neg e, if_neg e, if_neg e]

set_option maxHeartbeats 4000000 in
set_option maxRecDepth 100000 in
theorem c_X6_pieceBeat {w : bw} {σ : bSt} {me : Nat} (hs : sScene w me) : MV yX6_pieceBeat cX6_pieceBeat 1 (some .int) (rmm 0 0) w [.ref (b_ad w me)] σ (pI (σ me 0 &&& 31) σ) := by
  refine b_met (ls := [(0, .ref (b_ad w me))]) (by decide) (Nat.le_of_ble_eq_true rfl) rfl (fun x h => ?_)
  refine v_aload_n h (i := 0) dX6_pieceBeat_0 (q := 1) rfl rfl 0 rfl ?_
  refine v_get h (k := 0) (v := .int (σ me 0)) cls6 hs.1.1 hs.1.2 (Nat.le_of_ble_eq_true rfl) m111 rfl dX6_pieceBeat_1 (q := 4) rfl ?_
  refine v_bipush h (v := 31) dX6_pieceBeat_4 (q := 6) rfl (by decide) ?_
  refine v_iand h dX6_pieceBeat_6 (q := 7) rfl ?_
  exact v_iret h dX6_pieceBeat_7 ⟨rfl, rfl⟩

set_option maxHeartbeats 4000000 in
set_option maxRecDepth 100000 in
theorem c_X6_seats {w : bw} {σ : bSt} {me : Nat} {l : Int32} (hs : sScene w me) : MV yX6_seats cX6_seats 2 (some .boolean) (rmm 0 0) w [.ref (b_ad w me), .int l] σ (pB (¬ l < 0 ∧ ¬ σ me 4 ≤ l ∧ ¬ (6 : Int32) ≤ l) σ) := by
  refine b_met (ls := [(0, .ref (b_ad w me)), (1, .int l)]) (by decide) (Nat.le_of_ble_eq_true rfl) rfl (fun x h => ?_)
  refine v_iload_n h (i := 1) dX6_seats_0 (q := 1) rfl rfl 1 rfl ?_
  refine v_if_lt h (t := 22) dX6_seats_1 (by decide) (q := 4) rfl (fun c1 => ?_) (fun c1 => ?_)
  · refine v_iconst h (v := 0) dX6_seats_22 (q := 23) rfl (by decide) ?_
    exact v_zret h rfl dX6_seats_23 (pB0 (fun z => by first | exact z.1 (by assumption) | exact z.2.1 (by assumption) | exact z.2.2 (by assumption)))
  · refine v_iload_n h (i := 1) dX6_seats_4 (q := 5) rfl rfl 1 rfl ?_
    refine v_aload_n h (i := 0) dX6_seats_5 (q := 6) rfl rfl 0 rfl ?_
    refine v_get h (k := 4) (v := .int (σ me 4)) cls6 hs.1.1 hs.1.2 (Nat.le_of_ble_eq_true rfl) m121 rfl dX6_seats_6 (q := 9) rfl ?_
    refine v_icmp_ge h (t := 22) dX6_seats_9 (by decide) (q := 12) rfl (fun c9 => ?_) (fun c9 => ?_)
    · refine v_iconst h (v := 0) dX6_seats_22 (q := 23) rfl (by decide) ?_
      exact v_zret h rfl dX6_seats_23 (pB0 (fun z => by first | exact z.1 (by assumption) | exact z.2.1 (by assumption) | exact z.2.2 (by assumption)))
    · refine v_iload_n h (i := 1) dX6_seats_12 (q := 13) rfl rfl 1 rfl ?_
      refine v_bipush h (v := 6) dX6_seats_13 (q := 15) rfl (by decide) ?_
      refine v_icmp_ge h (t := 22) dX6_seats_15 (by decide) (q := 18) rfl (fun c15 => ?_) (fun c15 => ?_)
      · refine v_iconst h (v := 0) dX6_seats_22 (q := 23) rfl (by decide) ?_
        exact v_zret h rfl dX6_seats_23 (pB0 (fun z => by first | exact z.1 (by assumption) | exact z.2.1 (by assumption) | exact z.2.2 (by assumption)))
      · refine v_iconst h (v := 1) dX6_seats_18 (q := 19) rfl (by decide) ?_
        refine v_goto h (t := 23) dX6_seats_19 (by decide) ?_
        exact v_zret h rfl dX6_seats_23 (pB1 ⟨by assumption, by assumption, by assumption⟩)

set_option maxHeartbeats 4000000 in
set_option maxRecDepth 100000 in
theorem c_X6_seat {w : bw} {σ : bSt} {me l : Nat} {c : Int32} (hs : sScene w me) (hl : σ me 4 = nI l) (hl6 : l < 6) : MV yX6_seat cX6_seat 3 (some .int) (rmm 0 0) w [.ref (b_ad w me), .int c] σ (pI (nI l) (b_up (b_up (b_up (b_up σ (me + 6) l c) (me + 7) l 0) (me + 8) l 50) me 4 (nI (l + 1)))) := by
  refine b_met (ls := [(0, .ref (b_ad w me)), (1, .int c)]) (by decide) (Nat.le_of_ble_eq_true rfl) rfl (fun x h => ?_)
  refine v_aload_n h (i := 0) dX6_seat_0 (q := 1) rfl rfl 0 rfl ?_
  refine v_get h (k := 4) (v := .int (σ me 4)) cls6 hs.1.1 hs.1.2 (Nat.le_of_ble_eq_true rfl) m121 rfl dX6_seat_1 (q := 4) rfl ?_
  rw [show (σ me 4 : Int32) = nI l from hl]
  refine v_istore_n h (i := 2) (ls1 := [(2, .int (nI l)), (0, .ref (b_ad w me)), (1, .int c)]) dX6_seat_4 (q := 5) rfl rfl (Nat.le_of_ble_eq_true rfl) rfl ?_
  refine v_iload_n h (i := 2) dX6_seat_5 (q := 6) rfl rfl 0 rfl ?_
  refine v_if_lt h (t := 15) dX6_seat_6 (by decide) (q := 9) rfl (fun c6 => absurd c6 (nI_pos (by omega))) (fun c6 => ?_)
  refine v_iload_n h (i := 2) dX6_seat_9 (q := 10) rfl rfl 0 rfl ?_
  refine v_bipush h (v := 6) dX6_seat_10 (q := 12) rfl (by decide) ?_
  refine v_icmp_lt h (t := 17) dX6_seat_12 (by decide) (q := 15) rfl (fun c12 => ?_) (fun c12 => absurd (nltl (k := 6) rfl hl6 (by decide)) c12)
  refine v_aload_n h (i := 0) dX6_seat_17 (q := 18) rfl rfl 1 rfl ?_
  refine v_get h (k := 5) (v := .ref (b_ad w (me + 6))) cls6 hs.1.1 hs.1.2 (Nat.le_of_ble_eq_true rfl) m123 rfl dX6_seat_18 (q := 21) rfl ?_
  refine v_iload_n h (i := 2) dX6_seat_21 (q := 22) rfl rfl 0 rfl ?_
  refine v_iload_n h (i := 1) dX6_seat_22 (q := 23) rfl rfl 2 rfl ?_
  refine v_iast h (k := l) hs.2.2.1.1 hs.2.2.1.2 (vp_in_nI (by omega) (by omega)) (nI_clamp (by omega)) dX6_seat_23 (q := 24) rfl ?_
  refine v_aload_n h (i := 0) dX6_seat_24 (q := 25) rfl rfl 1 rfl ?_
  refine v_get h (k := 6) (v := .ref (b_ad w (me + 7))) cls6 hs.1.1 hs.1.2 (Nat.le_of_ble_eq_true rfl) m125 rfl dX6_seat_25 (q := 28) rfl ?_
  refine v_iload_n h (i := 2) dX6_seat_28 (q := 29) rfl rfl 0 rfl ?_
  refine v_iconst h (v := 0) dX6_seat_29 (q := 30) rfl (by decide) ?_
  refine v_iast h (k := l) hs.2.2.2.1.1 hs.2.2.2.1.2 (vp_in_nI (by omega) (by omega)) (nI_clamp (by omega)) dX6_seat_30 (q := 31) rfl ?_
  refine v_aload_n h (i := 0) dX6_seat_31 (q := 32) rfl rfl 1 rfl ?_
  refine v_get h (k := 7) (v := .ref (b_ad w (me + 8))) cls6 hs.1.1 hs.1.2 (Nat.le_of_ble_eq_true rfl) m127 rfl dX6_seat_32 (q := 35) rfl ?_
  refine v_iload_n h (i := 2) dX6_seat_35 (q := 36) rfl rfl 0 rfl ?_
  refine v_bipush h (v := 50) dX6_seat_36 (q := 38) rfl (by decide) ?_
  refine v_iast h (k := l) hs.2.2.2.2.1 hs.2.2.2.2.2 (vp_in_nI (by omega) (by omega)) (nI_clamp (by omega)) dX6_seat_38 (q := 39) rfl ?_
  refine v_aload_n h (i := 0) dX6_seat_39 (q := 40) rfl rfl 1 rfl ?_
  refine v_dup h dX6_seat_40 (q := 41) rfl rfl ?_
  refine v_get h (k := 4) (v := .int ((b_up (b_up (b_up σ (me + 6) l c) (me + 7) l 0) (me + 8) l 50) me 4)) cls6 hs.1.1 hs.1.2 (Nat.le_of_ble_eq_true rfl) m121 rfl dX6_seat_41 (q := 44) rfl ?_
  rw [show ((b_up (b_up (b_up σ (me + 6) l c) (me + 7) l 0) (me + 8) l 50) me 4 : Int32) = nI l from (by rw [b_up_n (by omega), b_up_n (by omega), b_up_n (by omega)]; exact hl)]
  refine v_iconst h (v := 1) dX6_seat_44 (q := 45) rfl (by decide) ?_
  refine v_iadd h dX6_seat_45 (q := 46) rfl ?_
  rw [show ((nI l) + 1 : Int32) = nI (l + 1) from (nI_1 l)]
  refine v_put h (k := 4) cls6 hs.1.1 hs.1.2 (Nat.le_of_ble_eq_true rfl) rfl m121 rfl ⟨rfl, rfl⟩ dX6_seat_46 (q := 49) rfl ?_
  refine v_iload_n h (i := 2) dX6_seat_49 (q := 50) rfl rfl 0 rfl ?_
  exact v_iret h dX6_seat_50 ⟨rfl, rfl⟩

def cnF (σ : bSt) (me : Nat) : Nat → Int32
  | 0 => 0
  | n + 1 => if (n : Int) < (σ me 4).toInt then cnF σ me n + σ (me + 8) n else cnF σ me n
theorem cnF_stop {σ : bSt} {me : Nat} {b : Nat} (h : ¬ (b : Int) < (σ me 4).toInt) : ∀ k : Nat, cnF σ me (b + k) = cnF σ me b
  | 0 => rfl
  | k + 1 => by
    show cnF σ me ((b + k) + 1) = _
    rw [cnF, if_neg (by omega), cnF_stop h k]

set_option maxHeartbeats 4000000 in
set_option maxRecDepth 100000 in
theorem lX6_allCoins_4 {w : bw} {σ : bSt} {me : Nat} (hs : sScene w me) {x : bX} (h : Cx x w cX6_allCoins RX6 3 (some .int) (rmm 0 0)) : ∀ n b : Nat, b + n = 6 → ∀ s : Int32, s = cnF σ me b → V x w 3 (pI (cnF σ me 6) σ) 4 [(2, .int (nI b)), (1, .int s), (0, .ref (b_ad w me))] [] σ := by
  refine b_ind (fun n ih => ?_)
  intro b hbn s es
  refine v_iload_n h (i := 2) dX6_allCoins_4 (q := 5) rfl rfl 0 rfl ?_
  refine v_aload_n h (i := 0) dX6_allCoins_5 (q := 6) rfl rfl 2 rfl ?_
  refine v_get h (k := 4) (v := .int (σ me 4)) cls6 hs.1.1 hs.1.2 (Nat.le_of_ble_eq_true rfl) m121 rfl dX6_allCoins_6 (q := 9) rfl ?_
  refine v_icmp_ge h (t := 33) dX6_allCoins_9 (by decide) (q := 12) rfl (fun c9 => ?_) (fun c9 => ?_)
  · refine v_iload_n h (i := 1) dX6_allCoins_33 (q := 34) rfl rfl 1 rfl ?_
    exact v_iret h dX6_allCoins_34 ⟨by rw [es]; exact congrArg (fun z => some (Value.int z)) (by first | (have c9i := c9; rw [i_le, nI_toInt (by omega)] at c9i; rw [show (6 : Nat) = b + n by omega, cnF_stop (by omega)]) | (have := nge (k := 6) rfl (by omega) c15; rw [show (6 : Nat) = b by omega])), rfl⟩
  · refine v_iload_n h (i := 2) dX6_allCoins_12 (q := 13) rfl rfl 0 rfl ?_
    refine v_bipush h (v := 6) dX6_allCoins_13 (q := 15) rfl (by decide) ?_
    refine v_icmp_ge h (t := 33) dX6_allCoins_15 (by decide) (q := 18) rfl (fun c15 => ?_) (fun c15 => ?_)
    · refine v_iload_n h (i := 1) dX6_allCoins_33 (q := 34) rfl rfl 1 rfl ?_
      exact v_iret h dX6_allCoins_34 ⟨by rw [es]; exact congrArg (fun z => some (Value.int z)) (by first | (have c9i := c9; rw [i_le, nI_toInt (by omega)] at c9i; rw [show (6 : Nat) = b + n by omega, cnF_stop (by omega)]) | (have := nge (k := 6) rfl (by omega) c15; rw [show (6 : Nat) = b by omega])), rfl⟩
    · have hb9 : b < 6 := nlt rfl (by omega) c15
      refine v_iload_n h (i := 1) dX6_allCoins_18 (q := 19) rfl rfl 1 rfl ?_
      refine v_aload_n h (i := 0) dX6_allCoins_19 (q := 20) rfl rfl 2 rfl ?_
      refine v_get h (k := 7) (v := .ref (b_ad w (me + 8))) cls6 hs.1.1 hs.1.2 (Nat.le_of_ble_eq_true rfl) m127 rfl dX6_allCoins_20 (q := 23) rfl ?_
      refine v_iload_n h (i := 2) dX6_allCoins_23 (q := 24) rfl rfl 0 rfl ?_
      refine v_iald h (k := b) hs.2.2.2.2.1 hs.2.2.2.2.2 (vp_in_nI (by omega) (by omega)) (nI_clamp (by omega)) dX6_allCoins_24 (q := 25) rfl ?_
      refine v_iadd h dX6_allCoins_25 (q := 26) rfl ?_
      refine v_istore_n h (i := 1) (ls1 := [(1, .int (s + (σ (me + 8) b))), (2, .int (nI b)), (0, .ref (b_ad w me))]) dX6_allCoins_26 (q := 27) rfl rfl (Nat.le_of_ble_eq_true rfl) rfl ?_
      refine v_iinc h (p := 1) (u := nI (b + 1)) (ls1 := [(2, .int (nI (b + 1))), (1, .int (s + (σ (me + 8) b))), (0, .ref (b_ad w me))]) dX6_allCoins_27 (q := 30) rfl rfl (nI_1 b) (Nat.le_of_ble_eq_true rfl) rfl ?_
      refine v_goto h (t := 4) dX6_allCoins_30 (by decide) ?_
      exact ih (n - 1) (by omega) (b + 1) (by omega) _ (by rw [cnF, es, if_pos (by rw [i_le, nI_toInt (by omega)] at c9; omega)])
set_option maxHeartbeats 4000000 in
set_option maxRecDepth 100000 in
theorem c_X6_allCoins {w : bw} {σ : bSt} {me : Nat} (hs : sScene w me) : MV yX6_allCoins cX6_allCoins 3 (some .int) (rmm 0 0) w [.ref (b_ad w me)] σ (pI (cnF σ me 6) σ) := by
  refine b_met (ls := [(0, .ref (b_ad w me))]) (by decide) (Nat.le_of_ble_eq_true rfl) rfl (fun x h => ?_)
  refine v_iconst h (v := 0) dX6_allCoins_0 (q := 1) rfl (by decide) ?_
  refine v_istore_n h (i := 1) (ls1 := [(1, .int 0), (0, .ref (b_ad w me))]) dX6_allCoins_1 (q := 2) rfl rfl (Nat.le_of_ble_eq_true rfl) rfl ?_
  refine v_iconst h (v := 0) dX6_allCoins_2 (q := 3) rfl (by decide) ?_
  refine v_istore_n h (i := 2) (ls1 := [(2, .int 0), (1, .int 0), (0, .ref (b_ad w me))]) dX6_allCoins_3 (q := 4) rfl rfl (Nat.le_of_ble_eq_true rfl) rfl ?_
  exact lX6_allCoins_4 hs h 6 0 rfl 0 rfl

set_option maxHeartbeats 4000000 in
set_option maxRecDepth 100000 in
theorem lX6_leftByFog_4 {w : bw} {σ : bSt} {me : Nat} {heard : Int32} (hs : sScene w me) {x : bX} (h : Cx x w cX6_leftByFog RX6 4 (some .int) (rmm 0 0)) : ∀ n b : Nat, b + n = 9 → ∀ (f : Int32) (τ : bSt), f = (fgN heard (σ me 2) b).2 → τ = b_up σ me 2 (fgN heard (σ me 2) b).1 → V x w 4 (pI (fgN heard (σ me 2) 9).2 (b_up σ me 2 (fgN heard (σ me 2) 9).1)) 4 [(3, .int (nI b)), (2, .int f), (0, .ref (b_ad w me)), (1, .int heard)] [] τ := by
  refine b_ind (fun n ih => ?_)
  intro b hbn f τ ef eτ
  refine v_iload_n h (i := 3) dX6_leftByFog_4 (q := 5) rfl rfl 0 rfl ?_
  refine v_bipush h (v := 9) dX6_leftByFog_5 (q := 7) rfl (by decide) ?_
  refine v_icmp_ge h (t := 63) dX6_leftByFog_7 (by decide) (q := 10) rfl (fun c7 => ?_) (fun c7 => ?_)
  · refine v_iload_n h (i := 2) dX6_leftByFog_63 (q := 64) rfl rfl 1 rfl ?_
    exact v_iret h dX6_leftByFog_64 ⟨by rw [ef, show (9 : Nat) = b by have := nge (k := 9) rfl (by omega) c7; omega], by rw [eτ, show (9 : Nat) = b by have := nge (k := 9) rfl (by omega) c7; omega]⟩
  · have hb9 : b < 9 := nlt rfl (by omega) c7
    refine v_iload_n h (i := 1) dX6_leftByFog_10 (q := 11) rfl rfl 3 rfl ?_
    refine v_iload_n h (i := 3) dX6_leftByFog_11 (q := 12) rfl rfl 0 rfl ?_
    refine v_iushr h (v := ushr heard (nI b)) dX6_leftByFog_12 (q := 13) rfl rfl ?_
    refine v_iconst h (v := 1) dX6_leftByFog_13 (q := 14) rfl (by decide) ?_
    refine v_iand h dX6_leftByFog_14 (q := 15) rfl ?_
    refine v_if_ne h (t := 21) dX6_leftByFog_15 (by decide) (q := 18) rfl (fun c15 => ?_) (fun c15 => ?_)
    · have ez : τ me 2 = (fgN heard (σ me 2) b).1 := by rw [eτ, b_up_s, upd_s]
      refine v_aload_n h (i := 0) dX6_leftByFog_21 (q := 22) rfl rfl 2 rfl ?_
      refine v_aload_n h (i := 0) dX6_leftByFog_22 (q := 23) rfl rfl 2 rfl ?_
      refine v_get h (k := 2) (v := .int (τ me 2)) cls6 hs.1.1 hs.1.2 (Nat.le_of_ble_eq_true rfl) m116 rfl dX6_leftByFog_23 (q := 26) rfl ?_
      refine v_ldc h (v := 1103515245) m562 dX6_leftByFog_26 (q := 28) rfl ?_
      refine v_imul h dX6_leftByFog_28 (q := 29) rfl ?_
      refine v_sipush h (v := 12345) dX6_leftByFog_29 (q := 32) rfl (by decide) ?_
      refine v_iadd h dX6_leftByFog_32 (q := 33) rfl ?_
      refine v_put h (k := 2) cls6 hs.1.1 hs.1.2 (Nat.le_of_ble_eq_true rfl) rfl m116 rfl ⟨rfl, rfl⟩ dX6_leftByFog_33 (q := 36) rfl ?_
      generalize eσ33 : b_up τ me 2 (((τ me 2) * 1103515245) + 12345) = σ33
      refine v_aload_n h (i := 0) dX6_leftByFog_36 (q := 37) rfl rfl 2 rfl ?_
      refine v_get h (k := 2) (v := .int (σ33 me 2)) cls6 hs.1.1 hs.1.2 (Nat.le_of_ble_eq_true rfl) m116 rfl dX6_leftByFog_37 (q := 40) rfl ?_
      rw [show (σ33 me 2 : Int32) = τ me 2 * 1103515245 + 12345 from (by rw [← eσ33, b_up_s, upd_s])]
      refine v_bipush h (v := 8) dX6_leftByFog_40 (q := 42) rfl (by decide) ?_
      refine v_iushr h (v := ushr (τ me 2 * 1103515245 + 12345) 8) dX6_leftByFog_42 (q := 43) rfl rfl ?_
      refine v_bipush h (v := 6) dX6_leftByFog_43 (q := 45) rfl (by decide) ?_
      refine v_irem h dX6_leftByFog_45 (q := 46) rfl (by decide) ?_
      refine v_if_ne h (t := 57) dX6_leftByFog_46 (by decide) (q := 49) rfl (fun c46 => ?_) (fun c46 => ?_)
      · refine v_iinc h (p := 0) (u := nI (b + 1)) (ls1 := [(3, .int (nI (b + 1))), (2, .int f), (0, .ref (b_ad w me)), (1, .int heard)]) dX6_leftByFog_57 (q := 60) rfl rfl (nI_1 b) (Nat.le_of_ble_eq_true rfl) rfl ?_
        refine v_goto h (t := 4) dX6_leftByFog_60 (by decide) ?_
        have c46i : ¬ irm (ushr ((fgN heard (σ me 2) b).1 * 1103515245 + 12345) 8) 6 = 0 := by rw [← ez]; exact c46
        exact ih (n - 1) (by omega) (b + 1) (by omega) _ _ (by rw [fgN, if_neg c15]; show _ = ite _ _ _; rw [if_neg c46i, ← ef]) (by rw [fgN, if_neg c15, ← eσ33, eτ, b_up_up, b_up_s, upd_s])
      · refine v_iload_n h (i := 2) dX6_leftByFog_49 (q := 50) rfl rfl 1 rfl ?_
        refine v_iconst h (v := 1) dX6_leftByFog_50 (q := 51) rfl (by decide) ?_
        refine v_iload_n h (i := 3) dX6_leftByFog_51 (q := 52) rfl rfl 0 rfl ?_
        refine v_ishl h dX6_leftByFog_52 (q := 53) rfl ?_
        refine v_iconst h (v := -1) dX6_leftByFog_53 (q := 54) rfl (by decide) ?_
        refine v_ixor h dX6_leftByFog_54 (q := 55) rfl ?_
        refine v_iand h dX6_leftByFog_55 (q := 56) rfl ?_
        refine v_istore_n h (i := 2) (ls1 := [(2, .int (f &&& ((1 <<< ((nI b) &&& 31)) ^^^ (-1)))), (3, .int (nI b)), (0, .ref (b_ad w me)), (1, .int heard)]) dX6_leftByFog_56 (q := 57) rfl rfl (Nat.le_of_ble_eq_true rfl) rfl ?_
        refine v_iinc h (p := 1) (u := nI (b + 1)) (ls1 := [(3, .int (nI (b + 1))), (2, .int (f &&& ((1 <<< ((nI b) &&& 31)) ^^^ (-1)))), (0, .ref (b_ad w me)), (1, .int heard)]) dX6_leftByFog_57 (q := 60) rfl rfl (nI_1 b) (Nat.le_of_ble_eq_true rfl) rfl ?_
        refine v_goto h (t := 4) dX6_leftByFog_60 (by decide) ?_
        have c46i : irm (ushr ((fgN heard (σ me 2) b).1 * 1103515245 + 12345) 8) 6 = 0 := by rw [← ez]; exact c46
        exact ih (n - 1) (by omega) (b + 1) (by omega) _ _ (by rw [fgN, if_neg c15]; show _ = ite _ _ _; rw [if_pos c46i, ← ef]) (by rw [fgN, if_neg c15, ← eσ33, eτ, b_up_up, b_up_s, upd_s])
    · refine v_goto h (t := 57) dX6_leftByFog_18 (by decide) ?_
      refine v_iinc h (p := 0) (u := nI (b + 1)) (ls1 := [(3, .int (nI (b + 1))), (2, .int f), (0, .ref (b_ad w me)), (1, .int heard)]) dX6_leftByFog_57 (q := 60) rfl rfl (nI_1 b) (Nat.le_of_ble_eq_true rfl) rfl ?_
      refine v_goto h (t := 4) dX6_leftByFog_60 (by decide) ?_
      exact ih (n - 1) (by omega) (b + 1) (by omega) _ _ (by rw [fgN, if_pos c15]; exact ef) (by rw [fgN, if_pos c15]; exact eτ)
set_option maxHeartbeats 4000000 in
set_option maxRecDepth 100000 in
theorem c_X6_leftByFog {w : bw} {σ : bSt} {me : Nat} {heard : Int32} (hs : sScene w me) : MV yX6_leftByFog cX6_leftByFog 4 (some .int) (rmm 0 0) w [.ref (b_ad w me), .int heard] σ (pI (fgN heard (σ me 2) 9).2 (b_up σ me 2 (fgN heard (σ me 2) 9).1)) := by
  refine b_met (ls := [(0, .ref (b_ad w me)), (1, .int heard)]) (by decide) (Nat.le_of_ble_eq_true rfl) rfl (fun x h => ?_)
  refine v_iload_n h (i := 1) dX6_leftByFog_0 (q := 1) rfl rfl 1 rfl ?_
  refine v_istore_n h (i := 2) (ls1 := [(2, .int heard), (0, .ref (b_ad w me)), (1, .int heard)]) dX6_leftByFog_1 (q := 2) rfl rfl (Nat.le_of_ble_eq_true rfl) rfl ?_
  refine v_iconst h (v := 0) dX6_leftByFog_2 (q := 3) rfl (by decide) ?_
  refine v_istore_n h (i := 3) (ls1 := [(3, .int 0), (2, .int heard), (0, .ref (b_ad w me)), (1, .int heard)]) dX6_leftByFog_3 (q := 4) rfl rfl (Nat.le_of_ble_eq_true rfl) rfl ?_
  exact lX6_leftByFog_4 hs h 9 0 rfl heard σ rfl (b_up_same rfl)
