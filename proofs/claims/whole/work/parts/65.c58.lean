/-! the two worlds when they are new -/
def sL1 : List bS := [.inr (9, 14, rOpera), .inr (3, 5, rLaws 1), .inl (.inl 4), .inr (2, 3, rFormula 3), .inl (.inl 50), .inl (.inl 50), .inr (2, 3, rFormula 6), .inl (.inl 50), .inl (.inl 50), .inl (.inl 2304), .inr (6, 8, rScene 10), .inr (0, 5, rBoats 11), .inl (.inl 9), .inl (.inl 9), .inl (.inl 9), .inl (.inl 9), .inl (.inl 6), .inl (.inl 6), .inl (.inl 6), .inr (1, 4, rDesk 19), .inl (.inl 50), .inl (.inl 20), .inr (3, 5, rLaws 22), .inl (.inl 4), .inr (2, 3, rFormula 24), .inl (.inl 50), .inl (.inl 50), .inr (2, 3, rFormula 27), .inl (.inl 50), .inl (.inl 50), .inl (.inl 2304), .inr (6, 8, rScene 31), .inr (0, 5, rBoats 32), .inl (.inl 9), .inl (.inl 9), .inl (.inl 9), .inl (.inl 9), .inl (.inl 6), .inl (.inl 6), .inl (.inl 6), .inr (1, 4, rDesk 40), .inl (.inl 50), .inl (.inl 20), .inl (.inr (1, 4, rSheets)), .inr (7, 3, rSheet 44), .inl (.inl 40), .inr (7, 3, rSheet 46), .inl (.inl 40), .inr (7, 3, rSheet 48), .inl (.inl 40), .inr (7, 3, rSheet 50), .inl (.inl 40), .inr (8, 5, rVoices 52), .inl (.inl 40), .inl (.inl 6), .inr (5, 5, rReader 55), .inr (2, 3, rFormula 56), .inl (.inl 50), .inl (.inl 50), .inl (.inl 50), .inr (6, 8, rScene 60), .inr (0, 5, rBoats 61), .inl (.inl 9), .inl (.inl 9), .inl (.inl 9), .inl (.inl 9), .inl (.inl 6), .inl (.inl 6), .inl (.inl 6), .inr (4, 5, rOutlook 69), .inr (0, 5, rBoats 70), .inl (.inl 9), .inl (.inl 9), .inl (.inl 9), .inl (.inl 9), .inl (.inl 129), .inl (.inr (2, 129, rRows 69))]
def sL2 : List bS := [.inr (10, 23, rModel), .inl (.inl 240), .inl (.inl 240), .inl (.inl 240), .inl (.inl 6), .inl (.inl 2560), .inl (.inr (3, 2, rNamed)), .inl (.inl 60), .inl (.inl 4), .inl (.inl 60), .inl (.inl 64), .inl (.inl 40), .inl (.inl 4), .inl (.inl 4), .inl (.inl 160), .inl (.inl 40)]
def sh1 : Nat → bS := fun j => if j = 206 then .inl (.inl 64) else sL1.getD j (.inl (.inl 9))
def sh2 : Nat → bS := fun j => sL2.getD j (.inl (.inl 0))
/-- the place of a cell in the order in which they are made -/
def ord1 (j : Nat) : Nat := if j = 75 then 205 else if 76 ≤ j ∧ j ≤ 205 then j - 1 else j
def wo1 (D : va_G) (kd : Nat → ClassId) (a ad : bAd) : bw := (D, kd, (fun j => if j < 1000 then a (ord1 j) else ad j), sh1, 207)
def wo2 (D : va_G) (kd : Nat → ClassId) (a ad : bAd) : bw := (D, kd, (fun j => if j < 1000 then a (207 + j) else ad j), sh2, 16)
section WZ
variable {D : va_G} {kd : Nat → ClassId} {a ad : bAd}
theorem sh1_row {i : Nat} (h : i < 129) : sh1 (77 + i) = .inl (.inl 9) := by
  unfold sh1
  rw [if_neg (by omega)]
  rw [List.getD_eq_getElem?_getD, List.getElem?_eq_none (by show 77 ≤ 77 + i; omega)]
  rfl
theorem w1_op : sOpera (wo1 D kd a ad) := by
  refine ⟨⟨Nat.le_of_ble_eq_true rfl, rfl⟩, ⟨⟨Nat.le_of_ble_eq_true rfl, rfl⟩, ⟨Nat.le_of_ble_eq_true rfl, rfl⟩, ⟨⟨Nat.le_of_ble_eq_true rfl, rfl⟩, ⟨Nat.le_of_ble_eq_true rfl, rfl⟩, ⟨Nat.le_of_ble_eq_true rfl, rfl⟩⟩, ⟨⟨Nat.le_of_ble_eq_true rfl, rfl⟩, ⟨Nat.le_of_ble_eq_true rfl, rfl⟩, ⟨Nat.le_of_ble_eq_true rfl, rfl⟩⟩, ⟨Nat.le_of_ble_eq_true rfl, rfl⟩⟩, ⟨⟨Nat.le_of_ble_eq_true rfl, rfl⟩, ⟨⟨Nat.le_of_ble_eq_true rfl, rfl⟩, ⟨Nat.le_of_ble_eq_true rfl, rfl⟩, ⟨Nat.le_of_ble_eq_true rfl, rfl⟩, ⟨Nat.le_of_ble_eq_true rfl, rfl⟩, ⟨Nat.le_of_ble_eq_true rfl, rfl⟩⟩, ⟨Nat.le_of_ble_eq_true rfl, rfl⟩, ⟨Nat.le_of_ble_eq_true rfl, rfl⟩, ⟨Nat.le_of_ble_eq_true rfl, rfl⟩⟩, ⟨⟨Nat.le_of_ble_eq_true rfl, rfl⟩, ⟨Nat.le_of_ble_eq_true rfl, rfl⟩, ⟨Nat.le_of_ble_eq_true rfl, rfl⟩⟩, ⟨⟨Nat.le_of_ble_eq_true rfl, rfl⟩, ⟨Nat.le_of_ble_eq_true rfl, rfl⟩, ⟨⟨Nat.le_of_ble_eq_true rfl, rfl⟩, ⟨Nat.le_of_ble_eq_true rfl, rfl⟩, ⟨Nat.le_of_ble_eq_true rfl, rfl⟩⟩, ⟨⟨Nat.le_of_ble_eq_true rfl, rfl⟩, ⟨Nat.le_of_ble_eq_true rfl, rfl⟩, ⟨Nat.le_of_ble_eq_true rfl, rfl⟩⟩, ⟨Nat.le_of_ble_eq_true rfl, rfl⟩⟩, ⟨⟨Nat.le_of_ble_eq_true rfl, rfl⟩, ⟨⟨Nat.le_of_ble_eq_true rfl, rfl⟩, ⟨Nat.le_of_ble_eq_true rfl, rfl⟩, ⟨Nat.le_of_ble_eq_true rfl, rfl⟩, ⟨Nat.le_of_ble_eq_true rfl, rfl⟩, ⟨Nat.le_of_ble_eq_true rfl, rfl⟩⟩, ⟨Nat.le_of_ble_eq_true rfl, rfl⟩, ⟨Nat.le_of_ble_eq_true rfl, rfl⟩, ⟨Nat.le_of_ble_eq_true rfl, rfl⟩⟩, ⟨⟨Nat.le_of_ble_eq_true rfl, rfl⟩, ⟨Nat.le_of_ble_eq_true rfl, rfl⟩, ⟨Nat.le_of_ble_eq_true rfl, rfl⟩⟩, ⟨Nat.le_of_ble_eq_true rfl, rfl⟩, fun i hi => ?_, ⟨⟨Nat.le_of_ble_eq_true rfl, rfl⟩, ⟨Nat.le_of_ble_eq_true rfl, rfl⟩⟩, ⟨Nat.le_of_ble_eq_true rfl, rfl⟩, ⟨⟨Nat.le_of_ble_eq_true rfl, rfl⟩, ⟨⟨Nat.le_of_ble_eq_true rfl, rfl⟩, ⟨Nat.le_of_ble_eq_true rfl, rfl⟩, ⟨Nat.le_of_ble_eq_true rfl, rfl⟩⟩, ⟨Nat.le_of_ble_eq_true rfl, rfl⟩⟩, ⟨⟨Nat.le_of_ble_eq_true rfl, rfl⟩, ⟨⟨Nat.le_of_ble_eq_true rfl, rfl⟩, ⟨Nat.le_of_ble_eq_true rfl, rfl⟩, ⟨Nat.le_of_ble_eq_true rfl, rfl⟩, ⟨Nat.le_of_ble_eq_true rfl, rfl⟩, ⟨Nat.le_of_ble_eq_true rfl, rfl⟩⟩, ⟨Nat.le_of_ble_eq_true rfl, rfl⟩, ⟨Nat.le_of_ble_eq_true rfl, rfl⟩, ⟨Nat.le_of_ble_eq_true rfl, rfl⟩⟩, ⟨⟨Nat.le_of_ble_eq_true rfl, rfl⟩, ⟨⟨Nat.le_of_ble_eq_true rfl, rfl⟩, ⟨Nat.le_of_ble_eq_true rfl, rfl⟩, ⟨Nat.le_of_ble_eq_true rfl, rfl⟩, ⟨Nat.le_of_ble_eq_true rfl, rfl⟩, ⟨Nat.le_of_ble_eq_true rfl, rfl⟩⟩, ⟨Nat.le_of_ble_eq_true rfl, rfl⟩, ⟨Nat.le_of_ble_eq_true rfl, rfl⟩, fun i hi => ⟨by show 69 + 8 + i < 207; omega, sh1_row hi⟩⟩, ⟨Nat.le_of_ble_eq_true rfl, rfl⟩⟩
  rcases (show i = 0 ∨ i = 1 ∨ i = 2 ∨ i = 3 by omega) with rfl | rfl | rfl | rfl <;> exact ⟨⟨Nat.le_of_ble_eq_true rfl, rfl⟩, ⟨Nat.le_of_ble_eq_true rfl, rfl⟩⟩
theorem w2_md : sModel (wo2 D kd a ad) := ⟨⟨Nat.le_of_ble_eq_true rfl, rfl⟩, ⟨Nat.le_of_ble_eq_true rfl, rfl⟩, ⟨Nat.le_of_ble_eq_true rfl, rfl⟩, ⟨Nat.le_of_ble_eq_true rfl, rfl⟩, ⟨Nat.le_of_ble_eq_true rfl, rfl⟩, ⟨Nat.le_of_ble_eq_true rfl, rfl⟩, ⟨Nat.le_of_ble_eq_true rfl, rfl⟩, ⟨Nat.le_of_ble_eq_true rfl, rfl⟩, ⟨Nat.le_of_ble_eq_true rfl, rfl⟩, ⟨Nat.le_of_ble_eq_true rfl, rfl⟩, ⟨Nat.le_of_ble_eq_true rfl, rfl⟩, ⟨Nat.le_of_ble_eq_true rfl, rfl⟩, ⟨Nat.le_of_ble_eq_true rfl, rfl⟩, ⟨Nat.le_of_ble_eq_true rfl, rfl⟩, ⟨Nat.le_of_ble_eq_true rfl, rfl⟩, ⟨Nat.le_of_ble_eq_true rfl, rfl⟩⟩
end WZ
/-- what stands in them -/
def s1z : bSt := fun j k => if (j = 1 ∨ j = 22) ∧ k = 0 then 2 else if (j = 10 ∨ j = 31 ∨ j = 60) ∧ k = 2 then 1 else if j = 9 ∨ j = 30 then -1 else 0
def s2z : bSt := fun j k => if j = 1 ∧ k = 1 then 2 else if j = 1 ∧ k = 11 then 1 else 0
def N0 : bN := fun k => if k = 1 then 2 else if k = 11 then 1 else 0
def D0 : bD := (N0, fun _ => (0, fun _ => 0), (0, fun _ => 0), (0, fun _ => 0))
def A0 : bA := (D0, D0, 0, fun _ => 0, (0, fun _ => 0), fun _ => (0, 0, fun _ => 0))
theorem N0_iv : IvB N0 := by
  have hz : ∀ k, k ≠ 1 → k ≠ 11 → N0 k = 0 := fun k h1 h2 => (if_neg h1).trans (if_neg h2)
  refine ⟨⟨⟨0, by decide, rfl⟩, ⟨2, by decide, by decide, rfl⟩, fun p hp => ⟨0, by decide, hz _ (by omega) (by omega)⟩, ⟨0, by decide, rfl⟩, ⟨0, by decide, rfl⟩, ⟨0, by decide, rfl⟩, fun b hb => ⟨⟨0, by decide, hz _ (by omega) (by omega)⟩, ⟨0, by decide, hz _ (by omega) (by omega)⟩, ⟨0, by decide, hz _ (by omega) (by omega)⟩⟩, fun l hl => ⟨⟨0, by decide, hz _ (by omega) (by omega)⟩, ⟨0, by decide, hz _ (by omega) (by omega)⟩, ⟨0, by decide, hz _ (by omega) (by omega)⟩⟩⟩, 0, by decide, rfl⟩
theorem okT0 : okT ((0, fun _ => 0) : Nat × (Nat → Int32)) := ⟨⟨by decide, fun h => absurd h (by decide), fun i hi => absurd hi (Nat.not_lt_zero i)⟩, fun k hk => absurd hk (Nat.not_lt_zero k)⟩
theorem s1z_0 {j k : Nat} (h : ¬ (j = 1 ∨ j = 22)) (h2 : ¬ (j = 10 ∨ j = 31 ∨ j = 60)) (h3 : ¬ (j = 9 ∨ j = 30)) : s1z j k = 0 := by
  unfold s1z
  rw [if_neg (fun z => h z.1), if_neg (fun z => h2 z.1), if_neg h3]
theorem vw0 : vw s1z 10 1 = N0 := by
  have e10 : ∀ k, k ≠ 2 → s1z 10 k = 0 := fun k h => by
    unfold s1z
    rw [if_neg (fun z => absurd z.1 (by decide)), if_neg (fun z => h z.2), if_neg (by decide)]
  funext k
  unfold vw N0
  by_cases c0 : k = 0
  · subst c0; exact e10 0 (by decide)
  · rw [if_neg c0]
    by_cases c1 : k = 1
    · subst c1; rfl
    · rw [if_neg c1, if_neg c1]
      by_cases c2 : k < 6
      · rw [if_pos c2, if_neg (by omega)]; exact s1z_0 (j := 2) (by decide) (by decide) (by decide)
      · rw [if_neg c2]
        by_cases c3 : k = 6
        · subst c3; exact e10 1 (by decide)
        · rw [if_neg c3]
          by_cases c4 : k = 7
          · subst c4; exact s1z_0 (j := 11) (k := 0) (by decide) (by decide) (by decide)
          · rw [if_neg c4]
            by_cases c5 : k = 8
            · subst c5; exact e10 4 (by decide)
            · rw [if_neg c5]
              by_cases c6 : k = 11
              · subst c6; rfl
              · rw [if_neg c6, if_neg c6]
                by_cases c7 : 12 ≤ k ∧ k < 48
                · rw [if_pos c7]; exact s1z_0 (by omega) (by omega) (by omega)
                · rw [if_neg c7]
                  by_cases c8 : 48 ≤ k ∧ k < 66
                  · rw [if_pos c8]; exact s1z_0 (by omega) (by omega) (by omega)
                  · rw [if_neg c8]
theorem RC0 : RC s1z A0 := by
  have z : ∀ j k, ¬ (j = 1 ∨ j = 22) → ¬ (j = 10 ∨ j = 31 ∨ j = 60) → ¬ (j = 9 ∨ j = 30) → s1z j k = 0 := fun j k a b c => s1z_0 a b c
  refine ⟨⟨vw0, N0_iv, fun u hu => ⟨z _ _ (by omega) (by omega) (by omega), okT0, fun k hk => absurd hk (Nat.not_lt_zero k)⟩, z _ _ (by decide) (by decide) (by decide), Nat.zero_le _, fun k hk => z _ _ (by decide) (by decide) (by decide), z _ _ (by decide) (by decide) (by decide), Nat.zero_le _, fun k hk => z _ _ (by decide) (by decide) (by decide)⟩,
    cacheOK_new (fun k => ?_), z _ _ (by decide) (by decide) (by decide), fun h => absurd rfl h, fun k hk => z _ _ (by decide) (by decide) (by decide), ⟨z _ _ (by decide) (by decide) (by decide), Nat.zero_le _, fun k hk => z _ _ (by decide) (by decide) (by decide)⟩, fun s hs => ⟨z _ _ (by omega) (by omega) (by omega), Or.inl rfl, z _ _ (by omega) (by omega) (by omega), Nat.zero_le _, fun _ => rfl, fun k hk => ?_⟩, fun j h1 h2 b hb => ⟨0, by decide, z _ _ (by omega) (by omega) (by omega)⟩⟩
  · unfold s1z
    rw [if_neg (fun z => absurd z.1 (by decide)), if_neg (fun z => absurd z.1 (by decide)), if_pos (by decide)]
  · rw [z _ _ (by omega) (by omega) (by omega)]
    exact (show (0 : Int32) = wrS 0 0 by decide)
theorem RQ0 : RQ s2z A0 := by
  have z : ∀ j k, j ≠ 1 → s2z j k = 0 := fun j k h => by
    unfold s2z
    rw [if_neg (fun q => h q.1), if_neg (fun q => h q.1)]
  have y : ∀ k, k ≠ 1 → k ≠ 11 → s2z 1 k = 0 := fun k h1 h2 => by
    unfold s2z
    rw [if_neg (fun q => h1 q.2), if_neg (fun q => h2 q.2)]
  have e : ∀ k, s2z 1 k = N0 k := fun k => by
    by_cases c1 : k = 1
    · subst c1; rfl
    · by_cases c2 : k = 11
      · subst c2; rfl
      · rw [y k c1 c2]; exact ((if_neg c1).trans (if_neg c2)).symm
  refine ⟨⟨fun k _ _ _ => e k, N0_iv, fun u hu => ⟨y _ (by omega) (by omega), okT0, fun k hk => absurd hk (Nat.not_lt_zero k)⟩, y _ (by decide) (by decide), Nat.zero_le _, fun k hk => y _ (by omega) (by omega), y _ (by decide) (by decide), Nat.zero_le _, fun k hk => y _ (by omega) (by omega)⟩,
    CM_0 (fun k hk => z _ _ (by decide)), z _ _ (by decide), fun h => absurd rfl h, fun k hk => z _ _ (by decide), ⟨z _ _ (by decide), Nat.zero_le _, fun k hk => z _ _ (by decide)⟩, fun s hs => ⟨z _ _ (by decide), Or.inl rfl, z _ _ (by decide), Nat.zero_le _, fun _ => rfl, fun k hk => ⟨z _ _ (by decide), ?_⟩⟩⟩
  exact (show seS 0 0 = 0 by decide)
