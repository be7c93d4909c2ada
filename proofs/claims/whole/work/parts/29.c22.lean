/-- a sheet, or none -/
def pS (w : bw) (s : Int32) (σ : bSt) : Option Value → bSt → Prop := fun v σ' => σ' = σ ∧ ((∃ u, u < 4 ∧ s = nI u ∧ v = some (.ref (b_ad w (44 + 2 * u)))) ∨ (¬ inN s 4 ∧ v = some .null))
theorem kS {x : bX} {w : bw} {nL : Nat} {post : Option Value → bSt → Prop} {q : Nat} {ls : List (Nat × Value)} {rest : List Value} {σ : bSt} {s : Int32} (a : ∀ u, u < 4 → s = nI u → V x w nL post q ls (.ref (b_ad w (44 + 2 * u)) :: rest) σ) (b : ¬ inN s 4 → V x w nL post q ls (.null :: rest) σ) : ∀ (v : Option Value) (σ' : bSt), pS w s σ v σ' → V x w nL post q ls (v.toList ++ rest) σ' := by
  rintro v σ' ⟨rfl, ⟨u, h1, h2, rfl⟩ | ⟨h, rfl⟩⟩
  · exact a u h1 h2
  · exact b h
def setS (A : bA) (s : Nat) (p : Int32 × Nat × (Nat → Int32)) : bA := (A.1, A.2.1, A.2.2.1, A.2.2.2.1, A.2.2.2.2.1, fun t => if t = s then p else A.2.2.2.2.2 t)
theorem RC.sheet {σ τ : bSt} {A : bA} {s : Nat} {p : Int32 × Nat × (Nat → Int32)} (h : RC σ A) (hs : s < 4) (ho : ∀ j, j ≠ 44 + 2 * s → j ≠ 45 + 2 * s → τ j = σ j) (h1 : τ (44 + 2 * s) 0 = p.1) (h2 : bitsOK p.1) (h3 : τ (44 + 2 * s) 1 = nI p.2.1) (h4 : p.2.1 ≤ 40) (h5 : p.1 = 0 → p.2.1 = 0) (h6 : ∀ k, k < 40 → τ (45 + 2 * s) k = wrS p.1 (p.2.2 k)) : RC τ (setS A s p) := by
  obtain ⟨g1, g2, g3, g4, g5, g6, g7, g8⟩ := h
  refine ⟨g1.at ⟨fun j a b => ho j (by omega) (by omega), fun j a b c => ho j (by omega) (by omega), fun j a b => ho j (by omega) (by omega)⟩, cacheOK_at g2 (fun j a b _ _ => ho j (by omega) (by omega)), by rw [ho 0 (by omega) (by omega)]; exact g3,
    fun z => (g4 z).at ⟨fun j a b => ho j (by omega) (by omega), fun j a b c => ho j (by omega) (by omega), fun j a b => ho j (by omega) (by omega)⟩, by rw [ho 54 (by omega) (by omega)]; exact g5, by rw [ho 52 (by omega) (by omega), ho 53 (by omega) (by omega)]; exact g6, fun t ht => ?_, g8.at (fun j a b => ho j (by omega) (by omega))⟩
  show _ = (if t = s then p else _).1 ∧ bitsOK (if t = s then p else _).1 ∧ _ = nI (if t = s then p else _).2.1 ∧ (if t = s then p else _).2.1 ≤ 40 ∧ ((if t = s then p else _).1 = 0 → (if t = s then p else _).2.1 = 0) ∧ ∀ k, k < 40 → _ = wrS (if t = s then p else _).1 ((if t = s then p else _).2.2 k)
  by_cases e : t = s
  · subst e
    rw [if_pos rfl]
    exact ⟨h1, h2, h3, h4, h5, h6⟩
  · rw [if_neg e]
    obtain ⟨a1, a2, a3, a4, a5, a6⟩ := g7 t ht
    exact ⟨by rw [ho _ (by omega) (by omega)]; exact a1, a2, by rw [ho _ (by omega) (by omega)]; exact a3, a4, a5, fun k hk => by rw [ho _ (by omega) (by omega)]; exact a6 k hk⟩
theorem RC.sh {σ : bSt} {A : bA} (h : RC σ A) {s : Nat} (hs : s < 4) : σ (44 + 2 * s) 0 = (A.2.2.2.2.2 s).1 ∧ bitsOK (A.2.2.2.2.2 s).1 ∧ σ (44 + 2 * s) 1 = nI (A.2.2.2.2.2 s).2.1 ∧ (A.2.2.2.2.2 s).2.1 ≤ 40 ∧ ((A.2.2.2.2.2 s).1 = 0 → (A.2.2.2.2.2 s).2.1 = 0) ∧ ∀ k, k < 40 → σ (45 + 2 * s) k = wrS (A.2.2.2.2.2 s).1 ((A.2.2.2.2.2 s).2.2 k) := h.2.2.2.2.2.2.1 s hs
/-- a number as a sheet of so many bits holds it -/
def seS (bits v : Int32) : Int32 := if bits = 8 then v.toInt8.toInt32 else if bits = 16 then v.toInt16.toInt32 else v
def oSheet (s b n : Int32) (A : bA) : Int32 × bA :=
  if inN s 4 ∧ (b = 0 ∨ b = 8 ∨ b = 16 ∨ b = 32) then (if ¬ b = 0 ∧ ¬ 0 ≤ n then refA 3 A else if ¬ b = 0 ∧ ¬ n ≤ 40 then refA 1 A else (1, setS A (cl s) (b, if b = 0 then 0 else cl n, fun _ => 0))) else refA 1 A
def shA (A : bA) (s : Int32) : Int32 × Nat × (Nat → Int32) := A.2.2.2.2.2 (cl s)
def oPut (s i v : Int32) (A : bA) : Int32 × bA :=
  if inN s 4 then (if (shA A s).1 = 0 then refA 2 A else if inN i (shA A s).2.1 then (1, setS A (cl s) ((shA A s).1, (shA A s).2.1, upd (shA A s).2.2 (cl i) (seS (shA A s).1 v))) else refA 1 A) else refA 1 A
def oVoice (b act v : Int32) (A : bA) : Int32 × bA :=
  if inN b (afN A.1.1) ∧ wj act 0 3 then ((vE (cl (A.1.1 (12 + 4 * cl b))) b (A.1.1 (13 + 4 * cl b)) 8 (bdN (cl (A.1.1 (12 + 4 * cl b))) (cl act)) v (0, A.2.2.2.2.1.2)).1, (A.1, A.2.1, A.2.2.1, A.2.2.2.1, (vE (cl (A.1.1 (12 + 4 * cl b))) b (A.1.1 (13 + 4 * cl b)) 8 (bdN (cl (A.1.1 (12 + 4 * cl b))) (cl act)) v (0, A.2.2.2.2.1.2)).2, A.2.2.2.2.2)) else refA 1 A

set_option maxHeartbeats 4000000 in
set_option maxRecDepth 100000 in
theorem c_X9_sheetOf {w : bw} {σ : bSt} {s : Int32} (hs : sOpera w) : MV yX9_sheetOf cX9_sheetOf 2 (some (Jvm.ClassFile.FieldType.object "LagoonOpera$Sheet")) (rmm 0 0) w [.ref (b_ad w 0), .int s] σ (pS w s σ) := by
  refine b_met (ls := [(0, .ref (b_ad w 0)), (1, .int s)]) (by decide) (Nat.le_of_ble_eq_true rfl) rfl (fun x h => ?_)
  refine v_iload_n h (i := 1) dX9_sheetOf_0 (q := 1) rfl rfl 1 rfl ?_
  refine v_if_lt h (t := 27) dX9_sheetOf_1 (by decide) (q := 4) rfl (fun c1 => ?_) (fun c1 => ?_)
  · refine v_null h dX9_sheetOf_27 (q := 28) rfl ?_
    exact v_aret h (by first | exact Or.inl ⟨_, rfl⟩ | exact Or.inr ⟨_, rfl⟩) (Or.inl rfl) dX9_sheetOf_28 ⟨rfl, Or.inr ⟨fun z => by first | exact absurd z.1 (by rw [i_lt] at c1; have : (0 : Int32).toInt = 0 := rfl; omega) | exact absurd z.2 (by rw [i_le] at c6; have : (4 : Int32).toInt = 4 := rfl; omega), rfl⟩⟩
  · refine v_iload_n h (i := 1) dX9_sheetOf_4 (q := 5) rfl rfl 1 rfl ?_
    refine v_iconst h (v := 4) dX9_sheetOf_5 (q := 6) rfl (by decide) ?_
    refine v_icmp_ge h (t := 27) dX9_sheetOf_6 (by decide) (q := 9) rfl (fun c6 => ?_) (fun c6 => ?_)
    · refine v_null h dX9_sheetOf_27 (q := 28) rfl ?_
      exact v_aret h (by first | exact Or.inl ⟨_, rfl⟩ | exact Or.inr ⟨_, rfl⟩) (Or.inl rfl) dX9_sheetOf_28 ⟨rfl, Or.inr ⟨fun z => by first | exact absurd z.1 (by rw [i_lt] at c1; have : (0 : Int32).toInt = 0 := rfl; omega) | exact absurd z.2 (by rw [i_le] at c6; have : (4 : Int32).toInt = 4 := rfl; omega), rfl⟩⟩
    · have hin : inN s 4 := ⟨by rw [i_lt] at c1; have : (0 : Int32).toInt = 0 := rfl; omega, by rw [i_le] at c6; have : (4 : Int32).toInt = 4 := rfl; omega⟩
      refine v_iload_n h (i := 1) dX9_sheetOf_9 (q := 10) rfl rfl 1 rfl ?_
      refine v_aload_n h (i := 0) dX9_sheetOf_10 (q := 11) rfl rfl 0 rfl ?_
      refine v_get h (k := 7) (v := .ref (b_ad w 43)) cls9 hs.1.1 hs.1.2 (Nat.le_of_ble_eq_true rfl) m272 rfl dX9_sheetOf_11 (q := 14) rfl ?_
      refine v_alenr h (v := 4) hs.2.2.2.2.2.2.2.1.1 hs.2.2.2.2.2.2.2.1.2 rfl rfl dX9_sheetOf_14 (q := 15) rfl ?_
      refine v_icmp_ge h (t := 27) dX9_sheetOf_15 (by decide) (q := 18) rfl (fun c15 => absurd c15 (by obtain ⟨u, hu, e⟩ := inN_nI hin; rw [e]; exact nnle (k := 4) rfl hu (by decide))) (fun c15 => ?_)
      obtain ⟨u, hu, rfl⟩ := inN_nI hin
      refine v_aload_n h (i := 0) dX9_sheetOf_18 (q := 19) rfl rfl 0 rfl ?_
      refine v_get h (k := 7) (v := .ref (b_ad w 43)) cls9 hs.1.1 hs.1.2 (Nat.le_of_ble_eq_true rfl) m272 rfl dX9_sheetOf_19 (q := 22) rfl ?_
      refine v_iload_n h (i := 1) dX9_sheetOf_22 (q := 23) rfl rfl 1 rfl ?_
      refine v_aald h (cA := 0) (j2 := 44 + 2 * u) (ty := .object "LagoonOpera$Sheet") hs.2.2.2.2.2.2.2.1.1 hs.2.2.2.2.2.2.2.1.2 rfl rfl (vp_in_nI hu (by decide)) (by rw [nI_clamp (by omega)]; rfl) dX9_sheetOf_23 (q := 24) rfl ?_
      refine v_goto h (t := 28) dX9_sheetOf_24 (by decide) ?_
      exact v_aret h (by first | exact Or.inl ⟨_, rfl⟩ | exact Or.inr ⟨_, rfl⟩) (Or.inr ⟨_, rfl⟩) dX9_sheetOf_28 ⟨rfl, Or.inl ⟨u, hu, rfl, rfl⟩⟩
