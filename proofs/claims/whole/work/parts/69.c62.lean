/-! what stands at the start: classes, rows, statics, texts -/
theorem ao_ii {args : Array Value} {s : State} (h : (Cond.arrayOver (.array .int)).before args s = true) : ∃ (d c : ClassId) (k : Class), s.vm.findClass "[I" = some d ∧ s.vm.findClass "[[I" = some c ∧ s.vm.classes[c]? = some k ∧ k.kind = .array d (.array .int) := by
  have h : (Cond.arrayOver (.array .int)).holds args s none s [] = true := h
  simp only [Cond.holds, Cond.value, beq_iff_eq] at h
  have eI : (FieldType.array .int).toString = "[I" := rfl
  cases hd : s.vm.findClass (FieldType.array .int).toString with
  | none => simp [hd] at h
  | some d =>
    simp only [hd, Option.bind_some, Option.bind_eq_some_iff, Option.map_eq_some_iff] at h
    obtain ⟨c, g1, k, g2, g3⟩ := h
    obtain ⟨z1, z2, -⟩ := Array.findIdx?_eq_some_iff_getElem.mp g1
    rw [(Array.getElem?_eq_some_iff.mp g2).2] at z2
    cases hk : k.kind with
    | array d2 t2 =>
      rw [hk] at z2 g3
      simp at z2 g3
      exact ⟨d, c, k, hd, g3.2, g2, by rw [hk, z2, g3.1]⟩
    | _ => rw [hk] at g3; simp at g3
theorem st_in {args : Array Value} {s : State} (hts : ∀ w ∈ lw_tbl, w.before args s = true) {w : Cond} (h : w ∈ bGood) : w.before args s = true := hts w (List.mem_filter.mp h).1
theorem st_cls {args : Array Value} {s : State} (hts : ∀ w ∈ lw_tbl, w.before args s = true) : ∃ D : va_G, ∀ (k : Nat) (q : vw_C), vwCl[k]? = some q → u_Kn s q.1 q.2.1 q.2.2 (D.1 k) (D.2 k) := by
  have hg : ∀ w ∈ bGood, w.before args s = true := fun w h => st_in hts h
  obtain ⟨d0, f0, k0⟩ := u_known (C := RX0) (T := TX0) (N := 5) (n := 5) hg cls0.1 (hg _ m82)
  obtain ⟨d1, f1, k1⟩ := u_known (C := RX1) (T := TX1) (N := 4) (n := 4) hg cls1.1 (hg _ m146)
  obtain ⟨d2, f2, k2⟩ := u_known (C := RX2) (T := TX2) (N := 3) (n := 3) hg cls2.1 (hg _ m36)
  obtain ⟨d3, f3, k3⟩ := u_known (C := RX3) (T := TX3) (N := 5) (n := 5) hg cls3.1 (hg _ m30)
  obtain ⟨d4, f4, k4⟩ := u_known (C := RX4) (T := TX4) (N := 5) (n := 5) hg cls4.1 (hg _ m239)
  obtain ⟨d5, f5, k5⟩ := u_known (C := RX5) (T := TX5) (N := 5) (n := 5) hg cls5.1 (hg _ m213)
  obtain ⟨d6, f6, k6⟩ := u_known (C := RX6) (T := TX6) (N := 8) (n := 8) hg cls6.1 (hg _ m76)
  obtain ⟨d7, f7, k7⟩ := u_known (C := RX7) (T := TX7) (N := 3) (n := 3) hg cls7.1 (hg _ m170)
  obtain ⟨d8, f8, k8⟩ := u_known (C := RX8) (T := TX8) (N := 5) (n := 5) hg cls8.1 (hg _ m189)
  obtain ⟨d9, f9, k9⟩ := u_known (C := RX9) (T := TX9) (N := 14) (n := 14) hg cls9.1 (hg _ m22)
  obtain ⟨d10, f10, k10⟩ := u_known (C := RX10) (T := TX10) (N := 23) (n := 23) hg cls10.1 (hg _ m840)
  refine ⟨(fun k => [d0, d1, d2, d3, d4, d5, d6, d7, d8, d9, d10].getD k d0, fun k => [f0, f1, f2, f3, f4, f5, f6, f7, f8, f9, f10].getD k f0), fun k q hq => ?_⟩
  have hk : k < 11 := (List.getElem?_eq_some_iff.mp hq).1
  rcases (show k = 0 ∨ k = 1 ∨ k = 2 ∨ k = 3 ∨ k = 4 ∨ k = 5 ∨ k = 6 ∨ k = 7 ∨ k = 8 ∨ k = 9 ∨ k = 10 by omega) with rfl | rfl | rfl | rfl | rfl | rfl | rfl | rfl | rfl | rfl | rfl
  · cases hq; exact k0
  · cases hq; exact k1
  · cases hq; exact k2
  · cases hq; exact k3
  · cases hq; exact k4
  · cases hq; exact k5
  · cases hq; exact k6
  · cases hq; exact k7
  · cases hq; exact k8
  · cases hq; exact k9
  · cases hq; exact k10
theorem st_rows {args : Array Value} {s : State} (hts : ∀ w ∈ lw_tbl, w.before args s = true) {D : va_G} (hD : ∀ (k : Nat) (q : vw_C), vwCl[k]? = some q → u_Kn s q.1 q.2.1 q.2.2 (D.1 k) (D.2 k)) : ∃ kd : Nat → ClassId, va_K D vwCl [(kd 0, .int), (kd 1, .object "LagoonOpera$Sheet"), (kd 2, .array .int), (kd 3, .object "java/lang/String")] s ∧ va_AO "LagoonOpera$Sheet" s ∧ va_AO "java/lang/String" s ∧ bRR (kd 0) (kd 2) s := by
  obtain ⟨c0, K0, p0, a1, a2, a3⟩ := Cond.arrayClass_spec (args := args) (first := s) (o := none) (s := s) (idx := []) (st_in hts m52)
  have o1 := hts _ m169
  have o3 := hts _ m846
  obtain ⟨p1, c1, K1, b1, -, b2, b3, b4⟩ := Cond.arrayOver_spec (args := args) (first := s) (o := none) (s := s) (idx := []) o1
  obtain ⟨p3, c3, K3, e1, -, e2, e3, e4⟩ := Cond.arrayOver_spec (args := args) (first := s) (o := none) (s := s) (idx := []) o3
  obtain ⟨p2, c2, K2, f1, f2, f3, f4⟩ := ao_ii (hts _ m247)
  have z : p2 = c0 := Option.some.inj (f1.symm.trans a1)
  subst z
  refine ⟨fun k => if k = 0 then p2 else if k = 1 then c1 else if k = 2 then c2 else c3, ⟨hD, fun k q hk => ?_⟩, va_AO.of o1, va_AO.of o3, ⟨K2, f2, f3, f4⟩, K0, p0, a2, a3⟩
  have hk4 : k < 4 := (List.getElem?_eq_some_iff.mp hk).1
  rcases (show k = 0 ∨ k = 1 ∨ k = 2 ∨ k = 3 by omega) with rfl | rfl | rfl | rfl
  · cases hk; exact ⟨fun n z => ⟨(fun k h => by cases h), K0, a2, p0, a3⟩, a1⟩
  · cases hk; exact ⟨fun n z => ⟨(fun k h => by cases h), K1, b2, p1, b3⟩, K1, p1, b2, b3, b1, b4⟩
  · cases hk; exact ⟨fun n z => ⟨(fun k h => by cases h), K2, f3, p2, f4⟩, f2⟩
  · cases hk; exact ⟨fun n z => ⟨(fun k h => by cases h), K3, e2, p3, e3⟩, K3, p3, e2, e3, e1, e4⟩
theorem st_nest {args : Array Value} {s : State} (hts : ∀ w ∈ lw_tbl, w.before args s = true) : ∀ q ∈ bNl, va_Nw q s := fun q hq => by
  have hb := (List.mem_filter.mp hq).2
  have h1 := hts q (List.mem_filter.mp hq).1
  cases q <;> first | exact va_Nw.of rfl h1 | exact absurd hb (by simp [bNest])
set_option maxRecDepth 100000 in
theorem st_ka {args : Array Value} {s : State} (hts : ∀ w ∈ lw_tbl, w.before args s = true) (hn : ∀ w ∈ flatC (Jvm.Cond.and given_1 narrow_1), w.before args s = true) {A : Nat → Prop} (hA : ∀ a : Nat, a < s.heap.size → ¬ A a) : ∃ t : Nat, va_Z "LagoonOpera" "KIND_ABOVE" "[I" (.ref t) A s s.heap ∧ va_T .int t 7 (fun j => .int (b_tKA j)) A s s.heap := by
  obtain ⟨t, h1, h2⟩ := va_Tof (tm := .static "LagoonOpera" "KIND_ABOVE" "[I") (ty := .int) (N := 7) (f := fun j => .int (b_tKA j)) (A := A) (args := args) (by decide) (hn _ (by decide +kernel)) (va_eqt (hn _ (by decide +kernel))) (fun j hj => by
    rcases (show j = 0 ∨ j = 1 ∨ j = 2 ∨ j = 3 ∨ j = 4 ∨ j = 5 ∨ j = 6 by omega) with rfl | rfl | rfl | rfl | rfl | rfl | rfl <;> exact va_eqt (hn _ (by decide +kernel))) hA
  exact ⟨t, va_Zof (hts _ (tm2 (List.mem_of_getElem? (i := 131) rfl))) (st_in hts m1) h1 hA, h2⟩
set_option maxRecDepth 100000 in
theorem st_bo {args : Array Value} {s : State} (hts : ∀ w ∈ lw_tbl, w.before args s = true) (hn : ∀ w ∈ flatC (Jvm.Cond.and given_1 narrow_1), w.before args s = true) {A : Nat → Prop} (hA : ∀ a : Nat, a < s.heap.size → ¬ A a) : ∃ t : Nat, va_Z "LagoonOpera$Voices" "BODIES" "[I" (.ref t) A s s.heap ∧ va_T .int t 28 (fun j => .int (b_tBO j)) A s s.heap := by
  obtain ⟨t, h1, h2⟩ := va_Tof (tm := .static "LagoonOpera$Voices" "BODIES" "[I") (ty := .int) (N := 28) (f := fun j => .int (b_tBO j)) (A := A) (args := args) (by decide) (hn _ (by decide +kernel)) (va_eqt (hn _ (by decide +kernel))) (fun j hj => by
    rcases (show j = 0 ∨ j = 1 ∨ j = 2 ∨ j = 3 ∨ j = 4 ∨ j = 5 ∨ j = 6 ∨ j = 7 ∨ j = 8 ∨ j = 9 ∨ j = 10 ∨ j = 11 ∨ j = 12 ∨ j = 13 ∨ j = 14 ∨ j = 15 ∨ j = 16 ∨ j = 17 ∨ j = 18 ∨ j = 19 ∨ j = 20 ∨ j = 21 ∨ j = 22 ∨ j = 23 ∨ j = 24 ∨ j = 25 ∨ j = 26 ∨ j = 27 by omega) with rfl | rfl | rfl | rfl | rfl | rfl | rfl | rfl | rfl | rfl | rfl | rfl | rfl | rfl | rfl | rfl | rfl | rfl | rfl | rfl | rfl | rfl | rfl | rfl | rfl | rfl | rfl | rfl <;> exact va_eqt (hn _ (by decide +kernel))) hA
  exact ⟨t, va_Zof (hts _ (tm4 (List.mem_of_getElem? (i := 12) rfl))) (st_in hts m9) h1 hA, h2⟩
set_option maxRecDepth 100000 in
theorem st_na {args : Array Value} {s : State} (hts : ∀ w ∈ lw_tbl, w.before args s = true) (hn : ∀ w ∈ flatC (Jvm.Cond.and given_1 narrow_1), w.before args s = true) {A : Nat → Prop} (hA : ∀ a : Nat, a < s.heap.size → ¬ A a) : ∃ t : Nat, va_Z "LagoonOpera$Reader" "NAMES" "[C" (.ref t) A s s.heap ∧ va_T .char t 6 (fun j => .int (b_tNA j)) A s s.heap := by
  obtain ⟨t, h1, h2⟩ := va_Tof (tm := .static "LagoonOpera$Reader" "NAMES" "[C") (ty := .char) (N := 6) (f := fun j => .int (b_tNA j)) (A := A) (args := args) (by decide) (hn _ (by decide +kernel)) (va_eqt (hn _ (by decide +kernel))) (fun j hj => by
    rcases (show j = 0 ∨ j = 1 ∨ j = 2 ∨ j = 3 ∨ j = 4 ∨ j = 5 by omega) with rfl | rfl | rfl | rfl | rfl | rfl <;> exact va_eqt (hn _ (by decide +kernel))) hA
  exact ⟨t, va_Zof (hts _ (tm3 (List.mem_of_getElem? (i := 47) rfl))) (st_in hts m10) h1 hA, h2⟩
theorem st_cs {args : Array Value} {s : State} (hts : ∀ w ∈ lw_tbl, w.before args s = true) (hn : ∀ w ∈ flatC (Jvm.Cond.and given_1 narrow_1), w.before args s = true) {A : Nat → Prop} (hA : ∀ a : Nat, a < s.heap.size → ¬ A a) : va_Z "java/lang/String" "COMPACT_STRINGS" "Z" (.int 1) A s s.heap := va_Zof (hts _ (tm5 (List.mem_of_getElem? (i := 150) rfl))) (st_in hts m16) (va_eqt (hn _ (by decide +kernel))) hA
theorem st_sf {args : Array Value} {s : State} (hts : ∀ w ∈ lw_tbl, w.before args s = true) (hn : ∀ w ∈ flatC (Jvm.Cond.and given_1 narrow_1), w.before args s = true) {A : Nat → Prop} (hA : ∀ a : Nat, a < s.heap.size → ¬ A a) : va_Zq "jdk/internal/util/Preconditions" "SIOOBE_FORMATTER" "Ljava/util/function/BiFunction;" A s s.heap := va_Zqof (hts _ (tm5 (List.mem_of_getElem? (i := 166) rfl))) (st_in hts m18) (hn _ (by decide +kernel)) hA
def tmS (i : Nat) : Term := .string "LagoonOperaModel" (if i = 0 then 27 else 29)
set_option maxRecDepth 100000 in
theorem st_tx {args : Array Value} {s : State} (hts : ∀ w ∈ lw_tbl, w.before args s = true) (hn : ∀ w ∈ flatC (Jvm.Cond.and given_1 narrow_1), w.before args s = true) {A : Nat → Prop} (hA : ∀ a : Nat, a < s.heap.size → ¬ A a) : ∃ adK adV : Nat → Nat, vk_S 2 [3, 3] [[100, 115, 116], [110, 105, 116]] adK adV A s s.heap ∧ vk_R "LagoonOperaModel" 27 "dst" (adK 0) s ∧ vk_R "LagoonOperaModel" 29 "nit" (adK 1) s := by
  obtain ⟨adK, adV, h1, h2⟩ := vk_Sof (args := args) (s := s) (N := 2) (tm := tmS) (len := [3, 3]) (byt := [[100, 115, 116], [110, 105, 116]]) (A := A)
    (fun i hi => by rcases (show i = 0 ∨ i = 1 by omega) with rfl | rfl <;> decide)
    (fun i hi => by rcases (show i = 0 ∨ i = 1 by omega) with rfl | rfl <;> exact hn _ (by decide +kernel))
    (fun i hi => by rcases (show i = 0 ∨ i = 1 by omega) with rfl | rfl <;> exact hn _ (by decide +kernel))
    (fun i hi => by rcases (show i = 0 ∨ i = 1 by omega) with rfl | rfl <;> exact hn _ (by decide +kernel))
    (fun i hi => by rcases (show i = 0 ∨ i = 1 by omega) with rfl | rfl <;> exact hn _ (by decide +kernel))
    (fun i hi j hj => by
      have h3 : ∀ i : Nat, i < 2 → ([3, 3] : List Nat).getD i 0 = 3 := by decide
      rw [h3 i hi] at hj
      rcases (show i = 0 ∨ i = 1 by omega) with rfl | rfl <;> rcases (show j = 0 ∨ j = 1 ∨ j = 2 by omega) with rfl | rfl | rfl <;> exact hn _ (by decide +kernel))
    (fun i j hi hj hij => by
      rcases (show (i = 0 ∧ j = 1) ∨ (i = 1 ∧ j = 0) by omega) with ⟨rfl, rfl⟩ | ⟨rfl, rfl⟩
      · exact Or.inl (hn _ (by decide +kernel))
      · exact Or.inr (hn _ (by decide +kernel))) hA
  exact ⟨adK, adV, h1, vk_R.of (A := args) (hts _ (tm4 (List.mem_of_getElem? (i := 127) rfl))) (by have := h2 0 (by decide); exact this), vk_R.of (A := args) (hts _ (tm4 (List.mem_of_getElem? (i := 128) rfl))) (by have := h2 1 (by decide); exact this)⟩
/-- all of it -/
theorem st_all {args : Array Value} {s : State} (hts : ∀ w ∈ lw_tbl, w.before args s = true) (hn : ∀ w ∈ flatC (Jvm.Cond.and given_1 narrow_1), w.before args s = true) : ∃ (D : va_G) (kd : Nat → ClassId) (ad : bAd), bKN D kd ad s.heap.size s := by
  have hA : ∀ a : Nat, a < s.heap.size → ¬ nA s.heap.size a := fun a h z => absurd h (Nat.not_lt.mpr z)
  obtain ⟨D, hD⟩ := st_cls hts
  obtain ⟨kd, h1, h4, h5, h6⟩ := st_rows hts hD
  obtain ⟨t1, s1, s2⟩ := st_ka hts hn hA
  obtain ⟨t2, s3, s4⟩ := st_bo hts hn hA
  obtain ⟨t3, s5, s6⟩ := st_na hts hn hA
  obtain ⟨adK, adV, x1, x2, x3⟩ := st_tx hts hn hA
  obtain ⟨ad, ead⟩ : ∃ ad : bAd, ad = fun j => if j = 1000 then t1 else if j = 1001 then t2 else if j = 1002 then t3 else if j < 1020 then adK (j - 1010) else adV (j - 1020) := ⟨_, rfl⟩
  have g0 : ad 1000 = t1 := by rw [ead]; rfl
  have g1 : ad 1001 = t2 := by rw [ead]; rfl
  have g2 : ad 1002 = t3 := by rw [ead]; rfl
  have gK : ∀ i, i < 2 → ad (1010 + i) = adK i := fun i hi => by
    rw [ead]
    show (if 1010 + i = 1000 then t1 else if 1010 + i = 1001 then t2 else if 1010 + i = 1002 then t3 else if 1010 + i < 1020 then adK (1010 + i - 1010) else adV (1010 + i - 1020)) = _
    rw [if_neg (by omega), if_neg (by omega), if_neg (by omega), if_pos (by omega), show 1010 + i - 1010 = i by omega]
  have gV : ∀ i, i < 2 → ad (1020 + i) = adV i := fun i hi => by
    rw [ead]
    show (if 1020 + i = 1000 then t1 else if 1020 + i = 1001 then t2 else if 1020 + i = 1002 then t3 else if 1020 + i < 1020 then adK (1020 + i - 1010) else adV (1020 + i - 1020)) = _
    rw [if_neg (by omega), if_neg (by omega), if_neg (by omega), if_neg (by omega), show 1020 + i - 1020 = i by omega]
  refine ⟨D, kd, ad, h1, st_nest hts, ⟨by rw [g0]; exact s1, by rw [g0]; exact s2, by rw [g1]; exact s3, by rw [g1]; exact s4, by rw [g2]; exact s5, by rw [g2]; exact s6, st_cs hts hn hA, st_sf hts hn hA, ⟨fun i hi => ?_, fun i j hi hj hij => ?_⟩⟩, h4, h5, h6, by rw [show ad 1010 = adK 0 from gK 0 (by decide)]; exact x2, by rw [show ad 1011 = adK 1 from gK 1 (by decide)]; exact x3⟩
  · have := x1.1 i hi
    rw [← gK i hi, ← gV i hi] at this
    exact this
  · have hij : ad (1010 + i) = ad (1010 + j) := hij
    rw [gK i hi, gK j hj] at hij
    exact x1.2 i j hi hj hij
