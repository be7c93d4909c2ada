section NR2
variable {x : bX} {D : va_G} {kd : Nat → ClassId} {ad : bAd} {B : Nat} {cc : ByteArray} {own : String} {nL : Nat} {rm : Room} {Q : State → Prop} {pc q : Nat} {ls : List (Nat × Value)} {st : List Value} {n : Nat} {a : bAd} {c : bC} {ce sl : Nat}
/-- a row of references -/
abbrev xQ (k : ClassId) (N : Nat) (f : Nat → Option Nat) : va_E := .inl (k, N, .inr (.inr (.inr (.inr f))))
theorem bKN.kq {s : State} {C : String} {i i2 : Nat} {k : ClassId} {tys : List (ClassId × FieldType)} {cA : ClassId} (hK : va_K D vwCl tys s) (hi : tys[i]? = some (cA, .object C)) (hi2 : tys[i2]? = some (k, .object C)) : cA = k := by
  obtain ⟨_, _, _, _, _, h1⟩ := (hK.2 i _ hi).2
  obtain ⟨_, _, _, _, _, h2⟩ := (hK.2 i2 _ hi2).2
  exact Option.some.inj (h1.symm.trans h2)
theorem n_anew (h : Cn x D kd ad B cc own nL rm) {C : String} {index N t0 : Nat} {z : Int32} (hcl : Cond.classLink own index C ∈ bGood) (ho : va_AO C x.2.2.2.2.1) (ht0 : ([(kd 0, .int), (kd 1, .object "LagoonOpera$Sheet"), (kd 2, .array .int), (kd 3, .object "java/lang/String")] : List (ClassId × FieldType))[t0]? = some (kd t0, .object C)) (ht4 : t0 < 4) (hn : ¬ z < 0) (hN : z.toNatClampNeg = N) (hb : N * 4 ≤ 536870912) (hce : ce + 1 ≤ rm.cells) (hsl : sl + N ≤ rm.slots) (hd : decode cc pc = .ok (.anewarray index, 3)) (e : pc + 3 = q)
    (kk : ∀ (t : Nat) (a' : bAd) (c' : bC), a' n = t → (∀ i, i < n → a' i = a i) → (∀ i, i < n → c' i = c i) → c' n = xQ (kd t0) N (fun _ => none) → VN x D B nL Q q ls (.ref t :: st) (n + 1) a' c' (ce + 1) (sl + N)) : VN x D B nL Q pc ls (.int z :: st) n a c ce sl := by
  subst e
  exact fun H lo l hP hD hS hL => va_newq h.1 h.2.1 h.ow (h.ok hcl) ho h.kn.1 hP hD hS h.hA hn hN hb (by rw [h.rq]; exact hce) (by rw [h.rq]; exact hsl) hd
    (fun t cA H1 hK1 hP1 hD1 hS1 => by
      have ec : cA = kd t0 := bKN.kq (i := 4) (i2 := t0) hK1 rfl (by rw [List.getElem?_append_left (by exact ht4)]; exact ht0)
      subst ec
      exact kk t _ _ xP_s (fun i hi => xP_n (by omega)) (fun i hi => xP_n (by omega)) xP_s H1 lo l (by rw [← nW_push]; exact hP1) (by rw [← nW_push]; exact hD1) hS1 hL)
/-- an object laid into a row -/
theorem n_aast (h : Cn x D kd ad B cc own nL rm) {j jv ci N t tv t0 : Nat} {r : vw_C} {vs : List Value} {f : Nat → Option Nat} {i : Int32} (hj : j < n) (ht : a j = t) (hcj : c j = xQ (kd t0) N f) (ht0 : ([(kd 0, .int), (kd 1, .object "LagoonOpera$Sheet"), (kd 2, .array .int), (kd 3, .object "java/lang/String")] : List (ClassId × FieldType))[t0]? = some (kd t0, .object r.1)) (hjv : jv < n) (htv : a jv = tv) (hcv : c jv = .inr (ci, vs)) (hc : vwCl[ci]? = some r) (hin : vp_in i N) (hd : decode cc pc = .ok (.aastore, 1)) (e : pc + 1 = q)
    (kk : ∀ c' : bC, (∀ i, i ≠ j → c' i = c i) → c' j = xQ (kd t0) N (va_up f i.toNatClampNeg (some tv)) → VN x D B nL Q q ls st n a c' ce sl) : VN x D B nL Q pc ls (.ref tv :: .int i :: .ref t :: st) n a c ce sl := by
  subst e
  subst ht
  subst htv
  exact fun H lo l hP hD hS hL => va_astq h.1 h.2.1 h.kn.1 hP hD hS j t0 jv ci (by rw [nW_get hj, hcj]) ht0 (by rw [nW_get hjv, hcv]) hc hin hd
    (fun H1 lo1 hP1 hD1 hS1 => kk _ (fun i hi => xP_n hi) xP_s H1 lo1 l (by rw [← nW_set hj]; exact hP1) (by rw [← nW_set hj]; exact hD1) hS1 hL)
/-- a text laid into a row -/
theorem n_aasts (h : Cn x D kd ad B cc own nL rm) {j N t s0 : Nat} {f : Nat → Option Nat} {i : Int32} (hs0 : s0 < 2) (hj : j < n) (ht : a j = t) (hcj : c j = xQ (kd 3) N f) (hin : vp_in i N) (hd : decode cc pc = .ok (.aastore, 1)) (e : pc + 1 = q)
    (kk : ∀ c' : bC, (∀ i, i ≠ j → c' i = c i) → c' j = xQ (kd 3) N (va_up f i.toNatClampNeg (some (ad (1010 + s0)))) → VN x D B nL Q q ls st n a c' ce sl) : VN x D B nL Q pc ls (.ref (ad (1010 + s0)) :: .int i :: .ref t :: st) n a c ce sl := by
  subst e
  subst ht
  intro H lo l hP hD hS hL
  have hO := (h.kn.2.2.1.2.2.2.2.2.2.2.2.1 s0 hs0).1
  obtain ⟨cell, g1, g2, g3, -⟩ := hO.kept hS.2.1
  obtain ⟨kC, hkC, -⟩ := Vm.findClass_spec g3
  exact va_astqM (E := "java/lang/String") h.1 h.2.1 h.kn.1 hP hD hS j 3 (by rw [nW_get hj, hcj]) rfl ⟨cell, g1, g2, ⟨kC, hkC⟩, fun comp hcomp => by rw [Option.some.inj (hcomp.symm.trans g3)]; exact va_asg _ _⟩ hin hd
    (fun H1 lo1 hP1 hD1 hS1 => kk _ (fun i hi => xP_n hi) xP_s H1 lo1 l (by rw [← nW_set hj]; exact hP1) (by rw [← nW_set hj]; exact hD1) hS1 hL)
theorem n_ldcs (h : Cn x D kd ad B cc own nL rm) {index t : Nat} {tx : String} (hr : vk_R own index tx t x.2.2.2.2.1) (hd : decode cc pc = .ok (.ldc index, 2)) (e : pc + 2 = q) (kk : VN x D B nL Q q ls (.ref t :: st) n a c ce sl) : VN x D B nL Q pc ls st n a c ce sl := by
  subst e
  exact fun H lo l hP hD hS hL => va_ldcS h.1 h.2.1 h.ow hr hd (kk H lo l hP hD hS hL)
/-- rows of rows -/
theorem n_grid (h : Cn x D kd ad B cc own nL rm) {index N M : Nat} {z y : Int32} (hcl : Cond.classLink own index "[[I" ∈ bGood) (hz : ¬ z < 0) (hy : ¬ y < 0) (hN : z.toNatClampNeg = N) (hM : y.toNatClampNeg = M) (l1 : N * 4 ≤ 536870912) (l2 : M * 4 ≤ 536870912) (hce : ce + (1 + N) ≤ rm.cells) (hsl : sl + (N + N * M) ≤ rm.slots) (hd : decode cc pc = .ok (.multianewarray index 2, 4)) (e : pc + 4 = q)
    (kk : ∀ (t : Nat) (a' : bAd) (c' : bC), a' n = t → (∀ i, i < n → a' i = a i) → (∀ i, i < n → c' i = c i) → c' n = xQ (kd 2) N (fun i => if i < N then some (a' (n + 1 + i)) else none) → (∀ i, i < N → c' (n + 1 + i) = .inl (kd 0, M, .inl (fun _ => 0))) → VN x D B nL Q q ls (.ref t :: st) (n + 1 + N) a' c' (ce + 1 + N) (sl + N + N * M)) : VN x D B nL Q pc ls (.int y :: .int z :: st) n a c ce sl := by
  subst e
  intro H lo l hP hD hS hL
  refine W.grid h.1 h.2.1 h.ow (h.ok hcl) h.kn.2.2.2.2.2.1 hz hy hN hM l1 l2 (by rw [h.rq]; exact hce) (by rw [h.rq]; exact hsl) hd (fun H1 g1 g2 g3 g4 => ?_)
  have hlt : ∀ i, i < n → a i < H.size := fun i hi => (hP i _ (nW_get hi)).lt
  obtain ⟨a', ea⟩ : ∃ a' : bAd, a' = fun i => if i < n then a i else H.size + (i - n) := ⟨_, rfl⟩
  obtain ⟨c', ec⟩ : ∃ c' : bC, c' = fun i => if i < n then c i else if i = n then xQ (kd 2) N (fun i => if i < N then some (a' (n + 1 + i)) else none) else .inl (kd 0, M, .inl (fun _ => 0)) := ⟨_, rfl⟩
  have a1 : ∀ i, i < n → a' i = a i := fun i hi => by rw [ea]; exact if_pos hi
  have a2 : ∀ i, ¬ i < n → a' i = H.size + (i - n) := fun i hi => by rw [ea]; exact if_neg hi
  have c1 : ∀ i, i < n → c' i = c i := fun i hi => by rw [ec]; exact if_pos hi
  have c2 : c' n = xQ (kd 2) N (fun i => if i < N then some (a' (n + 1 + i)) else none) := by rw [ec]; exact (if_neg (Nat.lt_irrefl n)).trans (if_pos rfl)
  have c3 : ∀ i, n < i → c' i = .inl (kd 0, M, .inl (fun _ => 0)) := fun i hi => by rw [ec]; exact (if_neg (by omega)).trans (if_neg (by omega))
  refine kk H.size a' c' (by rw [a2 n (Nat.lt_irrefl n)]; omega) a1 c1 c2 (fun i hi => c3 _ (by omega)) H1 _ l (fun k q9 hk => ?_) ⟨fun i j p1 p2 hi hj hpq => ?_, fun k q9 hk => ?_⟩ ⟨Nat.le_trans hS.1 (by omega), fun z9 z1 z2 => (g3 z9 (Nat.lt_of_lt_of_le z1 hS.1)).trans (hS.2.1 z9 z1 z2), fun l9 hl9 => ?_⟩ hL
  · obtain ⟨hk1, rfl⟩ := nW_inv hk
    by_cases z1 : k < n
    · rw [a1 k z1, c1 k z1]
      exact (hP k _ (nW_get z1)).kept (g3 _ (hlt k z1))
    · rw [a2 k z1]
      by_cases z2 : k = n
      · subst z2
        rw [c2, Nat.sub_self]
        show H1[H.size]? = some (vp_cell _ _)
        rw [g2, vp_cell_q]
        unfold grO
        refine congrArg (fun f => some (arrV (kd 2) N f)) (funext fun i => ?_)
        by_cases z3 : i < N
        · rw [if_pos z3, if_pos z3, a2 _ (by omega), show k + 1 + i - k = 1 + i by omega, Nat.add_assoc]
        · rw [if_neg z3, if_neg z3]
      · rw [c3 k (by omega), show H.size + (k - n) = H.size + 1 + (k - n - 1) by omega]
        show H1[_]? = some (vp_cell _ _)
        rw [g4 _ (by omega), vp_cell_i]
        rfl
  · obtain ⟨hi1, rfl⟩ := nW_inv hi
    obtain ⟨hj1, rfl⟩ := nW_inv hj
    have hpq : a' i = a' j := hpq
    by_cases z1 : i < n
    · by_cases z2 : j < n
      · rw [a1 i z1, a1 j z2] at hpq
        exact hD.1 i j _ _ (nW_get z1) (nW_get z2) hpq
      · rw [a1 i z1, a2 j z2] at hpq
        have := hlt i z1
        omega
    · by_cases z2 : j < n
      · rw [a2 i z1, a1 j z2] at hpq
        have := hlt j z2
        omega
      · rw [a2 i z1, a2 j z2] at hpq
        omega
  · obtain ⟨hk1, rfl⟩ := nW_inv hk
    by_cases z1 : k < n
    · show nA B (a' k)
      rw [a1 k z1]
      exact hD.2 k _ (nW_get z1)
    · show nA B (a' k)
      rw [a2 k z1]
      have := h.hA _ hS.1
      unfold nA at *
      omega
  · rcases List.mem_append.mp hl9 with z1 | z1
    · exact hS.2.2 l9 z1
    · obtain ⟨i, -, rfl⟩ := List.mem_map.mp z1
      exact h.hA _ hS.1
/-- a row of numbers is filled -/
theorem n_fill (h : Cn x D kd ad B cc own nL rm) {index j N t : Nat} {f : Nat → Int32} {v : Int32} (hl : Cond.methodLink own index yJ7_fill_53178 ∈ bGood) (hst : Cond.static yJ7_fill_53178 ∈ bGood) (hr : rm.frames ≥ 1 ∧ 40 ≤ rm.locals) (hce : ce ≤ rm.cells ∧ sl ≤ rm.slots) (hN : N < 2 ^ 31) (hj : j < n) (ht : a j = t) (hcj : c j = .inl (kd 0, N, .inl f)) (hcat : (st.map fun v => v.category).sum ≤ 8) (hd : decode cc pc = .ok (.invokestatic index, 3)) (e : pc + 3 = q)
    (kk : ∀ c' : bC, (∀ i, i ≠ j → c' i = c i) → c' j = .inl (kd 0, N, .inl (fun _ => v)) → VN x D B nL Q q ls st n a c' ce sl) : VN x D B nL Q pc ls (.int v :: .ref t :: st) n a c ce sl := by
  subst e
  subst ht
  intro H lo l hP hD hS hL
  obtain ⟨c0, hts⟩ := id h.2.2.1
  obtain ⟨w, ew⟩ : ∃ w : bw, w = (D, kd, (fun i => if i = 0 then a j else ad i), (fun _ => .inl (.inl N)), 1) := ⟨_, rfl⟩
  have w1 : w.1 = D := by rw [ew]
  have w2 : w.2.1 = kd := by rw [ew]
  have w3 : b_ad w 0 = a j := by rw [ew]; rfl
  have wK : b_K w = 1 := by rw [ew]; rfl
  have wsh : sI w 0 N := by rw [ew]; exact ⟨Nat.zero_lt_one, rfl⟩
  have hA : ∀ q, b_A w q → q = a j := fun q hq => by
    obtain ⟨i, hi, rfl⟩ := hq
    rw [wK] at hi
    rw [show i = 0 by omega, w3]
  have hAj : nA B (a j) := hD.2 j _ (nW_get hj)
  have hwl : ∀ g : bSt, b_wl w g = [(a j, .inl (kd 0, N, .inl (g 0)))] := fun g => by
    rw [ew]; rfl
  have hev : ∀ U : State, bKN D kd ad B U → b_EV w U := fun U hU => bKN.ev (ad := ad) (B := B) (by rw [w1, w2]; exact hU) (fun i hi => by rw [ew]; exact if_neg (by omega)) (fun p1 p2 h1 h2 _ => by rw [wK] at h1 h2; omega) (fun q hq => by rw [hA q hq]; exact hAj)
  have hM := c_J7_fill_53178 (w := w) (σ := fun _ => f) (j := 0) (n0 := N) (v := v) wsh hN
  rw [w3] at hM
  have hcal := cal_J7_fill_53178
  have hrun := va_runS (As := [.ref (a j), .int v]) (rest := st) (Ts := c0 :: bGood) (H := H) (locs := lo) (cells := ce) (slots := sl) (g := F0 x.2.2.2.2.2.1 pc l (.int v :: .ref (a j) :: st)) (n := 2) (index := index) (below := x.2.2.2.2.2.2.2.1) (e := x.2.2.1) (R := x.2.2.2.1) (meth := x.2.2.2.2.2.2.2.2.1) ⟨h.1, h.2.1, h.ml, h.ow, hts⟩ (hM x.2.1)
    ⟨callB_of (Ts := c0 :: bGood) 2 hts (bGoodIn (List.mem_filter.mp hcal.1).2 hcal.1) rfl rfl rfl (h.ok hcal.2.1) (h.ok hl) hcal.2.2 (by rw [h.rq]; exact ⟨hr.1, Nat.le_trans (Nat.le_of_ble_eq_true rfl) hr.2⟩), h.ok hst⟩
    ⟨PV_blind, fun U hU hW => ⟨rfl, by
      rw [hU, w1, hwl]
      intro k q9 hk
      have hk0 : k < 1 := (List.getElem?_eq_some_iff.mp hk).1
      rw [show k = 0 by omega] at hk
      cases hk
      have := hP j _ (nW_get hj)
      rw [hcj] at this
      exact this, hev U (bKN.mv hW (fun p1 p2 p3 => by rw [hU]; exact hS.2.1 p1 p2 p3) h.kn)⟩⟩ rfl rfl hL.1 rfl (lv_room hcat) hd ⟨by rw [h.rq]; exact hce.1, by rw [h.rq]; exact hce.2⟩
  · intro T hT X
    obtain ⟨v9, st₀, t, T', L, h0, X', hf, e1, e2, ⟨⟨v', σ', hv, hp, hb⟩, hz, hk⟩, st9⟩ := hrun T hT X
    cases hv
    obtain ⟨rfl, rfl⟩ := hp
    rw [h0] at hz hk
    rw [w1, hwl] at hb
    have hne : ∀ i, i < n → i ≠ j → T'.heap[a i]? = H[a i]? := fun i hi hij => by
      rw [e1]
      exact hk _ (hP i _ (nW_get hi)).lt (fun z => hij (hD.1 i j _ _ (nW_get hi) (nW_get hj) (hA _ z)))
    obtain ⟨t2, b1, b2⟩ := kk (xP c j (.inl (kd 0, N, .inl (fun _ => v)))) (fun i hi => xP_n hi) xP_s T'.heap (lo ++ L) l (fun k q9 hk9 => by
        obtain ⟨hk1, rfl⟩ := nW_inv hk9
        by_cases z : k = j
        · subst z
          rw [xP_s, e1]
          have := hb 0 _ rfl
          rw [b_set_s] at this
          exact this
        · rw [xP_n z]
          exact (hP k _ (nW_get hk1)).kept (hne k hk1 z)) ⟨fun i1 i2 p1 p2 g1 g2 g3 => by
        obtain ⟨k1, rfl⟩ := nW_inv g1
        obtain ⟨k2, rfl⟩ := nW_inv g2
        exact hD.1 i1 i2 _ _ (nW_get k1) (nW_get k2) g3, fun k q9 hk9 => by
        obtain ⟨hk1, rfl⟩ := nW_inv hk9
        exact (hD.2 k (a k, c k) (nW_get hk1) : nA B (a k))⟩
      ⟨Nat.le_trans hS.1 (by rw [e1]; exact hz), fun q9 z1 z2 => by rw [e1, hk q9 (Nat.lt_of_lt_of_le z1 hS.1) (fun z => z2 (by rw [hA _ z]; exact hAj))]; exact hS.2.1 q9 z1 z2, fun q9 hq9 => by
        rcases List.mem_append.mp hq9 with z | z
        · exact hS.2.2 q9 z
        · have := hf q9 z
          rw [hA _ this]
          exact hAj⟩ hL T' rfl X'
    exact ⟨t2, st9 t2 b1, b2⟩
end NR2

/-! a constructor's contract: its own cell is the last, behind it stand what it makes -/
def QN (D : va_G) (B n' : Nat) (post : bAd → bC → Prop) : Array Value → State → Outcome → State → Prop := fun _ st oc t => (∃ (a' : bAd) (c' : bC), oc = .returned none ∧ post a' c' ∧ va_P D vwCl (nW n' a' c') t.heap ∧ va_D (nA B) (nW n' a' c')) ∧ va_F (nA B) st t
def MN (y : MethodName) (cc : ByteArray) (rm : Room) (D : va_G) (kd : Nat → ClassId) (ad : bAd) (B : Nat) (a : bAd) (c : bC) (j n' mc ms : Nat) (post : bAd → bC → Prop) : Prop :=
  ∀ l : Launch, Met l y (Cond.code y cc 1 none :: bGood) rm (va_Pc [.ref (a j)] (fun U => va_P D vwCl (nW (j + 1) a c) U.heap ∧ va_D (nA B) (nW (j + 1) a c) ∧ B ≤ U.heap.size ∧ bKN D kd ad B U)) (QN D B n' post) mc ms (nA B)
/-- what stood before stands -/
def pK (k : bAd → Nat → bC → Prop) (j : Nat) (a : bAd) (c : bC) : bAd → bC → Prop := fun a' c' => (∀ i, i ≤ j → a' i = a i) ∧ (∀ i, i < j → c' i = c i) ∧ k a' j c'
abbrev VNQ (x : bX) (D : va_G) (B n' : Nat) (post : bAd → bC → Prop) (mc ms : Nat) : State → Prop := MQ x.2.2.2.2.2.2.2.1 (QN D B n' post) x.2.2.2.2.2.2.1 x.2.2.2.2.1 mc ms (nA B)
section NM
variable {D : va_G} {kd : Nat → ClassId} {ad : bAd} {B : Nat} {cc : ByteArray} {rm : Room} {j n' mc ms : Nat} {a : bAd} {c : bC} {post : bAd → bC → Prop}
theorem n_met {y : MethodName} (hy : plainName y.cls = true) (hn : y.name = "<init>")
    (body : ∀ x : bX, Cn x D kd ad B cc y.cls 1 rm → x.2.2.2.2.2.2.2.2.1.name = "<init>" → x.2.2.2.2.2.2.2.2.1.sig.returnType = none → x.2.2.2.2.2.2.2.2.1.locks = false → VN x D B 1 (VNQ x D B n' post mc ms) 0 [(0, .ref (a j))] [] (j + 1) a c 0 0) : MN y cc rm D kd ad B a c j n' mc ms post := by
  intro l
  refine Met.ofW (cc := cc) (maxL := 1) (ret := none) hy rfl ?_
  intro p e s m args below meth c9 s₁ B9 hml hv
  obtain ⟨rfl, hP, hD, hB, hE⟩ := hv
  have hts := atoms_spec (ws := Cond.code y cc 1 none :: bGood) B9.pre
  have hown : s.vm.findClass y.cls = some m.cls := findClass_of_methodNamed B9.named
  have hl := lv_entry [.ref (a j)] (n := 1) (Nat.le_of_ble_eq_true rfl)
  rw [lg_entry_eq]
  have key := body (p, l, e, rm, s, m, [.ref (a j)].toArray, below, meth, c9) ⟨B9.exec, B9.bytes, ⟨_, hts⟩, hown, hml, rfl, hE, hB⟩ ((name_of_methodNamed B9.named B9.method).1.trans hn) B9.returns B9.notSynchronized
  exact key s.heap [] _ hP hD va_S.rf hl
variable {x : bX} {own : String} {nL pc q : Nat} {ls : List (Nat × Value)} {st : List Value} {Q : State → Prop} {ce sl : Nat} {n : Nat}
theorem n_ret (h : Cn x D kd ad B cc own nL rm) (hr : x.2.2.2.2.2.2.2.2.1.sig.returnType = none) (hlk : x.2.2.2.2.2.2.2.2.1.locks = false) (hd : decode cc pc = .ok (.return_, 1)) (hp : post a c) : VN x D B nL (VNQ x D B n post ce sl) pc ls [] n a c ce sl :=
  fun H lo l hP hD hS hL => W.vret h.1 h.2.1 hr (fun t ht hW => ⟨⟨a, c, rfl, hp, by rw [ht]; exact hP, hD⟩, hS.F ht⟩) hS.2.2 hd hlk
theorem n_goes {p : Program} {l : Launch} {e : Env} {R : Room} {s : State} {m : MethodId} {args : Array Value} {below : List Frame} {meth : Method} {c9 : Code} {H : Heap} {locs : List Loc} {lo : Array Slot} {aa : Array Value} {st0 rest : List Value} {pc nL : Nat} {Q : State → Prop} {ls : List (Nat × Value)}
    (hr : va_Run p l e R s m args below meth c9 H locs ce sl mc ms (F0 m pc lo st0) rest (QN D B n' post aa) (nA B)) (hS : va_S (nA B) s.heap H locs) (hL : lv_has lo nL ls)
    (kk : ∀ (a' : bAd) (c' : bC), post a' c' → ∀ (H : Heap) (locs : List Loc) (lo : Array Slot), va_P D vwCl (nW n' a' c') H → va_D (nA B) (nW n' a' c') → va_S (nA B) s.heap H locs → lv_has lo nL ls → W p l e R s m args below meth c9 H locs (ce + mc) (sl + ms) Q (F0 m (pc + 3) lo rest)) : W p l e R s m args below meth c9 H locs ce sl Q (F0 m pc lo st0) := by
  intro T hT X
  obtain ⟨v, st₀, t, T', L, h0, X', hf, e1, e2, ⟨⟨a', c', hv, hp, hb, hD⟩, hz, hk⟩, st⟩ := hr T hT X
  cases hv
  rw [h0] at hz hk
  obtain ⟨t2, a1, b1⟩ := kk a' c' hp T'.heap (locs ++ L) lo (by rw [e1]; exact hb) hD
    ⟨Nat.le_trans hS.1 (by rw [e1]; exact hz), fun q h1 h2 => by rw [e1, hk q (Nat.lt_of_lt_of_le h1 hS.1) h2]; exact hS.2.1 q h1 h2, fun q hq => by
      rcases List.mem_append.mp hq with h | h
      · exact hS.2.2 q h
      · exact hf _ h⟩ hL T' rfl X'
  exact ⟨t2, st t2 a1, b1⟩
theorem n_preB {y : MethodName} (h : Cn x D kd ad B cc own nL rm) {H : Heap} {lo : List Loc} (hP : va_P D vwCl (nW (j + 1) a c) H) (hD : va_D (nA B) (nW (j + 1) a c)) (hS : va_S (nA B) x.2.2.2.2.1.heap H lo) : PreS x.2.2.2.2.1 H (va_Pc [.ref (a j)] (fun U => va_P D vwCl (nW (j + 1) a c) U.heap ∧ va_D (nA B) (nW (j + 1) a c) ∧ B ≤ U.heap.size ∧ bKN D kd ad B U)) [.ref (a j)] :=
  ⟨fun _ U g mk hq => ⟨hq.1, hq.2.1, hq.2.2.1, hq.2.2.2.1, hq.2.2.2.2.call⟩, fun U hU hW => ⟨rfl, by rw [hU]; exact hP, hD, by rw [hU]; exact h.hA _ hS.1, bKN.mv hW (fun p1 p2 p3 => by rw [hU]; exact hS.2.1 p1 p2 p3) h.kn⟩⟩
theorem n_init (h : Cn x D kd ad B cc own nL rm) {y : MethodName} {bytes : ByteArray} {rm' : Room} {index t : Nat} (hM : MN y bytes rm' D kd ad B a c j n' mc ms post) (hc : b_Cal y bytes 1 none 0) (hi : Cond.instanceMethod y ∈ bGood) (hl : Cond.methodLink own index y ∈ bGood) (hn : y.name = "<init>") (ht : a j = t) (hr : rm'.cells = mc ∧ rm'.slots = ms ∧ rm'.frames + 1 ≤ rm.frames ∧ 20 + rm'.locals ≤ rm.locals) (hce : ce + mc ≤ rm.cells ∧ sl + ms ≤ rm.slots) (hcat : (st.map fun v => v.category).sum ≤ 8) (hd : decode cc pc = .ok (.invokespecial index, 3)) (e : pc + 3 = q)
    (kk : ∀ (a' : bAd) (c' : bC), post a' c' → VN x D B nL Q q ls st n' a' c' (ce + mc) (sl + ms)) : VN x D B nL Q pc ls (.ref t :: st) (j + 1) a c ce sl := by
  subst e
  subst ht
  obtain ⟨c0, hts⟩ := id h.2.2.1
  exact fun H lo l hP hD hS hL => n_goes (va_runI (As := []) (rest := st) (Ts := c0 :: bGood) ⟨h.1, h.2.1, h.ml, h.ow, hts⟩ (hM _) ⟨callB_of (Ts := c0 :: bGood) 0 hts (bGoodIn (List.mem_filter.mp hc.1).2 hc.1) rfl hr.1 hr.2.1 (h.ok hc.2.1) (h.ok hl) hc.2.2 (by rw [h.rq]; exact ⟨hr.2.2.1, hr.2.2.2⟩), hn, h.ok hi⟩ (n_preB (y := y) h hP hD hS) rfl rfl hL.1 rfl (lv_room hcat) hd (by rw [h.rq]; exact hce)) hS hL (fun a' c' hp => kk a' c' hp)
theorem n_initN (h : Cn x D kd ad B cc own nL rm) {y : MethodName} {host : String} {bytes : ByteArray} {rm' : Room} {index t : Nat} (hM : MN y bytes rm' D kd ad B a c j n' mc ms post) (hc : b_Cal y bytes 1 none 0) (hi : Cond.instanceMethod y ∈ bGood) (hl : Cond.methodLinkNest own index y host ∈ bNl) (hn : y.name = "<init>") (ht : a j = t) (hr : rm'.cells = mc ∧ rm'.slots = ms ∧ rm'.frames + 1 ≤ rm.frames ∧ 20 + rm'.locals ≤ rm.locals) (hce : ce + mc ≤ rm.cells ∧ sl + ms ≤ rm.slots) (hcat : (st.map fun v => v.category).sum ≤ 8) (hd : decode cc pc = .ok (.invokespecial index, 3)) (e : pc + 3 = q)
    (kk : ∀ (a' : bAd) (c' : bC), post a' c' → VN x D B nL Q q ls st n' a' c' (ce + mc) (sl + ms)) : VN x D B nL Q pc ls (.ref t :: st) (j + 1) a c ce sl := by
  subst e
  subst ht
  obtain ⟨c0, hts⟩ := id h.2.2.1
  exact fun H lo l hP hD hS hL => n_goes (va_runIN (As := []) (rest := st) (Ts := c0 :: bGood) ⟨h.1, h.2.1, h.ml, h.ow, hts⟩ (hM _) ⟨va_cnB (Ts := c0 :: bGood) 0 hts (bGoodIn (List.mem_filter.mp hc.1).2 hc.1) rfl hr.1 hr.2.1 (h.kn.2.1 _ hl) (h.ok hc.2.1) hc.2.2 (by rw [h.rq]; exact ⟨hr.2.2.1, hr.2.2.2⟩), hn, h.ok hi⟩ (n_preB (y := y) h hP hD hS) rfl rfl hL.1 rfl (lv_room hcat) hd (by rw [h.rq]; exact hce)) hS hL (fun a' c' hp => kk a' c' hp)
end NM
