/-! the law: both worlds side by side -/
def VL (x : bX) (u1 u2 : bw) (B C S : Nat) (Q : State → Prop) (pc : Nat) (ls : List (Nat × Value)) (st : List Value) (σ τ : bSt) : Prop :=
  ∀ (H : Heap) (locs : List Loc) (lo : Array Slot), va_P u1.1 vwCl (b_wl u1 σ) H → va_P u2.1 vwCl (b_wl u2 τ) H → va_S (nA B) x.2.2.2.2.1.heap H locs → lv_has lo 4 ls →
    W x.1 x.2.1 x.2.2.1 x.2.2.2.1 x.2.2.2.2.1 x.2.2.2.2.2.1 x.2.2.2.2.2.2.1 x.2.2.2.2.2.2.2.1 x.2.2.2.2.2.2.2.2.1 x.2.2.2.2.2.2.2.2.2 H locs C S Q (F0 x.2.2.2.2.2.1 pc lo st)
/-- what a world of the law's is -/
def bWd (u : bw) (D : va_G) (kd : Nat → ClassId) (ad : bAd) (B : Nat) : Prop := u.1 = D ∧ u.2.1 = kd ∧ (∀ j, 1000 ≤ j → b_ad u j = ad j) ∧ b_inj u ∧ ∀ q, b_A u q → B ≤ q
theorem bWd.ev {u : bw} {D : va_G} {kd : Nat → ClassId} {ad : bAd} {B : Nat} {U : State} (h : bWd u D kd ad B) (k : bKN D kd ad B U) : b_EV u U := bKN.ev (by rw [h.1, h.2.1]; exact k) h.2.2.1 h.2.2.2.1 h.2.2.2.2
section LR
variable {x : bX} {D : va_G} {kd : Nat → ClassId} {ad : bAd} {B : Nat} {cc : ByteArray} {own : String} {nL : Nat} {rm : Room} {u1 u2 : bw} {C S : Nat} {Q : State → Prop} {pc q : Nat} {ls : List (Nat × Value)} {st : List Value} {σ τ : bSt}
theorem VL.swap (h : VL x u2 u1 B C S Q pc ls st τ σ) : VL x u1 u2 B C S Q pc ls st σ τ := fun H locs lo h1 h2 hS hL => h H locs lo h2 h1 hS hL
theorem l_iconst (h : Cn x D kd ad B cc own nL rm) {z0 : Int} {v : Int32} (hd : decode cc pc = .ok (.iconst z0, 1)) (e : pc + 1 = q) (hv : Int32.ofInt z0 = v) (k : VL x u1 u2 B C S Q q ls (.int v :: st) σ τ) : VL x u1 u2 B C S Q pc ls (st) σ τ := by
  subst e
  exact fun H lo a p1 p2 hS hL => lv_iconst h.1 h.2.1 hd hv (k H lo a p1 p2 hS hL)
theorem l_bipush (h : Cn x D kd ad B cc own nL rm) {z0 : Int} {v : Int32} (hd : decode cc pc = .ok (.bipush z0, 2)) (e : pc + 2 = q) (hv : (Int8.ofInt z0).toInt32 = v) (k : VL x u1 u2 B C S Q q ls (.int v :: st) σ τ) : VL x u1 u2 B C S Q pc ls (st) σ τ := by
  subst e
  exact fun H lo a p1 p2 hS hL => lv_bipush h.1 h.2.1 hd hv (k H lo a p1 p2 hS hL)
theorem l_iload_n (h : Cn x D kd ad B cc own nL rm) {k : Fin 4} {i : Nat} {v : Int32} (hd : decode cc pc = .ok (.iload_n k, 1)) (e : pc + 1 = q) (hi : (k : Nat) = i) (p : Nat) (hl : ls[p]? = some (i, .int v)) (kk : VL x u1 u2 B C S Q q ls (.int v :: st) σ τ) : VL x u1 u2 B C S Q pc ls st σ τ := by
  subst e
  exact fun H lo a p1 p2 hS hL => lv_iload_n h.1 h.2.1 hd hi (lv_at hL p hl) (kk H lo a p1 p2 hS hL)
theorem l_aload_n (h : Cn x D kd ad B cc own nL rm) {k : Fin 4} {i : Nat} {v : Nat} (hd : decode cc pc = .ok (.aload_n k, 1)) (e : pc + 1 = q) (hi : (k : Nat) = i) (p : Nat) (hl : ls[p]? = some (i, .ref v)) (kk : VL x u1 u2 B C S Q q ls (.ref v :: st) σ τ) : VL x u1 u2 B C S Q pc ls st σ τ := by
  subst e
  exact fun H lo a p1 p2 hS hL => lv_aload_n h.1 h.2.1 hd hi (lv_at hL p hl) (kk H lo a p1 p2 hS hL)
theorem l_iinc (h : Cn x D kd ad B cc own nL rm) {i p : Nat} {z0 : Int} {v u : Int32} {ls1 : List (Nat × Value)} (hd : decode cc pc = .ok (.iinc i z0, 3)) (e : pc + 3 = q) (hk : ls[p]? = some (i, .int v)) (hv : v + Int32.ofInt z0 = u) (hn : i < 4) (hl : (i, Value.int u) :: ls.filter (fun q => !(q.1 == i) && !(q.1 + 1 == i && q.2.category == 2)) = ls1) (kk : VL x u1 u2 B C S Q q ls1 st σ τ) : VL x u1 u2 B C S Q pc ls st σ τ := by
  subst e
  exact fun H lo a p1 p2 hS hL => lv_iinc h.1 h.2.1 hd hL hk hv hn hl (fun a2 hL2 => kk H lo a2 p1 p2 hS hL2)
theorem l_iadd (h : Cn x D kd ad B cc own nL rm) {a b : Int32} (hd : decode cc pc = .ok (.iadd, 1)) (e : pc + 1 = q)  (k : VL x u1 u2 B C S Q q ls (.int (a + b) :: st) σ τ) : VL x u1 u2 B C S Q pc ls (.int b :: .int a :: st) σ τ := by
  subst e
  exact fun H lo a p1 p2 hS hL => lv_iadd h.1 h.2.1 hd  (k H lo a p1 p2 hS hL)
theorem l_isub (h : Cn x D kd ad B cc own nL rm) {a b : Int32} (hd : decode cc pc = .ok (.isub, 1)) (e : pc + 1 = q)  (k : VL x u1 u2 B C S Q q ls (.int (a - b) :: st) σ τ) : VL x u1 u2 B C S Q pc ls (.int b :: .int a :: st) σ τ := by
  subst e
  exact fun H lo a p1 p2 hS hL => lv_isub h.1 h.2.1 hd  (k H lo a p1 p2 hS hL)
theorem l_iand (h : Cn x D kd ad B cc own nL rm) {a b : Int32} (hd : decode cc pc = .ok (.iand, 1)) (e : pc + 1 = q)  (k : VL x u1 u2 B C S Q q ls (.int (a &&& b) :: st) σ τ) : VL x u1 u2 B C S Q pc ls (.int b :: .int a :: st) σ τ := by
  subst e
  exact fun H lo a p1 p2 hS hL => lv_iand h.1 h.2.1 hd  (k H lo a p1 p2 hS hL)
theorem l_i2l (h : Cn x D kd ad B cc own nL rm) {a : Int32} {v : Int64} (hd : decode cc pc = .ok (.i2l, 1)) (e : pc + 1 = q) (hv : a.toInt64 = v) (k : VL x u1 u2 B C S Q q ls (.long v :: st) σ τ) : VL x u1 u2 B C S Q pc ls (.int a :: st) σ τ := by
  subst e
  exact fun H lo a p1 p2 hS hL => lv_i2l h.1 h.2.1 hd hv (k H lo a p1 p2 hS hL)
theorem l_lshl (h : Cn x D kd ad B cc own nL rm) {a v : Int64} {b : Int32} (hd : decode cc pc = .ok (.lshl, 1)) (e : pc + 1 = q) (hv : a <<< (b.toInt64 &&& 63) = v) (k : VL x u1 u2 B C S Q q ls (.long v :: st) σ τ) : VL x u1 u2 B C S Q pc ls (.int b :: .long a :: st) σ τ := by
  subst e
  exact fun H lo a p1 p2 hS hL => lv_lshl h.1 h.2.1 hd hv (k H lo a p1 p2 hS hL)
theorem l_land (h : Cn x D kd ad B cc own nL rm) {a b : Int64} (hd : decode cc pc = .ok (.land, 1)) (e : pc + 1 = q)  (k : VL x u1 u2 B C S Q q ls (.long (a &&& b) :: st) σ τ) : VL x u1 u2 B C S Q pc ls (.long b :: .long a :: st) σ τ := by
  subst e
  exact fun H lo a p1 p2 hS hL => lv_land h.1 h.2.1 hd  (k H lo a p1 p2 hS hL)
theorem l_lor (h : Cn x D kd ad B cc own nL rm) {a b : Int64} (hd : decode cc pc = .ok (.lor, 1)) (e : pc + 1 = q)  (k : VL x u1 u2 B C S Q q ls (.long (a ||| b) :: st) σ τ) : VL x u1 u2 B C S Q pc ls (.long b :: .long a :: st) σ τ := by
  subst e
  exact fun H lo a p1 p2 hS hL => lv_lor h.1 h.2.1 hd  (k H lo a p1 p2 hS hL)
theorem l_lcmp (h : Cn x D kd ad B cc own nL rm) {a b : Int64} (hd : decode cc pc = .ok (.lcmp, 1)) (e : pc + 1 = q)  (k : VL x u1 u2 B C S Q q ls (.int (lg_cmp a b) :: st) σ τ) : VL x u1 u2 B C S Q pc ls (.long b :: .long a :: st) σ τ := by
  subst e
  exact fun H lo a p1 p2 hS hL => W.lcmp h.1 h.2.1 hd  (k H lo a p1 p2 hS hL)
theorem l_ldc2 (h : Cn x D kd ad B cc own nL rm) {index : Nat} {v : Int64} (hw : Jvm.Cond.constantLong own index v ∈ bGood) (hd : decode cc pc = .ok (.ldc2_w index, 3)) (e : pc + 3 = q) (k : VL x u1 u2 B C S Q q ls (.long v :: st) σ τ) : VL x u1 u2 B C S Q pc ls st σ τ := by
  subst e
  exact fun H lo a p1 p2 hS hL => lv_ldc2 h.1 h.2.1 h.ow (h.ok hw) hd (k H lo a p1 p2 hS hL)
theorem l_if_eq (h : Cn x D kd ad B cc own nL rm) {a : Int32} {off : Int} {t : Nat} (hd : decode cc pc = .ok (.ifCond .eq off, 3)) (ht : (pc : Int) + off = (t : Int)) (e : pc + 3 = q) (kt : a = 0 → VL x u1 u2 B C S Q t ls st σ τ) (kf : ¬ a = 0 → VL x u1 u2 B C S Q q ls st σ τ) : VL x u1 u2 B C S Q pc ls (.int a :: st) σ τ := by
  subst e
  exact fun H lo a p1 p2 hS hL => lv_if_eq h.1 h.2.1 hd ht (fun c => kt c H lo a p1 p2 hS hL) (fun c => kf c H lo a p1 p2 hS hL)
theorem l_icmp_eq (h : Cn x D kd ad B cc own nL rm) {a b : Int32} {off : Int} {t : Nat} (hd : decode cc pc = .ok (.if_icmp .eq off, 3)) (ht : (pc : Int) + off = (t : Int)) (e : pc + 3 = q) (kt : a = b → VL x u1 u2 B C S Q t ls st σ τ) (kf : ¬ a = b → VL x u1 u2 B C S Q q ls st σ τ) : VL x u1 u2 B C S Q pc ls (.int b :: .int a :: st) σ τ := by
  subst e
  exact fun H lo a p1 p2 hS hL => lv_icmp_eq h.1 h.2.1 hd ht (fun c => kt c H lo a p1 p2 hS hL) (fun c => kf c H lo a p1 p2 hS hL)
theorem l_icmp_gt (h : Cn x D kd ad B cc own nL rm) {a b : Int32} {off : Int} {t : Nat} (hd : decode cc pc = .ok (.if_icmp .gt off, 3)) (ht : (pc : Int) + off = (t : Int)) (e : pc + 3 = q) (kt : b < a → VL x u1 u2 B C S Q t ls st σ τ) (kf : ¬ b < a → VL x u1 u2 B C S Q q ls st σ τ) : VL x u1 u2 B C S Q pc ls (.int b :: .int a :: st) σ τ := by
  subst e
  exact fun H lo a p1 p2 hS hL => lv_icmp_gt h.1 h.2.1 hd ht (fun c => kt c H lo a p1 p2 hS hL) (fun c => kf c H lo a p1 p2 hS hL)
theorem l_goto (h : Cn x D kd ad B cc own nL rm) {off : Int} {t : Nat} (hd : decode cc pc = .ok (.goto off, 3)) (ht : (pc : Int) + off = (t : Int)) (k : VL x u1 u2 B C S Q t ls st σ τ) : VL x u1 u2 B C S Q pc ls st σ τ := fun H lo a p1 p2 hS hL => lv_goto h.1 h.2.1 hd ht (k H lo a p1 p2 hS hL)
theorem l_tableIn (h : Cn x D kd ad B cc own nL rm) {dflt lo hi : Int} {offs : Array Int} {len : Nat} {a : Int32} {off : Int} {t : Nat} (hd : decode cc pc = .ok (.tableswitch dflt lo hi offs, len)) (h1 : ¬ a.toInt < lo) (h2 : ¬ hi < a.toInt) (ho : offs[(a.toInt - lo).toNat]? = some off) (ht : (pc : Int) + off = (t : Int)) (k : VL x u1 u2 B C S Q t ls st σ τ) : VL x u1 u2 B C S Q pc ls (.int a :: st) σ τ :=
  fun H lo a p1 p2 hS hL => lv_tableIn h.1 h.2.1 hd h1 h2 ho ht (k H lo a p1 p2 hS hL)
theorem l_tableOut (h : Cn x D kd ad B cc own nL rm) {dflt lo hi : Int} {offs : Array Int} {len : Nat} {a : Int32} {t : Nat} (hd : decode cc pc = .ok (.tableswitch dflt lo hi offs, len)) (ho : a.toInt < lo ∨ hi < a.toInt) (ht : (pc : Int) + dflt = (t : Int)) (k : VL x u1 u2 B C S Q t ls st σ τ) : VL x u1 u2 B C S Q pc ls (.int a :: st) σ τ :=
  fun H lo a p1 p2 hS hL => lv_tableOut h.1 h.2.1 hd ho ht (k H lo a p1 p2 hS hL)
theorem l_sld (h : Cn x D kd ad B cc own nL rm) {b L k : Nat} {xs : Nat → Int32} {i : Int32} (hX : va_X b L xs x.2.2.2.2.1 x.2.2.2.2.1.heap) (hb : b < x.2.2.2.2.1.heap.size) (hB : b < B) (hin : vp_in i L) (hk : i.toNatClampNeg = k) (hd : decode cc pc = .ok (.iaload, 1)) (e : pc + 1 = q) (kk : VL x u1 u2 B C S Q q ls (.int (xs k) :: st) σ τ) : VL x u1 u2 B C S Q pc ls (.int i :: .ref b :: st) σ τ := by
  subst e
  subst hk
  exact fun H lo a p1 p2 hS hL => va_sld h.1 h.2.1 hX hb (fun z => absurd hB (Nat.not_lt.mpr z)) hS hin hd (kk H lo a p1 p2 hS hL)
theorem l_slen (h : Cn x D kd ad B cc own nL rm) {b L : Nat} {xs : Nat → Int32} (hX : va_X b L xs x.2.2.2.2.1 x.2.2.2.2.1.heap) (hb : b < x.2.2.2.2.1.heap.size) (hB : b < B) (hd : decode cc pc = .ok (.arraylength, 1)) (e : pc + 1 = q) (kk : VL x u1 u2 B C S Q q ls (.int (Int32.ofNat L) :: st) σ τ) : VL x u1 u2 B C S Q pc ls (.ref b :: st) σ τ := by
  subst e
  exact fun H lo a p1 p2 hS hL => va_slen h.1 h.2.1 hX hb (fun z => absurd hB (Nat.not_lt.mpr z)) hS hd (kk H lo a p1 p2 hS hL)
/-- a call of the first world's -/
theorem l_goes {p : Program} {l : Launch} {e : Env} {R : Room} {s : State} {m : MethodId} {args : Array Value} {below : List Frame} {meth : Method} {c : Code} {H : Heap} {locs : List Loc} {lo : Array Slot} {aa : Array Value} {st0 rest : List Value} {post' : Option Value → bSt → Prop}
    (hr : va_Run p l e R s m args below meth c H locs C S 0 0 (F0 m pc lo st0) rest (QV u1 post' aa) (b_A u1)) (hA : ∀ q, b_A u1 q → B ≤ q) (hdis : ∀ q, b_A u1 q → ¬ b_A u2 q) (hP2 : va_P u2.1 vwCl (b_wl u2 τ) H) (hS : va_S (nA B) s.heap H locs) (hL : lv_has lo 4 ls)
    (kk : ∀ (v : Option Value) (σ' : bSt), post' v σ' → ∀ (H : Heap) (locs : List Loc) (lo : Array Slot), va_P u1.1 vwCl (b_wl u1 σ') H → va_P u2.1 vwCl (b_wl u2 τ) H → va_S (nA B) s.heap H locs → lv_has lo 4 ls → W p l e R s m args below meth c H locs C S Q (F0 m (pc + 3) lo (v.toList ++ rest))) : W p l e R s m args below meth c H locs C S Q (F0 m pc lo st0) := by
  intro T hT X
  obtain ⟨v, st₀, t, T', L, h0, X', hf, e1, e2, ⟨⟨v', σ', hv, hp, hb⟩, hz, hk⟩, st⟩ := hr T hT X
  cases hv
  rw [h0] at hz hk
  obtain ⟨t2, a1, b1⟩ := kk v σ' hp T'.heap (locs ++ L) lo (by rw [e1]; exact hb)
    (hP2.kept (fun k q9 hq => by
      obtain ⟨hj, rfl⟩ := b_wl_inv hq
      rw [e1]
      exact hk _ (hP2 k _ hq).lt (fun z => hdis _ z ⟨k, hj, rfl⟩)))
    ⟨Nat.le_trans hS.1 (by rw [e1]; exact hz), fun q h1 h2 => by rw [e1, hk q (Nat.lt_of_lt_of_le h1 hS.1) (fun z => h2 (hA q z))]; exact hS.2.1 q h1 h2, fun q hq => by
      rcases List.mem_append.mp hq with h | h
      · exact hS.2.2 q h
      · exact hA _ (hf _ h)⟩ hL T' rfl X'
  exact ⟨t2, st t2 a1, b1⟩
theorem l_call (h : Cn x D kd ad B cc own 4 rm) (hw : bWd u1 D kd ad B) (hdis : ∀ q, b_A u1 q → ¬ b_A u2 q) (hCS : C ≤ rm.cells ∧ S ≤ rm.slots) {y : MethodName} {bytes : ByteArray} {maxL n j ci N index : Nat} {ret' : Option FieldType} {rm' : Room} {post' : Option Value → bSt → Prop} {As rest st0 : List Value} {r : Nat → Option Nat}
    (hM : MV y bytes maxL ret' rm' u1 (.ref (b_ad u1 j) :: As) σ post') (hc : b_Cal y bytes maxL ret' n) (hcv : b_CalV y) (hl : Cond.methodLink own index y ∈ bGood) (hr : b_fit rm' maxL rm) (hn : As.length = n) (hj : j < b_K u1) (hsh : b_sh u1 j = .inr (ci, N, r)) (hcl : ∃ T N', vwCl[ci]? = some (y.cls, T, N'))
    (hst : st0 = As.reverse ++ .ref (b_ad u1 j) :: rest) (hcat : (rest.map fun v => v.category).sum ≤ 8) (hd : decode cc pc = .ok (.invokevirtual index, 3)) (e : pc + 3 = q)
    (kk : ∀ (v : Option Value) (σ' : bSt), post' v σ' → VL x u1 u2 B C S Q q ls (v.toList ++ rest) σ' τ) : VL x u1 u2 B C S Q pc ls st0 σ τ := by
  subst e
  obtain ⟨T, N', hcl⟩ := hcl
  obtain ⟨c0, hts⟩ := id h.2.2.1
  exact fun H lo a p1 p2 hS hL => l_goes (va_runV (As := As) (rest := rest) (Ts := c0 :: bGood) ⟨h.1, h.2.1, h.ml, h.ow, hts⟩ (hM _) ⟨callB_of (Ts := c0 :: bGood) n hts (bGoodIn (List.mem_filter.mp hc.1).2 hc.1) rfl hr.1 hr.2.1 (h.ok hc.2.1) (h.ok hl) hc.2.2 (by rw [h.rq]; exact hr.2.2), h.ok hcv.1, h.ok hcv.2⟩
      ⟨PV_blind, va_recv (hw.ev h.kn).1 p1 (ci := ci) (q0 := j) hcl (by rw [b_wl_get hj, b_cell_o hsh]), fun U hU hW => ⟨rfl, by rw [hU]; exact p1, hw.ev (bKN.mv hW (fun z1 z2 z3 => by rw [hU]; exact hS.2.1 z1 z2 z3) h.kn)⟩⟩ rfl hn hL.1 hst (lv_room hcat) hd ⟨by rw [h.rq]; exact hCS.1, by rw [h.rq]; exact hCS.2⟩) hw.2.2.2.2 hdis p2 hS hL (fun v σ' hp => kk v σ' hp)
theorem kLA {r : Int32 × bA} {rest : List Value} (kk : ∀ σ', RC σ' r.2 → VL x u1 u2 B C S Q q ls (.int r.1 :: rest) σ' τ) : ∀ (v : Option Value) (σ' : bSt), pA r v σ' → VL x u1 u2 B C S Q q ls (v.toList ++ rest) σ' τ := by
  rintro v σ' ⟨rfl, h⟩
  exact kk σ' h
theorem kLAL {r : Int64 × bA} {rest : List Value} (kk : ∀ σ', RC σ' r.2 → VL x u1 u2 B C S Q q ls (.long r.1 :: rest) σ' τ) : ∀ (v : Option Value) (σ' : bSt), pAL r v σ' → VL x u1 u2 B C S Q q ls (v.toList ++ rest) σ' τ := by
  rintro v σ' ⟨rfl, h⟩
  exact kk σ' h
theorem kLM {r : Int32 × bA} {rest : List Value} (kk : ∀ τ', RQ τ' r.2 → VL x u2 u1 B C S Q q ls (.int r.1 :: rest) σ τ') : ∀ (v : Option Value) (τ' : bSt), pM r v τ' → VL x u1 u2 B C S Q q ls (v.toList ++ rest) τ' σ := by
  rintro v τ' ⟨rfl, h⟩
  exact (kk τ' h).swap
theorem kLML {r : Int64 × bA} {rest : List Value} (kk : ∀ τ', RQ τ' r.2 → VL x u2 u1 B C S Q q ls (.long r.1 :: rest) σ τ') : ∀ (v : Option Value) (τ' : bSt), pML r v τ' → VL x u1 u2 B C S Q q ls (v.toList ++ rest) τ' σ := by
  rintro v τ' ⟨rfl, h⟩
  exact (kk τ' h).swap
end LR
theorem lg_self (a : Int64) : lg_cmp a a = 0 := by
  unfold lg_cmp
  simp
/-- all that the law has while it runs -/
def CL (x : bX) (u1 u2 : bw) (D : va_G) (kd : Nat → ClassId) (ad : bAd) (B L b : Nat) (xs : Nat → Int32) (C S : Nat) : Prop :=
  Cn x D kd ad B cL_law RL 4 room_1 ∧ bWd u1 D kd ad B ∧ bWd u2 D kd ad B ∧ (∀ q, b_A u1 q → ¬ b_A u2 q) ∧ va_X b L xs x.2.2.2.2.1 x.2.2.2.2.1.heap ∧ b < x.2.2.2.2.1.heap.size ∧ b < B ∧ (C ≤ room_1.cells ∧ S ≤ room_1.slots) ∧ L ≤ 3072

set_option maxHeartbeats 4000000 in
theorem law_0 {x : bX} {u1 u2 : bw} {D : va_G} {kd : Nat → ClassId} {ad : bAd} {B L b : Nat} {xs : Nat → Int32} {C S : Nat} {Q : State → Prop} {σ τ : bSt} {A : bA} {i : Nat} (h : CL x u1 u2 D kd ad B L b xs C S) (hs : sOpera u1) (hm : sModel u2) (hR : RC σ A) (hQ : RQ τ A) (hi : i + 6 ≤ L) (kk : ∀ (σ' τ' : bSt) (A' : bA), RC σ' A' → RQ τ' A' → VL x u1 u2 B C S Q 1556 [(3, .int (nI i)), (2, .ref (b_ad u2 0)), (1, .ref (b_ad u1 0)), (0, .ref b)] [] σ' τ') : VL x u1 u2 B C S Q 212 [(3, .int (nI i)), (2, .ref (b_ad u2 0)), (1, .ref (b_ad u1 0)), (0, .ref b)] [] σ τ := by
  have hL := h.2.2.2.2.2.2.2.2
  refine l_aload_n h.1 (i := 1) dL_law_212 (q := 213) rfl rfl 2 rfl ?_
  refine l_aload_n h.1 (i := 0) dL_law_213 (q := 214) rfl rfl 3 rfl ?_
  refine l_iload_n h.1 (i := 3) dL_law_214 (q := 215) rfl rfl 0 rfl ?_
  refine l_iconst h.1 (v := 1) dL_law_215 (q := 216) rfl (by decide) ?_
  refine l_iadd h.1 dL_law_216 (q := 217) rfl ?_
  rw [show (nI i + 1 : Int32) = nI (i + 1) from nI_add i 1]
  refine l_sld h.1 (k := (i + 1)) h.2.2.2.2.1 h.2.2.2.2.2.1 h.2.2.2.2.2.2.1 (vp_in_nI (by omega) (by omega)) (nI_clamp (by omega)) dL_law_217 (q := 218) rfl ?_
  refine l_aload_n h.1 (i := 0) dL_law_218 (q := 219) rfl rfl 3 rfl ?_
  refine l_iload_n h.1 (i := 3) dL_law_219 (q := 220) rfl rfl 0 rfl ?_
  refine l_iconst h.1 (v := 2) dL_law_220 (q := 221) rfl (by decide) ?_
  refine l_iadd h.1 dL_law_221 (q := 222) rfl ?_
  rw [show (nI i + 2 : Int32) = nI (i + 2) from nI_add i 2]
  refine l_sld h.1 (k := (i + 2)) h.2.2.2.2.1 h.2.2.2.2.2.1 h.2.2.2.2.2.2.1 (vp_in_nI (by omega) (by omega)) (nI_clamp (by omega)) dL_law_222 (q := 223) rfl ?_
  refine l_call h.1 h.2.1 h.2.2.2.1 h.2.2.2.2.2.2.2.1 (As := [.int (xs (i + 1)), .int (xs (i + 2))]) (rest := []) (c_X9_tide (w := u1) (σ := σ) hs hR) cal_X9_tide calV_X9_tide m308 ⟨rfl, rfl, Nat.le_of_ble_eq_true rfl, Nat.le_of_ble_eq_true rfl⟩ rfl hs.1.1 hs.1.2 ⟨_, _, rfl⟩ rfl (Nat.le_of_ble_eq_true rfl) dL_law_223 (q := 226) rfl (kLA (fun σ1 g1 => ?_))
  refine l_aload_n h.1 (i := 2) dL_law_226 (q := 227) rfl rfl 1 rfl ?_
  refine l_aload_n h.1 (i := 0) dL_law_227 (q := 228) rfl rfl 3 rfl ?_
  refine l_iload_n h.1 (i := 3) dL_law_228 (q := 229) rfl rfl 0 rfl ?_
  refine l_iconst h.1 (v := 1) dL_law_229 (q := 230) rfl (by decide) ?_
  refine l_iadd h.1 dL_law_230 (q := 231) rfl ?_
  rw [show (nI i + 1 : Int32) = nI (i + 1) from nI_add i 1]
  refine l_sld h.1 (k := (i + 1)) h.2.2.2.2.1 h.2.2.2.2.2.1 h.2.2.2.2.2.2.1 (vp_in_nI (by omega) (by omega)) (nI_clamp (by omega)) dL_law_231 (q := 232) rfl ?_
  refine l_aload_n h.1 (i := 0) dL_law_232 (q := 233) rfl rfl 3 rfl ?_
  refine l_iload_n h.1 (i := 3) dL_law_233 (q := 234) rfl rfl 0 rfl ?_
  refine l_iconst h.1 (v := 2) dL_law_234 (q := 235) rfl (by decide) ?_
  refine l_iadd h.1 dL_law_235 (q := 236) rfl ?_
  rw [show (nI i + 2 : Int32) = nI (i + 2) from nI_add i 2]
  refine l_sld h.1 (k := (i + 2)) h.2.2.2.2.1 h.2.2.2.2.2.1 h.2.2.2.2.2.2.1 (vp_in_nI (by omega) (by omega)) (nI_clamp (by omega)) dL_law_236 (q := 237) rfl ?_
  refine VL.swap ?_
  refine l_call h.1 h.2.2.1 (fun q z1 z2 => h.2.2.2.1 q z2 z1) h.2.2.2.2.2.2.2.1 (As := [.int (xs (i + 1)), .int (xs (i + 2))]) (rest := [.int _]) (c_X10_tide (w := u2) (σ := τ) hm hQ) cal_X10_tide calV_X10_tide m920 ⟨rfl, rfl, Nat.le_of_ble_eq_true rfl, Nat.le_of_ble_eq_true rfl⟩ rfl hm.1.1 hm.1.2 ⟨_, _, rfl⟩ rfl (Nat.le_of_ble_eq_true rfl) dL_law_237 (q := 240) rfl (kLM (fun τ1 g2 => ?_))
  exact l_icmp_eq h.1 (t := 1556) dL_law_240 (by decide) (q := 243) rfl (fun _ => kk σ1 τ1 _ g1 g2) (fun z => absurd rfl z)
set_option maxHeartbeats 4000000 in
theorem law_1 {x : bX} {u1 u2 : bw} {D : va_G} {kd : Nat → ClassId} {ad : bAd} {B L b : Nat} {xs : Nat → Int32} {C S : Nat} {Q : State → Prop} {σ τ : bSt} {A : bA} {i : Nat} (h : CL x u1 u2 D kd ad B L b xs C S) (hs : sOpera u1) (hm : sModel u2) (hR : RC σ A) (hQ : RQ τ A) (hi : i + 6 ≤ L) (kk : ∀ (σ' τ' : bSt) (A' : bA), RC σ' A' → RQ τ' A' → VL x u1 u2 B C S Q 1556 [(3, .int (nI i)), (2, .ref (b_ad u2 0)), (1, .ref (b_ad u1 0)), (0, .ref b)] [] σ' τ') : VL x u1 u2 B C S Q 245 [(3, .int (nI i)), (2, .ref (b_ad u2 0)), (1, .ref (b_ad u1 0)), (0, .ref b)] [] σ τ := by
  have hL := h.2.2.2.2.2.2.2.2
  refine l_aload_n h.1 (i := 1) dL_law_245 (q := 246) rfl rfl 2 rfl ?_
  refine l_aload_n h.1 (i := 0) dL_law_246 (q := 247) rfl rfl 3 rfl ?_
  refine l_iload_n h.1 (i := 3) dL_law_247 (q := 248) rfl rfl 0 rfl ?_
  refine l_iconst h.1 (v := 1) dL_law_248 (q := 249) rfl (by decide) ?_
  refine l_iadd h.1 dL_law_249 (q := 250) rfl ?_
  rw [show (nI i + 1 : Int32) = nI (i + 1) from nI_add i 1]
  refine l_sld h.1 (k := (i + 1)) h.2.2.2.2.1 h.2.2.2.2.2.1 h.2.2.2.2.2.2.1 (vp_in_nI (by omega) (by omega)) (nI_clamp (by omega)) dL_law_250 (q := 251) rfl ?_
  refine l_call h.1 h.2.1 h.2.2.2.1 h.2.2.2.2.2.2.2.1 (As := [.int (xs (i + 1))]) (rest := []) (c_X9_speed (w := u1) (σ := σ) hs hR) cal_X9_speed calV_X9_speed m320 ⟨rfl, rfl, Nat.le_of_ble_eq_true rfl, Nat.le_of_ble_eq_true rfl⟩ rfl hs.1.1 hs.1.2 ⟨_, _, rfl⟩ rfl (Nat.le_of_ble_eq_true rfl) dL_law_251 (q := 254) rfl (kLA (fun σ1 g1 => ?_))
  refine l_aload_n h.1 (i := 2) dL_law_254 (q := 255) rfl rfl 1 rfl ?_
  refine l_aload_n h.1 (i := 0) dL_law_255 (q := 256) rfl rfl 3 rfl ?_
  refine l_iload_n h.1 (i := 3) dL_law_256 (q := 257) rfl rfl 0 rfl ?_
  refine l_iconst h.1 (v := 1) dL_law_257 (q := 258) rfl (by decide) ?_
  refine l_iadd h.1 dL_law_258 (q := 259) rfl ?_
  rw [show (nI i + 1 : Int32) = nI (i + 1) from nI_add i 1]
  refine l_sld h.1 (k := (i + 1)) h.2.2.2.2.1 h.2.2.2.2.2.1 h.2.2.2.2.2.2.1 (vp_in_nI (by omega) (by omega)) (nI_clamp (by omega)) dL_law_259 (q := 260) rfl ?_
  refine VL.swap ?_
  refine l_call h.1 h.2.2.1 (fun q z1 z2 => h.2.2.2.1 q z2 z1) h.2.2.2.2.2.2.2.1 (As := [.int (xs (i + 1))]) (rest := [.int _]) (c_X10_speed (w := u2) (σ := τ) hm hQ) cal_X10_speed calV_X10_speed m937 ⟨rfl, rfl, Nat.le_of_ble_eq_true rfl, Nat.le_of_ble_eq_true rfl⟩ rfl hm.1.1 hm.1.2 ⟨_, _, rfl⟩ rfl (Nat.le_of_ble_eq_true rfl) dL_law_260 (q := 263) rfl (kLM (fun τ1 g2 => ?_))
  exact l_icmp_eq h.1 (t := 1556) dL_law_263 (by decide) (q := 266) rfl (fun _ => kk σ1 τ1 _ g1 g2) (fun z => absurd rfl z)
set_option maxHeartbeats 4000000 in
theorem law_2 {x : bX} {u1 u2 : bw} {D : va_G} {kd : Nat → ClassId} {ad : bAd} {B L b : Nat} {xs : Nat → Int32} {C S : Nat} {Q : State → Prop} {σ τ : bSt} {A : bA} {i : Nat} (h : CL x u1 u2 D kd ad B L b xs C S) (hs : sOpera u1) (hm : sModel u2) (hR : RC σ A) (hQ : RQ τ A) (hi : i + 6 ≤ L) (kk : ∀ (σ' τ' : bSt) (A' : bA), RC σ' A' → RQ τ' A' → VL x u1 u2 B C S Q 1556 [(3, .int (nI i)), (2, .ref (b_ad u2 0)), (1, .ref (b_ad u1 0)), (0, .ref b)] [] σ' τ') : VL x u1 u2 B C S Q 268 [(3, .int (nI i)), (2, .ref (b_ad u2 0)), (1, .ref (b_ad u1 0)), (0, .ref b)] [] σ τ := by
  have hL := h.2.2.2.2.2.2.2.2
  refine l_aload_n h.1 (i := 1) dL_law_268 (q := 269) rfl rfl 2 rfl ?_
  refine l_aload_n h.1 (i := 0) dL_law_269 (q := 270) rfl rfl 3 rfl ?_
  refine l_iload_n h.1 (i := 3) dL_law_270 (q := 271) rfl rfl 0 rfl ?_
  refine l_iconst h.1 (v := 1) dL_law_271 (q := 272) rfl (by decide) ?_
  refine l_iadd h.1 dL_law_272 (q := 273) rfl ?_
  rw [show (nI i + 1 : Int32) = nI (i + 1) from nI_add i 1]
  refine l_sld h.1 (k := (i + 1)) h.2.2.2.2.1 h.2.2.2.2.2.1 h.2.2.2.2.2.2.1 (vp_in_nI (by omega) (by omega)) (nI_clamp (by omega)) dL_law_273 (q := 274) rfl ?_
  refine l_aload_n h.1 (i := 0) dL_law_274 (q := 275) rfl rfl 3 rfl ?_
  refine l_iload_n h.1 (i := 3) dL_law_275 (q := 276) rfl rfl 0 rfl ?_
  refine l_iconst h.1 (v := 2) dL_law_276 (q := 277) rfl (by decide) ?_
  refine l_iadd h.1 dL_law_277 (q := 278) rfl ?_
  rw [show (nI i + 2 : Int32) = nI (i + 2) from nI_add i 2]
  refine l_sld h.1 (k := (i + 2)) h.2.2.2.2.1 h.2.2.2.2.2.1 h.2.2.2.2.2.2.1 (vp_in_nI (by omega) (by omega)) (nI_clamp (by omega)) dL_law_278 (q := 279) rfl ?_
  refine l_call h.1 h.2.1 h.2.2.2.1 h.2.2.2.2.2.2.2.1 (As := [.int (xs (i + 1)), .int (xs (i + 2))]) (rest := []) (c_X9_boat (w := u1) (σ := σ) hs hR) cal_X9_boat calV_X9_boat m324 ⟨rfl, rfl, Nat.le_of_ble_eq_true rfl, Nat.le_of_ble_eq_true rfl⟩ rfl hs.1.1 hs.1.2 ⟨_, _, rfl⟩ rfl (Nat.le_of_ble_eq_true rfl) dL_law_279 (q := 282) rfl (kLA (fun σ1 g1 => ?_))
  refine l_aload_n h.1 (i := 2) dL_law_282 (q := 283) rfl rfl 1 rfl ?_
  refine l_aload_n h.1 (i := 0) dL_law_283 (q := 284) rfl rfl 3 rfl ?_
  refine l_iload_n h.1 (i := 3) dL_law_284 (q := 285) rfl rfl 0 rfl ?_
  refine l_iconst h.1 (v := 1) dL_law_285 (q := 286) rfl (by decide) ?_
  refine l_iadd h.1 dL_law_286 (q := 287) rfl ?_
  rw [show (nI i + 1 : Int32) = nI (i + 1) from nI_add i 1]
  refine l_sld h.1 (k := (i + 1)) h.2.2.2.2.1 h.2.2.2.2.2.1 h.2.2.2.2.2.2.1 (vp_in_nI (by omega) (by omega)) (nI_clamp (by omega)) dL_law_287 (q := 288) rfl ?_
  refine l_aload_n h.1 (i := 0) dL_law_288 (q := 289) rfl rfl 3 rfl ?_
  refine l_iload_n h.1 (i := 3) dL_law_289 (q := 290) rfl rfl 0 rfl ?_
  refine l_iconst h.1 (v := 2) dL_law_290 (q := 291) rfl (by decide) ?_
  refine l_iadd h.1 dL_law_291 (q := 292) rfl ?_
  rw [show (nI i + 2 : Int32) = nI (i + 2) from nI_add i 2]
  refine l_sld h.1 (k := (i + 2)) h.2.2.2.2.1 h.2.2.2.2.2.1 h.2.2.2.2.2.2.1 (vp_in_nI (by omega) (by omega)) (nI_clamp (by omega)) dL_law_292 (q := 293) rfl ?_
  refine VL.swap ?_
  refine l_call h.1 h.2.2.1 (fun q z1 z2 => h.2.2.2.1 q z2 z1) h.2.2.2.2.2.2.2.1 (As := [.int (xs (i + 1)), .int (xs (i + 2))]) (rest := [.int _]) (c_X10_boat (w := u2) (σ := τ) hm hQ) cal_X10_boat calV_X10_boat m941 ⟨rfl, rfl, Nat.le_of_ble_eq_true rfl, Nat.le_of_ble_eq_true rfl⟩ rfl hm.1.1 hm.1.2 ⟨_, _, rfl⟩ rfl (Nat.le_of_ble_eq_true rfl) dL_law_293 (q := 296) rfl (kLM (fun τ1 g2 => ?_))
  exact l_icmp_eq h.1 (t := 1556) dL_law_296 (by decide) (q := 299) rfl (fun _ => kk σ1 τ1 _ g1 g2) (fun z => absurd rfl z)
set_option maxHeartbeats 4000000 in
theorem law_3 {x : bX} {u1 u2 : bw} {D : va_G} {kd : Nat → ClassId} {ad : bAd} {B L b : Nat} {xs : Nat → Int32} {C S : Nat} {Q : State → Prop} {σ τ : bSt} {A : bA} {i : Nat} (h : CL x u1 u2 D kd ad B L b xs C S) (hs : sOpera u1) (hm : sModel u2) (hR : RC σ A) (hQ : RQ τ A) (hi : i + 6 ≤ L) (kk : ∀ (σ' τ' : bSt) (A' : bA), RC σ' A' → RQ τ' A' → VL x u1 u2 B C S Q 1556 [(3, .int (nI i)), (2, .ref (b_ad u2 0)), (1, .ref (b_ad u1 0)), (0, .ref b)] [] σ' τ') : VL x u1 u2 B C S Q 301 [(3, .int (nI i)), (2, .ref (b_ad u2 0)), (1, .ref (b_ad u1 0)), (0, .ref b)] [] σ τ := by
  have hL := h.2.2.2.2.2.2.2.2
  refine l_aload_n h.1 (i := 1) dL_law_301 (q := 302) rfl rfl 2 rfl ?_
  refine l_aload_n h.1 (i := 0) dL_law_302 (q := 303) rfl rfl 3 rfl ?_
  refine l_iload_n h.1 (i := 3) dL_law_303 (q := 304) rfl rfl 0 rfl ?_
  refine l_iconst h.1 (v := 1) dL_law_304 (q := 305) rfl (by decide) ?_
  refine l_iadd h.1 dL_law_305 (q := 306) rfl ?_
  rw [show (nI i + 1 : Int32) = nI (i + 1) from nI_add i 1]
  refine l_sld h.1 (k := (i + 1)) h.2.2.2.2.1 h.2.2.2.2.2.1 h.2.2.2.2.2.2.1 (vp_in_nI (by omega) (by omega)) (nI_clamp (by omega)) dL_law_306 (q := 307) rfl ?_
  refine l_aload_n h.1 (i := 0) dL_law_307 (q := 308) rfl rfl 3 rfl ?_
  refine l_iload_n h.1 (i := 3) dL_law_308 (q := 309) rfl rfl 0 rfl ?_
  refine l_iconst h.1 (v := 2) dL_law_309 (q := 310) rfl (by decide) ?_
  refine l_iadd h.1 dL_law_310 (q := 311) rfl ?_
  rw [show (nI i + 2 : Int32) = nI (i + 2) from nI_add i 2]
  refine l_sld h.1 (k := (i + 2)) h.2.2.2.2.1 h.2.2.2.2.2.1 h.2.2.2.2.2.2.1 (vp_in_nI (by omega) (by omega)) (nI_clamp (by omega)) dL_law_311 (q := 312) rfl ?_
  refine l_call h.1 h.2.1 h.2.2.2.1 h.2.2.2.2.2.2.2.1 (As := [.int (xs (i + 1)), .int (xs (i + 2))]) (rest := []) (c_X9_ofBoat (w := u1) (σ := σ) hs hR) cal_X9_ofBoat calV_X9_ofBoat m338 ⟨rfl, rfl, Nat.le_of_ble_eq_true rfl, Nat.le_of_ble_eq_true rfl⟩ rfl hs.1.1 hs.1.2 ⟨_, _, rfl⟩ rfl (Nat.le_of_ble_eq_true rfl) dL_law_312 (q := 315) rfl (kLA (fun σ1 g1 => ?_))
  refine l_aload_n h.1 (i := 2) dL_law_315 (q := 316) rfl rfl 1 rfl ?_
  refine l_aload_n h.1 (i := 0) dL_law_316 (q := 317) rfl rfl 3 rfl ?_
  refine l_iload_n h.1 (i := 3) dL_law_317 (q := 318) rfl rfl 0 rfl ?_
  refine l_iconst h.1 (v := 1) dL_law_318 (q := 319) rfl (by decide) ?_
  refine l_iadd h.1 dL_law_319 (q := 320) rfl ?_
  rw [show (nI i + 1 : Int32) = nI (i + 1) from nI_add i 1]
  refine l_sld h.1 (k := (i + 1)) h.2.2.2.2.1 h.2.2.2.2.2.1 h.2.2.2.2.2.2.1 (vp_in_nI (by omega) (by omega)) (nI_clamp (by omega)) dL_law_320 (q := 321) rfl ?_
  refine l_aload_n h.1 (i := 0) dL_law_321 (q := 322) rfl rfl 3 rfl ?_
  refine l_iload_n h.1 (i := 3) dL_law_322 (q := 323) rfl rfl 0 rfl ?_
  refine l_iconst h.1 (v := 2) dL_law_323 (q := 324) rfl (by decide) ?_
  refine l_iadd h.1 dL_law_324 (q := 325) rfl ?_
  rw [show (nI i + 2 : Int32) = nI (i + 2) from nI_add i 2]
  refine l_sld h.1 (k := (i + 2)) h.2.2.2.2.1 h.2.2.2.2.2.1 h.2.2.2.2.2.2.1 (vp_in_nI (by omega) (by omega)) (nI_clamp (by omega)) dL_law_325 (q := 326) rfl ?_
  refine VL.swap ?_
  refine l_call h.1 h.2.2.1 (fun q z1 z2 => h.2.2.2.1 q z2 z1) h.2.2.2.2.2.2.2.1 (As := [.int (xs (i + 1)), .int (xs (i + 2))]) (rest := [.int _]) (c_X10_ofBoat (w := u2) (σ := τ) hm hQ) cal_X10_ofBoat calV_X10_ofBoat m949 ⟨rfl, rfl, Nat.le_of_ble_eq_true rfl, Nat.le_of_ble_eq_true rfl⟩ rfl hm.1.1 hm.1.2 ⟨_, _, rfl⟩ rfl (Nat.le_of_ble_eq_true rfl) dL_law_326 (q := 329) rfl (kLM (fun τ1 g2 => ?_))
  exact l_icmp_eq h.1 (t := 1556) dL_law_329 (by decide) (q := 332) rfl (fun _ => kk σ1 τ1 _ g1 g2) (fun z => absurd rfl z)
set_option maxHeartbeats 4000000 in
theorem law_4 {x : bX} {u1 u2 : bw} {D : va_G} {kd : Nat → ClassId} {ad : bAd} {B L b : Nat} {xs : Nat → Int32} {C S : Nat} {Q : State → Prop} {σ τ : bSt} {A : bA} {i : Nat} (h : CL x u1 u2 D kd ad B L b xs C S) (hs : sOpera u1) (hm : sModel u2) (hR : RC σ A) (hQ : RQ τ A) (hi : i + 6 ≤ L) (kk : ∀ (σ' τ' : bSt) (A' : bA), RC σ' A' → RQ τ' A' → VL x u1 u2 B C S Q 1556 [(3, .int (nI i)), (2, .ref (b_ad u2 0)), (1, .ref (b_ad u1 0)), (0, .ref b)] [] σ' τ') : VL x u1 u2 B C S Q 334 [(3, .int (nI i)), (2, .ref (b_ad u2 0)), (1, .ref (b_ad u1 0)), (0, .ref b)] [] σ τ := by
  have hL := h.2.2.2.2.2.2.2.2
  refine l_aload_n h.1 (i := 1) dL_law_334 (q := 335) rfl rfl 2 rfl ?_
  refine l_aload_n h.1 (i := 0) dL_law_335 (q := 336) rfl rfl 3 rfl ?_
  refine l_iload_n h.1 (i := 3) dL_law_336 (q := 337) rfl rfl 0 rfl ?_
  refine l_iconst h.1 (v := 1) dL_law_337 (q := 338) rfl (by decide) ?_
  refine l_iadd h.1 dL_law_338 (q := 339) rfl ?_
  rw [show (nI i + 1 : Int32) = nI (i + 1) from nI_add i 1]
  refine l_sld h.1 (k := (i + 1)) h.2.2.2.2.1 h.2.2.2.2.2.1 h.2.2.2.2.2.2.1 (vp_in_nI (by omega) (by omega)) (nI_clamp (by omega)) dL_law_339 (q := 340) rfl ?_
  refine l_aload_n h.1 (i := 0) dL_law_340 (q := 341) rfl rfl 3 rfl ?_
  refine l_iload_n h.1 (i := 3) dL_law_341 (q := 342) rfl rfl 0 rfl ?_
  refine l_iconst h.1 (v := 2) dL_law_342 (q := 343) rfl (by decide) ?_
  refine l_iadd h.1 dL_law_343 (q := 344) rfl ?_
  rw [show (nI i + 2 : Int32) = nI (i + 2) from nI_add i 2]
  refine l_sld h.1 (k := (i + 2)) h.2.2.2.2.1 h.2.2.2.2.2.1 h.2.2.2.2.2.2.1 (vp_in_nI (by omega) (by omega)) (nI_clamp (by omega)) dL_law_344 (q := 345) rfl ?_
  refine l_aload_n h.1 (i := 0) dL_law_345 (q := 346) rfl rfl 3 rfl ?_
  refine l_iload_n h.1 (i := 3) dL_law_346 (q := 347) rfl rfl 0 rfl ?_
  refine l_iconst h.1 (v := 3) dL_law_347 (q := 348) rfl (by decide) ?_
  refine l_iadd h.1 dL_law_348 (q := 349) rfl ?_
  rw [show (nI i + 3 : Int32) = nI (i + 3) from nI_add i 3]
  refine l_sld h.1 (k := (i + 3)) h.2.2.2.2.1 h.2.2.2.2.2.1 h.2.2.2.2.2.2.1 (vp_in_nI (by omega) (by omega)) (nI_clamp (by omega)) dL_law_349 (q := 350) rfl ?_
  refine l_call h.1 h.2.1 h.2.2.2.1 h.2.2.2.2.2.2.2.1 (As := [.int (xs (i + 1)), .int (xs (i + 2)), .int (xs (i + 3))]) (rest := []) (c_X9_change (w := u1) (σ := σ) hs hR) cal_X9_change calV_X9_change m355 ⟨rfl, rfl, Nat.le_of_ble_eq_true rfl, Nat.le_of_ble_eq_true rfl⟩ rfl hs.1.1 hs.1.2 ⟨_, _, rfl⟩ rfl (Nat.le_of_ble_eq_true rfl) dL_law_350 (q := 353) rfl (kLA (fun σ1 g1 => ?_))
  refine l_aload_n h.1 (i := 2) dL_law_353 (q := 354) rfl rfl 1 rfl ?_
  refine l_aload_n h.1 (i := 0) dL_law_354 (q := 355) rfl rfl 3 rfl ?_
  refine l_iload_n h.1 (i := 3) dL_law_355 (q := 356) rfl rfl 0 rfl ?_
  refine l_iconst h.1 (v := 1) dL_law_356 (q := 357) rfl (by decide) ?_
  refine l_iadd h.1 dL_law_357 (q := 358) rfl ?_
  rw [show (nI i + 1 : Int32) = nI (i + 1) from nI_add i 1]
  refine l_sld h.1 (k := (i + 1)) h.2.2.2.2.1 h.2.2.2.2.2.1 h.2.2.2.2.2.2.1 (vp_in_nI (by omega) (by omega)) (nI_clamp (by omega)) dL_law_358 (q := 359) rfl ?_
  refine l_aload_n h.1 (i := 0) dL_law_359 (q := 360) rfl rfl 3 rfl ?_
  refine l_iload_n h.1 (i := 3) dL_law_360 (q := 361) rfl rfl 0 rfl ?_
  refine l_iconst h.1 (v := 2) dL_law_361 (q := 362) rfl (by decide) ?_
  refine l_iadd h.1 dL_law_362 (q := 363) rfl ?_
  rw [show (nI i + 2 : Int32) = nI (i + 2) from nI_add i 2]
  refine l_sld h.1 (k := (i + 2)) h.2.2.2.2.1 h.2.2.2.2.2.1 h.2.2.2.2.2.2.1 (vp_in_nI (by omega) (by omega)) (nI_clamp (by omega)) dL_law_363 (q := 364) rfl ?_
  refine l_aload_n h.1 (i := 0) dL_law_364 (q := 365) rfl rfl 3 rfl ?_
  refine l_iload_n h.1 (i := 3) dL_law_365 (q := 366) rfl rfl 0 rfl ?_
  refine l_iconst h.1 (v := 3) dL_law_366 (q := 367) rfl (by decide) ?_
  refine l_iadd h.1 dL_law_367 (q := 368) rfl ?_
  rw [show (nI i + 3 : Int32) = nI (i + 3) from nI_add i 3]
  refine l_sld h.1 (k := (i + 3)) h.2.2.2.2.1 h.2.2.2.2.2.1 h.2.2.2.2.2.2.1 (vp_in_nI (by omega) (by omega)) (nI_clamp (by omega)) dL_law_368 (q := 369) rfl ?_
  refine VL.swap ?_
  refine l_call h.1 h.2.2.1 (fun q z1 z2 => h.2.2.2.1 q z2 z1) h.2.2.2.2.2.2.2.1 (As := [.int (xs (i + 1)), .int (xs (i + 2)), .int (xs (i + 3))]) (rest := [.int _]) (c_X10_change (w := u2) (σ := τ) hm hQ) cal_X10_change calV_X10_change m969 ⟨rfl, rfl, Nat.le_of_ble_eq_true rfl, Nat.le_of_ble_eq_true rfl⟩ rfl hm.1.1 hm.1.2 ⟨_, _, rfl⟩ rfl (Nat.le_of_ble_eq_true rfl) dL_law_369 (q := 372) rfl (kLM (fun τ1 g2 => ?_))
  exact l_icmp_eq h.1 (t := 1556) dL_law_372 (by decide) (q := 375) rfl (fun _ => kk σ1 τ1 _ g1 g2) (fun z => absurd rfl z)
set_option maxHeartbeats 4000000 in
theorem law_5 {x : bX} {u1 u2 : bw} {D : va_G} {kd : Nat → ClassId} {ad : bAd} {B L b : Nat} {xs : Nat → Int32} {C S : Nat} {Q : State → Prop} {σ τ : bSt} {A : bA} {i : Nat} (h : CL x u1 u2 D kd ad B L b xs C S) (hs : sOpera u1) (hm : sModel u2) (hR : RC σ A) (hQ : RQ τ A) (hi : i + 6 ≤ L) (kk : ∀ (σ' τ' : bSt) (A' : bA), RC σ' A' → RQ τ' A' → VL x u1 u2 B C S Q 1556 [(3, .int (nI i)), (2, .ref (b_ad u2 0)), (1, .ref (b_ad u1 0)), (0, .ref b)] [] σ' τ') : VL x u1 u2 B C S Q 377 [(3, .int (nI i)), (2, .ref (b_ad u2 0)), (1, .ref (b_ad u1 0)), (0, .ref b)] [] σ τ := by
  have hL := h.2.2.2.2.2.2.2.2
  refine l_aload_n h.1 (i := 1) dL_law_377 (q := 378) rfl rfl 2 rfl ?_
  refine l_aload_n h.1 (i := 0) dL_law_378 (q := 379) rfl rfl 3 rfl ?_
  refine l_iload_n h.1 (i := 3) dL_law_379 (q := 380) rfl rfl 0 rfl ?_
  refine l_iconst h.1 (v := 1) dL_law_380 (q := 381) rfl (by decide) ?_
  refine l_iadd h.1 dL_law_381 (q := 382) rfl ?_
  rw [show (nI i + 1 : Int32) = nI (i + 1) from nI_add i 1]
  refine l_sld h.1 (k := (i + 1)) h.2.2.2.2.1 h.2.2.2.2.2.1 h.2.2.2.2.2.2.1 (vp_in_nI (by omega) (by omega)) (nI_clamp (by omega)) dL_law_382 (q := 383) rfl ?_
  refine l_aload_n h.1 (i := 0) dL_law_383 (q := 384) rfl rfl 3 rfl ?_
  refine l_iload_n h.1 (i := 3) dL_law_384 (q := 385) rfl rfl 0 rfl ?_
  refine l_iconst h.1 (v := 2) dL_law_385 (q := 386) rfl (by decide) ?_
  refine l_iadd h.1 dL_law_386 (q := 387) rfl ?_
  rw [show (nI i + 2 : Int32) = nI (i + 2) from nI_add i 2]
  refine l_sld h.1 (k := (i + 2)) h.2.2.2.2.1 h.2.2.2.2.2.1 h.2.2.2.2.2.2.1 (vp_in_nI (by omega) (by omega)) (nI_clamp (by omega)) dL_law_387 (q := 388) rfl ?_
  refine l_call h.1 h.2.1 h.2.2.2.1 h.2.2.2.2.2.2.2.1 (As := [.int (xs (i + 1)), .int (xs (i + 2))]) (rest := []) (c_X9_become (w := u1) (σ := σ) hs hR) cal_X9_become calV_X9_become m359 ⟨rfl, rfl, Nat.le_of_ble_eq_true rfl, Nat.le_of_ble_eq_true rfl⟩ rfl hs.1.1 hs.1.2 ⟨_, _, rfl⟩ rfl (Nat.le_of_ble_eq_true rfl) dL_law_388 (q := 391) rfl (kLA (fun σ1 g1 => ?_))
  refine l_aload_n h.1 (i := 2) dL_law_391 (q := 392) rfl rfl 1 rfl ?_
  refine l_aload_n h.1 (i := 0) dL_law_392 (q := 393) rfl rfl 3 rfl ?_
  refine l_iload_n h.1 (i := 3) dL_law_393 (q := 394) rfl rfl 0 rfl ?_
  refine l_iconst h.1 (v := 1) dL_law_394 (q := 395) rfl (by decide) ?_
  refine l_iadd h.1 dL_law_395 (q := 396) rfl ?_
  rw [show (nI i + 1 : Int32) = nI (i + 1) from nI_add i 1]
  refine l_sld h.1 (k := (i + 1)) h.2.2.2.2.1 h.2.2.2.2.2.1 h.2.2.2.2.2.2.1 (vp_in_nI (by omega) (by omega)) (nI_clamp (by omega)) dL_law_396 (q := 397) rfl ?_
  refine l_aload_n h.1 (i := 0) dL_law_397 (q := 398) rfl rfl 3 rfl ?_
  refine l_iload_n h.1 (i := 3) dL_law_398 (q := 399) rfl rfl 0 rfl ?_
  refine l_iconst h.1 (v := 2) dL_law_399 (q := 400) rfl (by decide) ?_
  refine l_iadd h.1 dL_law_400 (q := 401) rfl ?_
  rw [show (nI i + 2 : Int32) = nI (i + 2) from nI_add i 2]
  refine l_sld h.1 (k := (i + 2)) h.2.2.2.2.1 h.2.2.2.2.2.1 h.2.2.2.2.2.2.1 (vp_in_nI (by omega) (by omega)) (nI_clamp (by omega)) dL_law_401 (q := 402) rfl ?_
  refine VL.swap ?_
  refine l_call h.1 h.2.2.1 (fun q z1 z2 => h.2.2.2.1 q z2 z1) h.2.2.2.2.2.2.2.1 (As := [.int (xs (i + 1)), .int (xs (i + 2))]) (rest := [.int _]) (c_X10_become (w := u2) (σ := τ) hm hQ) cal_X10_become calV_X10_become m973 ⟨rfl, rfl, Nat.le_of_ble_eq_true rfl, Nat.le_of_ble_eq_true rfl⟩ rfl hm.1.1 hm.1.2 ⟨_, _, rfl⟩ rfl (Nat.le_of_ble_eq_true rfl) dL_law_402 (q := 405) rfl (kLM (fun τ1 g2 => ?_))
  exact l_icmp_eq h.1 (t := 1556) dL_law_405 (by decide) (q := 408) rfl (fun _ => kk σ1 τ1 _ g1 g2) (fun z => absurd rfl z)
set_option maxHeartbeats 4000000 in
theorem law_6 {x : bX} {u1 u2 : bw} {D : va_G} {kd : Nat → ClassId} {ad : bAd} {B L b : Nat} {xs : Nat → Int32} {C S : Nat} {Q : State → Prop} {σ τ : bSt} {A : bA} {i : Nat} (h : CL x u1 u2 D kd ad B L b xs C S) (hs : sOpera u1) (hm : sModel u2) (hR : RC σ A) (hQ : RQ τ A) (hi : i + 6 ≤ L) (kk : ∀ (σ' τ' : bSt) (A' : bA), RC σ' A' → RQ τ' A' → VL x u1 u2 B C S Q 1556 [(3, .int (nI i)), (2, .ref (b_ad u2 0)), (1, .ref (b_ad u1 0)), (0, .ref b)] [] σ' τ') : VL x u1 u2 B C S Q 410 [(3, .int (nI i)), (2, .ref (b_ad u2 0)), (1, .ref (b_ad u1 0)), (0, .ref b)] [] σ τ := by
  have hL := h.2.2.2.2.2.2.2.2
  refine l_aload_n h.1 (i := 1) dL_law_410 (q := 411) rfl rfl 2 rfl ?_
  refine l_aload_n h.1 (i := 0) dL_law_411 (q := 412) rfl rfl 3 rfl ?_
  refine l_iload_n h.1 (i := 3) dL_law_412 (q := 413) rfl rfl 0 rfl ?_
  refine l_iconst h.1 (v := 1) dL_law_413 (q := 414) rfl (by decide) ?_
  refine l_iadd h.1 dL_law_414 (q := 415) rfl ?_
  rw [show (nI i + 1 : Int32) = nI (i + 1) from nI_add i 1]
  refine l_sld h.1 (k := (i + 1)) h.2.2.2.2.1 h.2.2.2.2.2.1 h.2.2.2.2.2.2.1 (vp_in_nI (by omega) (by omega)) (nI_clamp (by omega)) dL_law_415 (q := 416) rfl ?_
  refine l_aload_n h.1 (i := 0) dL_law_416 (q := 417) rfl rfl 3 rfl ?_
  refine l_iload_n h.1 (i := 3) dL_law_417 (q := 418) rfl rfl 0 rfl ?_
  refine l_iconst h.1 (v := 2) dL_law_418 (q := 419) rfl (by decide) ?_
  refine l_iadd h.1 dL_law_419 (q := 420) rfl ?_
  rw [show (nI i + 2 : Int32) = nI (i + 2) from nI_add i 2]
  refine l_sld h.1 (k := (i + 2)) h.2.2.2.2.1 h.2.2.2.2.2.1 h.2.2.2.2.2.2.1 (vp_in_nI (by omega) (by omega)) (nI_clamp (by omega)) dL_law_420 (q := 421) rfl ?_
  refine l_call h.1 h.2.1 h.2.2.2.1 h.2.2.2.2.2.2.2.1 (As := [.int (xs (i + 1)), .int (xs (i + 2))]) (rest := []) (c_X9_as (w := u1) (σ := σ) hs hR) cal_X9_as calV_X9_as m363 ⟨rfl, rfl, Nat.le_of_ble_eq_true rfl, Nat.le_of_ble_eq_true rfl⟩ rfl hs.1.1 hs.1.2 ⟨_, _, rfl⟩ rfl (Nat.le_of_ble_eq_true rfl) dL_law_421 (q := 424) rfl (kLA (fun σ1 g1 => ?_))
  refine l_aload_n h.1 (i := 2) dL_law_424 (q := 425) rfl rfl 1 rfl ?_
  refine l_aload_n h.1 (i := 0) dL_law_425 (q := 426) rfl rfl 3 rfl ?_
  refine l_iload_n h.1 (i := 3) dL_law_426 (q := 427) rfl rfl 0 rfl ?_
  refine l_iconst h.1 (v := 1) dL_law_427 (q := 428) rfl (by decide) ?_
  refine l_iadd h.1 dL_law_428 (q := 429) rfl ?_
  rw [show (nI i + 1 : Int32) = nI (i + 1) from nI_add i 1]
  refine l_sld h.1 (k := (i + 1)) h.2.2.2.2.1 h.2.2.2.2.2.1 h.2.2.2.2.2.2.1 (vp_in_nI (by omega) (by omega)) (nI_clamp (by omega)) dL_law_429 (q := 430) rfl ?_
  refine l_aload_n h.1 (i := 0) dL_law_430 (q := 431) rfl rfl 3 rfl ?_
  refine l_iload_n h.1 (i := 3) dL_law_431 (q := 432) rfl rfl 0 rfl ?_
  refine l_iconst h.1 (v := 2) dL_law_432 (q := 433) rfl (by decide) ?_
  refine l_iadd h.1 dL_law_433 (q := 434) rfl ?_
  rw [show (nI i + 2 : Int32) = nI (i + 2) from nI_add i 2]
  refine l_sld h.1 (k := (i + 2)) h.2.2.2.2.1 h.2.2.2.2.2.1 h.2.2.2.2.2.2.1 (vp_in_nI (by omega) (by omega)) (nI_clamp (by omega)) dL_law_434 (q := 435) rfl ?_
  refine VL.swap ?_
  refine l_call h.1 h.2.2.1 (fun q z1 z2 => h.2.2.2.1 q z2 z1) h.2.2.2.2.2.2.2.1 (As := [.int (xs (i + 1)), .int (xs (i + 2))]) (rest := [.int _]) (c_X10_as (w := u2) (σ := τ) hm hQ) cal_X10_as calV_X10_as m977 ⟨rfl, rfl, Nat.le_of_ble_eq_true rfl, Nat.le_of_ble_eq_true rfl⟩ rfl hm.1.1 hm.1.2 ⟨_, _, rfl⟩ rfl (Nat.le_of_ble_eq_true rfl) dL_law_435 (q := 438) rfl (kLM (fun τ1 g2 => ?_))
  exact l_icmp_eq h.1 (t := 1556) dL_law_438 (by decide) (q := 441) rfl (fun _ => kk σ1 τ1 _ g1 g2) (fun z => absurd rfl z)
set_option maxHeartbeats 4000000 in
theorem law_7 {x : bX} {u1 u2 : bw} {D : va_G} {kd : Nat → ClassId} {ad : bAd} {B L b : Nat} {xs : Nat → Int32} {C S : Nat} {Q : State → Prop} {σ τ : bSt} {A : bA} {i : Nat} (h : CL x u1 u2 D kd ad B L b xs C S) (hs : sOpera u1) (hm : sModel u2) (hR : RC σ A) (hQ : RQ τ A) (hi : i + 6 ≤ L) (kk : ∀ (σ' τ' : bSt) (A' : bA), RC σ' A' → RQ τ' A' → VL x u1 u2 B C S Q 1556 [(3, .int (nI i)), (2, .ref (b_ad u2 0)), (1, .ref (b_ad u1 0)), (0, .ref b)] [] σ' τ') : VL x u1 u2 B C S Q 443 [(3, .int (nI i)), (2, .ref (b_ad u2 0)), (1, .ref (b_ad u1 0)), (0, .ref b)] [] σ τ := by
  have hL := h.2.2.2.2.2.2.2.2
  refine l_aload_n h.1 (i := 1) dL_law_443 (q := 444) rfl rfl 2 rfl ?_
  refine l_aload_n h.1 (i := 0) dL_law_444 (q := 445) rfl rfl 3 rfl ?_
  refine l_iload_n h.1 (i := 3) dL_law_445 (q := 446) rfl rfl 0 rfl ?_
  refine l_iconst h.1 (v := 1) dL_law_446 (q := 447) rfl (by decide) ?_
  refine l_iadd h.1 dL_law_447 (q := 448) rfl ?_
  rw [show (nI i + 1 : Int32) = nI (i + 1) from nI_add i 1]
  refine l_sld h.1 (k := (i + 1)) h.2.2.2.2.1 h.2.2.2.2.2.1 h.2.2.2.2.2.2.1 (vp_in_nI (by omega) (by omega)) (nI_clamp (by omega)) dL_law_448 (q := 449) rfl ?_
  refine l_aload_n h.1 (i := 0) dL_law_449 (q := 450) rfl rfl 3 rfl ?_
  refine l_iload_n h.1 (i := 3) dL_law_450 (q := 451) rfl rfl 0 rfl ?_
  refine l_iconst h.1 (v := 2) dL_law_451 (q := 452) rfl (by decide) ?_
  refine l_iadd h.1 dL_law_452 (q := 453) rfl ?_
  rw [show (nI i + 2 : Int32) = nI (i + 2) from nI_add i 2]
  refine l_sld h.1 (k := (i + 2)) h.2.2.2.2.1 h.2.2.2.2.2.1 h.2.2.2.2.2.2.1 (vp_in_nI (by omega) (by omega)) (nI_clamp (by omega)) dL_law_453 (q := 454) rfl ?_
  refine l_call h.1 h.2.1 h.2.2.2.1 h.2.2.2.2.2.2.2.1 (As := [.int (xs (i + 1)), .int (xs (i + 2))]) (rest := []) (c_X9_lag (w := u1) (σ := σ) hs hR) cal_X9_lag calV_X9_lag m375 ⟨rfl, rfl, Nat.le_of_ble_eq_true rfl, Nat.le_of_ble_eq_true rfl⟩ rfl hs.1.1 hs.1.2 ⟨_, _, rfl⟩ rfl (Nat.le_of_ble_eq_true rfl) dL_law_454 (q := 457) rfl (kLA (fun σ1 g1 => ?_))
  refine l_aload_n h.1 (i := 2) dL_law_457 (q := 458) rfl rfl 1 rfl ?_
  refine l_aload_n h.1 (i := 0) dL_law_458 (q := 459) rfl rfl 3 rfl ?_
  refine l_iload_n h.1 (i := 3) dL_law_459 (q := 460) rfl rfl 0 rfl ?_
  refine l_iconst h.1 (v := 1) dL_law_460 (q := 461) rfl (by decide) ?_
  refine l_iadd h.1 dL_law_461 (q := 462) rfl ?_
  rw [show (nI i + 1 : Int32) = nI (i + 1) from nI_add i 1]
  refine l_sld h.1 (k := (i + 1)) h.2.2.2.2.1 h.2.2.2.2.2.1 h.2.2.2.2.2.2.1 (vp_in_nI (by omega) (by omega)) (nI_clamp (by omega)) dL_law_462 (q := 463) rfl ?_
  refine l_aload_n h.1 (i := 0) dL_law_463 (q := 464) rfl rfl 3 rfl ?_
  refine l_iload_n h.1 (i := 3) dL_law_464 (q := 465) rfl rfl 0 rfl ?_
  refine l_iconst h.1 (v := 2) dL_law_465 (q := 466) rfl (by decide) ?_
  refine l_iadd h.1 dL_law_466 (q := 467) rfl ?_
  rw [show (nI i + 2 : Int32) = nI (i + 2) from nI_add i 2]
  refine l_sld h.1 (k := (i + 2)) h.2.2.2.2.1 h.2.2.2.2.2.1 h.2.2.2.2.2.2.1 (vp_in_nI (by omega) (by omega)) (nI_clamp (by omega)) dL_law_467 (q := 468) rfl ?_
  refine VL.swap ?_
  refine l_call h.1 h.2.2.1 (fun q z1 z2 => h.2.2.2.1 q z2 z1) h.2.2.2.2.2.2.2.1 (As := [.int (xs (i + 1)), .int (xs (i + 2))]) (rest := [.int _]) (c_X10_lag (w := u2) (σ := τ) hm hQ) cal_X10_lag calV_X10_lag m985 ⟨rfl, rfl, Nat.le_of_ble_eq_true rfl, Nat.le_of_ble_eq_true rfl⟩ rfl hm.1.1 hm.1.2 ⟨_, _, rfl⟩ rfl (Nat.le_of_ble_eq_true rfl) dL_law_468 (q := 471) rfl (kLM (fun τ1 g2 => ?_))
  exact l_icmp_eq h.1 (t := 1556) dL_law_471 (by decide) (q := 474) rfl (fun _ => kk σ1 τ1 _ g1 g2) (fun z => absurd rfl z)
set_option maxHeartbeats 4000000 in
theorem law_8 {x : bX} {u1 u2 : bw} {D : va_G} {kd : Nat → ClassId} {ad : bAd} {B L b : Nat} {xs : Nat → Int32} {C S : Nat} {Q : State → Prop} {σ τ : bSt} {A : bA} {i : Nat} (h : CL x u1 u2 D kd ad B L b xs C S) (hs : sOpera u1) (hm : sModel u2) (hR : RC σ A) (hQ : RQ τ A) (hi : i + 6 ≤ L) (kk : ∀ (σ' τ' : bSt) (A' : bA), RC σ' A' → RQ τ' A' → VL x u1 u2 B C S Q 1556 [(3, .int (nI i)), (2, .ref (b_ad u2 0)), (1, .ref (b_ad u1 0)), (0, .ref b)] [] σ' τ') : VL x u1 u2 B C S Q 476 [(3, .int (nI i)), (2, .ref (b_ad u2 0)), (1, .ref (b_ad u1 0)), (0, .ref b)] [] σ τ := by
  have hL := h.2.2.2.2.2.2.2.2
  refine l_aload_n h.1 (i := 1) dL_law_476 (q := 477) rfl rfl 2 rfl ?_
  refine l_aload_n h.1 (i := 0) dL_law_477 (q := 478) rfl rfl 3 rfl ?_
  refine l_iload_n h.1 (i := 3) dL_law_478 (q := 479) rfl rfl 0 rfl ?_
  refine l_iconst h.1 (v := 1) dL_law_479 (q := 480) rfl (by decide) ?_
  refine l_iadd h.1 dL_law_480 (q := 481) rfl ?_
  rw [show (nI i + 1 : Int32) = nI (i + 1) from nI_add i 1]
  refine l_sld h.1 (k := (i + 1)) h.2.2.2.2.1 h.2.2.2.2.2.1 h.2.2.2.2.2.2.1 (vp_in_nI (by omega) (by omega)) (nI_clamp (by omega)) dL_law_481 (q := 482) rfl ?_
  refine l_call h.1 h.2.1 h.2.2.2.1 h.2.2.2.2.2.2.2.1 (As := [.int (xs (i + 1))]) (rest := []) (c_X9_listener (w := u1) (σ := σ) hs hR) cal_X9_listener calV_X9_listener m418 ⟨rfl, rfl, Nat.le_of_ble_eq_true rfl, Nat.le_of_ble_eq_true rfl⟩ rfl hs.1.1 hs.1.2 ⟨_, _, rfl⟩ rfl (Nat.le_of_ble_eq_true rfl) dL_law_482 (q := 485) rfl (kLA (fun σ1 g1 => ?_))
  refine l_aload_n h.1 (i := 2) dL_law_485 (q := 486) rfl rfl 1 rfl ?_
  refine l_aload_n h.1 (i := 0) dL_law_486 (q := 487) rfl rfl 3 rfl ?_
  refine l_iload_n h.1 (i := 3) dL_law_487 (q := 488) rfl rfl 0 rfl ?_
  refine l_iconst h.1 (v := 1) dL_law_488 (q := 489) rfl (by decide) ?_
  refine l_iadd h.1 dL_law_489 (q := 490) rfl ?_
  rw [show (nI i + 1 : Int32) = nI (i + 1) from nI_add i 1]
  refine l_sld h.1 (k := (i + 1)) h.2.2.2.2.1 h.2.2.2.2.2.1 h.2.2.2.2.2.2.1 (vp_in_nI (by omega) (by omega)) (nI_clamp (by omega)) dL_law_490 (q := 491) rfl ?_
  refine VL.swap ?_
  refine l_call h.1 h.2.2.1 (fun q z1 z2 => h.2.2.2.1 q z2 z1) h.2.2.2.2.2.2.2.1 (As := [.int (xs (i + 1))]) (rest := [.int _]) (c_X10_listener (w := u2) (σ := τ) hm hQ) cal_X10_listener calV_X10_listener m1021 ⟨rfl, rfl, Nat.le_of_ble_eq_true rfl, Nat.le_of_ble_eq_true rfl⟩ rfl hm.1.1 hm.1.2 ⟨_, _, rfl⟩ rfl (Nat.le_of_ble_eq_true rfl) dL_law_491 (q := 494) rfl (kLM (fun τ1 g2 => ?_))
  exact l_icmp_eq h.1 (t := 1556) dL_law_494 (by decide) (q := 497) rfl (fun _ => kk σ1 τ1 _ g1 g2) (fun z => absurd rfl z)
set_option maxHeartbeats 4000000 in
theorem law_9 {x : bX} {u1 u2 : bw} {D : va_G} {kd : Nat → ClassId} {ad : bAd} {B L b : Nat} {xs : Nat → Int32} {C S : Nat} {Q : State → Prop} {σ τ : bSt} {A : bA} {i : Nat} (h : CL x u1 u2 D kd ad B L b xs C S) (hs : sOpera u1) (hm : sModel u2) (hR : RC σ A) (hQ : RQ τ A) (hi : i + 6 ≤ L) (kk : ∀ (σ' τ' : bSt) (A' : bA), RC σ' A' → RQ τ' A' → VL x u1 u2 B C S Q 1556 [(3, .int (nI i)), (2, .ref (b_ad u2 0)), (1, .ref (b_ad u1 0)), (0, .ref b)] [] σ' τ') : VL x u1 u2 B C S Q 499 [(3, .int (nI i)), (2, .ref (b_ad u2 0)), (1, .ref (b_ad u1 0)), (0, .ref b)] [] σ τ := by
  have hL := h.2.2.2.2.2.2.2.2
  refine l_aload_n h.1 (i := 1) dL_law_499 (q := 500) rfl rfl 2 rfl ?_
  refine l_aload_n h.1 (i := 0) dL_law_500 (q := 501) rfl rfl 3 rfl ?_
  refine l_iload_n h.1 (i := 3) dL_law_501 (q := 502) rfl rfl 0 rfl ?_
  refine l_iconst h.1 (v := 1) dL_law_502 (q := 503) rfl (by decide) ?_
  refine l_iadd h.1 dL_law_503 (q := 504) rfl ?_
  rw [show (nI i + 1 : Int32) = nI (i + 1) from nI_add i 1]
  refine l_sld h.1 (k := (i + 1)) h.2.2.2.2.1 h.2.2.2.2.2.1 h.2.2.2.2.2.2.1 (vp_in_nI (by omega) (by omega)) (nI_clamp (by omega)) dL_law_504 (q := 505) rfl ?_
  refine l_aload_n h.1 (i := 0) dL_law_505 (q := 506) rfl rfl 3 rfl ?_
  refine l_iload_n h.1 (i := 3) dL_law_506 (q := 507) rfl rfl 0 rfl ?_
  refine l_iconst h.1 (v := 2) dL_law_507 (q := 508) rfl (by decide) ?_
  refine l_iadd h.1 dL_law_508 (q := 509) rfl ?_
  rw [show (nI i + 2 : Int32) = nI (i + 2) from nI_add i 2]
  refine l_sld h.1 (k := (i + 2)) h.2.2.2.2.1 h.2.2.2.2.2.1 h.2.2.2.2.2.2.1 (vp_in_nI (by omega) (by omega)) (nI_clamp (by omega)) dL_law_509 (q := 510) rfl ?_
  refine l_call h.1 h.2.1 h.2.2.2.1 h.2.2.2.2.2.2.2.1 (As := [.int (xs (i + 1)), .int (xs (i + 2))]) (rest := []) (c_X9_ofListener (w := u1) (σ := σ) hs hR) cal_X9_ofListener calV_X9_ofListener m426 ⟨rfl, rfl, Nat.le_of_ble_eq_true rfl, Nat.le_of_ble_eq_true rfl⟩ rfl hs.1.1 hs.1.2 ⟨_, _, rfl⟩ rfl (Nat.le_of_ble_eq_true rfl) dL_law_510 (q := 513) rfl (kLA (fun σ1 g1 => ?_))
  refine l_aload_n h.1 (i := 2) dL_law_513 (q := 514) rfl rfl 1 rfl ?_
  refine l_aload_n h.1 (i := 0) dL_law_514 (q := 515) rfl rfl 3 rfl ?_
  refine l_iload_n h.1 (i := 3) dL_law_515 (q := 516) rfl rfl 0 rfl ?_
  refine l_iconst h.1 (v := 1) dL_law_516 (q := 517) rfl (by decide) ?_
  refine l_iadd h.1 dL_law_517 (q := 518) rfl ?_
  rw [show (nI i + 1 : Int32) = nI (i + 1) from nI_add i 1]
  refine l_sld h.1 (k := (i + 1)) h.2.2.2.2.1 h.2.2.2.2.2.1 h.2.2.2.2.2.2.1 (vp_in_nI (by omega) (by omega)) (nI_clamp (by omega)) dL_law_518 (q := 519) rfl ?_
  refine l_aload_n h.1 (i := 0) dL_law_519 (q := 520) rfl rfl 3 rfl ?_
  refine l_iload_n h.1 (i := 3) dL_law_520 (q := 521) rfl rfl 0 rfl ?_
  refine l_iconst h.1 (v := 2) dL_law_521 (q := 522) rfl (by decide) ?_
  refine l_iadd h.1 dL_law_522 (q := 523) rfl ?_
  rw [show (nI i + 2 : Int32) = nI (i + 2) from nI_add i 2]
  refine l_sld h.1 (k := (i + 2)) h.2.2.2.2.1 h.2.2.2.2.2.1 h.2.2.2.2.2.2.1 (vp_in_nI (by omega) (by omega)) (nI_clamp (by omega)) dL_law_523 (q := 524) rfl ?_
  refine VL.swap ?_
  refine l_call h.1 h.2.2.1 (fun q z1 z2 => h.2.2.2.1 q z2 z1) h.2.2.2.2.2.2.2.1 (As := [.int (xs (i + 1)), .int (xs (i + 2))]) (rest := [.int _]) (c_X10_ofListener (w := u2) (σ := τ) hm hQ) cal_X10_ofListener calV_X10_ofListener m1025 ⟨rfl, rfl, Nat.le_of_ble_eq_true rfl, Nat.le_of_ble_eq_true rfl⟩ rfl hm.1.1 hm.1.2 ⟨_, _, rfl⟩ rfl (Nat.le_of_ble_eq_true rfl) dL_law_524 (q := 527) rfl (kLM (fun τ1 g2 => ?_))
  exact l_icmp_eq h.1 (t := 1556) dL_law_527 (by decide) (q := 530) rfl (fun _ => kk σ1 τ1 _ g1 g2) (fun z => absurd rfl z)
set_option maxHeartbeats 4000000 in
theorem law_10 {x : bX} {u1 u2 : bw} {D : va_G} {kd : Nat → ClassId} {ad : bAd} {B L b : Nat} {xs : Nat → Int32} {C S : Nat} {Q : State → Prop} {σ τ : bSt} {A : bA} {i : Nat} (h : CL x u1 u2 D kd ad B L b xs C S) (hs : sOpera u1) (hm : sModel u2) (hR : RC σ A) (hQ : RQ τ A) (hi : i + 6 ≤ L) (kk : ∀ (σ' τ' : bSt) (A' : bA), RC σ' A' → RQ τ' A' → VL x u1 u2 B C S Q 1556 [(3, .int (nI i)), (2, .ref (b_ad u2 0)), (1, .ref (b_ad u1 0)), (0, .ref b)] [] σ' τ') : VL x u1 u2 B C S Q 532 [(3, .int (nI i)), (2, .ref (b_ad u2 0)), (1, .ref (b_ad u1 0)), (0, .ref b)] [] σ τ := by
  have hL := h.2.2.2.2.2.2.2.2
  refine l_aload_n h.1 (i := 1) dL_law_532 (q := 533) rfl rfl 2 rfl ?_
  refine l_aload_n h.1 (i := 0) dL_law_533 (q := 534) rfl rfl 3 rfl ?_
  refine l_iload_n h.1 (i := 3) dL_law_534 (q := 535) rfl rfl 0 rfl ?_
  refine l_iconst h.1 (v := 1) dL_law_535 (q := 536) rfl (by decide) ?_
  refine l_iadd h.1 dL_law_536 (q := 537) rfl ?_
  rw [show (nI i + 1 : Int32) = nI (i + 1) from nI_add i 1]
  refine l_sld h.1 (k := (i + 1)) h.2.2.2.2.1 h.2.2.2.2.2.1 h.2.2.2.2.2.2.1 (vp_in_nI (by omega) (by omega)) (nI_clamp (by omega)) dL_law_537 (q := 538) rfl ?_
  refine l_aload_n h.1 (i := 0) dL_law_538 (q := 539) rfl rfl 3 rfl ?_
  refine l_iload_n h.1 (i := 3) dL_law_539 (q := 540) rfl rfl 0 rfl ?_
  refine l_iconst h.1 (v := 2) dL_law_540 (q := 541) rfl (by decide) ?_
  refine l_iadd h.1 dL_law_541 (q := 542) rfl ?_
  rw [show (nI i + 2 : Int32) = nI (i + 2) from nI_add i 2]
  refine l_sld h.1 (k := (i + 2)) h.2.2.2.2.1 h.2.2.2.2.2.1 h.2.2.2.2.2.2.1 (vp_in_nI (by omega) (by omega)) (nI_clamp (by omega)) dL_law_542 (q := 543) rfl ?_
  refine l_call h.1 h.2.1 h.2.2.2.1 h.2.2.2.2.2.2.2.1 (As := [.int (xs (i + 1)), .int (xs (i + 2))]) (rest := []) (c_X9_row (w := u1) (σ := σ) hs hR) cal_X9_row calV_X9_row m458 ⟨rfl, rfl, Nat.le_of_ble_eq_true rfl, Nat.le_of_ble_eq_true rfl⟩ rfl hs.1.1 hs.1.2 ⟨_, _, rfl⟩ rfl (Nat.le_of_ble_eq_true rfl) dL_law_543 (q := 546) rfl (kLA (fun σ1 g1 => ?_))
  refine l_aload_n h.1 (i := 2) dL_law_546 (q := 547) rfl rfl 1 rfl ?_
  refine l_aload_n h.1 (i := 0) dL_law_547 (q := 548) rfl rfl 3 rfl ?_
  refine l_iload_n h.1 (i := 3) dL_law_548 (q := 549) rfl rfl 0 rfl ?_
  refine l_iconst h.1 (v := 1) dL_law_549 (q := 550) rfl (by decide) ?_
  refine l_iadd h.1 dL_law_550 (q := 551) rfl ?_
  rw [show (nI i + 1 : Int32) = nI (i + 1) from nI_add i 1]
  refine l_sld h.1 (k := (i + 1)) h.2.2.2.2.1 h.2.2.2.2.2.1 h.2.2.2.2.2.2.1 (vp_in_nI (by omega) (by omega)) (nI_clamp (by omega)) dL_law_551 (q := 552) rfl ?_
  refine l_aload_n h.1 (i := 0) dL_law_552 (q := 553) rfl rfl 3 rfl ?_
  refine l_iload_n h.1 (i := 3) dL_law_553 (q := 554) rfl rfl 0 rfl ?_
  refine l_iconst h.1 (v := 2) dL_law_554 (q := 555) rfl (by decide) ?_
  refine l_iadd h.1 dL_law_555 (q := 556) rfl ?_
  rw [show (nI i + 2 : Int32) = nI (i + 2) from nI_add i 2]
  refine l_sld h.1 (k := (i + 2)) h.2.2.2.2.1 h.2.2.2.2.2.1 h.2.2.2.2.2.2.1 (vp_in_nI (by omega) (by omega)) (nI_clamp (by omega)) dL_law_556 (q := 557) rfl ?_
  refine VL.swap ?_
  refine l_call h.1 h.2.2.1 (fun q z1 z2 => h.2.2.2.1 q z2 z1) h.2.2.2.2.2.2.2.1 (As := [.int (xs (i + 1)), .int (xs (i + 2))]) (rest := [.int _]) (c_X10_row (w := u2) (σ := τ) hm hQ) cal_X10_row calV_X10_row m1048 ⟨rfl, rfl, Nat.le_of_ble_eq_true rfl, Nat.le_of_ble_eq_true rfl⟩ rfl hm.1.1 hm.1.2 ⟨_, _, rfl⟩ rfl (Nat.le_of_ble_eq_true rfl) dL_law_557 (q := 560) rfl (kLM (fun τ1 g2 => ?_))
  exact l_icmp_eq h.1 (t := 1556) dL_law_560 (by decide) (q := 563) rfl (fun _ => kk σ1 τ1 _ g1 g2) (fun z => absurd rfl z)
set_option maxHeartbeats 4000000 in
theorem law_11 {x : bX} {u1 u2 : bw} {D : va_G} {kd : Nat → ClassId} {ad : bAd} {B L b : Nat} {xs : Nat → Int32} {C S : Nat} {Q : State → Prop} {σ τ : bSt} {A : bA} {i : Nat} (h : CL x u1 u2 D kd ad B L b xs C S) (hs : sOpera u1) (hm : sModel u2) (hR : RC σ A) (hQ : RQ τ A) (hi : i + 6 ≤ L) (kk : ∀ (σ' τ' : bSt) (A' : bA), RC σ' A' → RQ τ' A' → VL x u1 u2 B C S Q 1556 [(3, .int (nI i)), (2, .ref (b_ad u2 0)), (1, .ref (b_ad u1 0)), (0, .ref b)] [] σ' τ') : VL x u1 u2 B C S Q 565 [(3, .int (nI i)), (2, .ref (b_ad u2 0)), (1, .ref (b_ad u1 0)), (0, .ref b)] [] σ τ := by
  have hL := h.2.2.2.2.2.2.2.2
  refine l_aload_n h.1 (i := 1) dL_law_565 (q := 566) rfl rfl 2 rfl ?_
  refine l_aload_n h.1 (i := 0) dL_law_566 (q := 567) rfl rfl 3 rfl ?_
  refine l_iload_n h.1 (i := 3) dL_law_567 (q := 568) rfl rfl 0 rfl ?_
  refine l_iconst h.1 (v := 1) dL_law_568 (q := 569) rfl (by decide) ?_
  refine l_iadd h.1 dL_law_569 (q := 570) rfl ?_
  rw [show (nI i + 1 : Int32) = nI (i + 1) from nI_add i 1]
  refine l_sld h.1 (k := (i + 1)) h.2.2.2.2.1 h.2.2.2.2.2.1 h.2.2.2.2.2.2.1 (vp_in_nI (by omega) (by omega)) (nI_clamp (by omega)) dL_law_570 (q := 571) rfl ?_
  refine l_i2l h.1 (v := (xs (i + 1)).toInt64) dL_law_571 (q := 572) rfl rfl ?_
  refine l_bipush h.1 (v := 32) dL_law_572 (q := 574) rfl (by decide) ?_
  refine l_lshl h.1 (v := ((xs (i + 1)).toInt64) <<< ((32 : Int32).toInt64 &&& 63)) dL_law_574 (q := 575) rfl rfl ?_
  refine l_aload_n h.1 (i := 0) dL_law_575 (q := 576) rfl rfl 3 rfl ?_
  refine l_iload_n h.1 (i := 3) dL_law_576 (q := 577) rfl rfl 0 rfl ?_
  refine l_iconst h.1 (v := 2) dL_law_577 (q := 578) rfl (by decide) ?_
  refine l_iadd h.1 dL_law_578 (q := 579) rfl ?_
  rw [show (nI i + 2 : Int32) = nI (i + 2) from nI_add i 2]
  refine l_sld h.1 (k := (i + 2)) h.2.2.2.2.1 h.2.2.2.2.2.1 h.2.2.2.2.2.2.1 (vp_in_nI (by omega) (by omega)) (nI_clamp (by omega)) dL_law_579 (q := 580) rfl ?_
  refine l_i2l h.1 (v := (xs (i + 2)).toInt64) dL_law_580 (q := 581) rfl rfl ?_
  refine l_ldc2 h.1 (v := 4294967295) m1348 dL_law_581 (q := 584) rfl ?_
  refine l_land h.1 dL_law_584 (q := 585) rfl ?_
  refine l_lor h.1 dL_law_585 (q := 586) rfl ?_
  refine l_aload_n h.1 (i := 0) dL_law_586 (q := 587) rfl rfl 3 rfl ?_
  refine l_iload_n h.1 (i := 3) dL_law_587 (q := 588) rfl rfl 0 rfl ?_
  refine l_iconst h.1 (v := 3) dL_law_588 (q := 589) rfl (by decide) ?_
  refine l_iadd h.1 dL_law_589 (q := 590) rfl ?_
  rw [show (nI i + 3 : Int32) = nI (i + 3) from nI_add i 3]
  refine l_sld h.1 (k := (i + 3)) h.2.2.2.2.1 h.2.2.2.2.2.1 h.2.2.2.2.2.2.1 (vp_in_nI (by omega) (by omega)) (nI_clamp (by omega)) dL_law_590 (q := 591) rfl ?_
  refine l_call h.1 h.2.1 h.2.2.2.1 h.2.2.2.2.2.2.2.1 (As := [.long ((((xs (i + 1)).toInt64) <<< ((32 : Int32).toInt64 &&& 63)) ||| (((xs (i + 2)).toInt64) &&& (4294967295))), .int (xs (i + 3))]) (rest := []) (c_X9_feed (w := u1) (σ := σ) hs hR) cal_X9_feed calV_X9_feed m462 ⟨rfl, rfl, Nat.le_of_ble_eq_true rfl, Nat.le_of_ble_eq_true rfl⟩ rfl hs.1.1 hs.1.2 ⟨_, _, rfl⟩ rfl (Nat.le_of_ble_eq_true rfl) dL_law_591 (q := 594) rfl (kLA (fun σ1 g1 => ?_))
  refine l_aload_n h.1 (i := 2) dL_law_594 (q := 595) rfl rfl 1 rfl ?_
  refine l_aload_n h.1 (i := 0) dL_law_595 (q := 596) rfl rfl 3 rfl ?_
  refine l_iload_n h.1 (i := 3) dL_law_596 (q := 597) rfl rfl 0 rfl ?_
  refine l_iconst h.1 (v := 1) dL_law_597 (q := 598) rfl (by decide) ?_
  refine l_iadd h.1 dL_law_598 (q := 599) rfl ?_
  rw [show (nI i + 1 : Int32) = nI (i + 1) from nI_add i 1]
  refine l_sld h.1 (k := (i + 1)) h.2.2.2.2.1 h.2.2.2.2.2.1 h.2.2.2.2.2.2.1 (vp_in_nI (by omega) (by omega)) (nI_clamp (by omega)) dL_law_599 (q := 600) rfl ?_
  refine l_i2l h.1 (v := (xs (i + 1)).toInt64) dL_law_600 (q := 601) rfl rfl ?_
  refine l_bipush h.1 (v := 32) dL_law_601 (q := 603) rfl (by decide) ?_
  refine l_lshl h.1 (v := ((xs (i + 1)).toInt64) <<< ((32 : Int32).toInt64 &&& 63)) dL_law_603 (q := 604) rfl rfl ?_
  refine l_aload_n h.1 (i := 0) dL_law_604 (q := 605) rfl rfl 3 rfl ?_
  refine l_iload_n h.1 (i := 3) dL_law_605 (q := 606) rfl rfl 0 rfl ?_
  refine l_iconst h.1 (v := 2) dL_law_606 (q := 607) rfl (by decide) ?_
  refine l_iadd h.1 dL_law_607 (q := 608) rfl ?_
  rw [show (nI i + 2 : Int32) = nI (i + 2) from nI_add i 2]
  refine l_sld h.1 (k := (i + 2)) h.2.2.2.2.1 h.2.2.2.2.2.1 h.2.2.2.2.2.2.1 (vp_in_nI (by omega) (by omega)) (nI_clamp (by omega)) dL_law_608 (q := 609) rfl ?_
  refine l_i2l h.1 (v := (xs (i + 2)).toInt64) dL_law_609 (q := 610) rfl rfl ?_
  refine l_ldc2 h.1 (v := 4294967295) m1348 dL_law_610 (q := 613) rfl ?_
  refine l_land h.1 dL_law_613 (q := 614) rfl ?_
  refine l_lor h.1 dL_law_614 (q := 615) rfl ?_
  refine l_aload_n h.1 (i := 0) dL_law_615 (q := 616) rfl rfl 3 rfl ?_
  refine l_iload_n h.1 (i := 3) dL_law_616 (q := 617) rfl rfl 0 rfl ?_
  refine l_iconst h.1 (v := 3) dL_law_617 (q := 618) rfl (by decide) ?_
  refine l_iadd h.1 dL_law_618 (q := 619) rfl ?_
  rw [show (nI i + 3 : Int32) = nI (i + 3) from nI_add i 3]
  refine l_sld h.1 (k := (i + 3)) h.2.2.2.2.1 h.2.2.2.2.2.1 h.2.2.2.2.2.2.1 (vp_in_nI (by omega) (by omega)) (nI_clamp (by omega)) dL_law_619 (q := 620) rfl ?_
  refine VL.swap ?_
  refine l_call h.1 h.2.2.1 (fun q z1 z2 => h.2.2.2.1 q z2 z1) h.2.2.2.2.2.2.2.1 (As := [.long ((((xs (i + 1)).toInt64) <<< ((32 : Int32).toInt64 &&& 63)) ||| (((xs (i + 2)).toInt64) &&& (4294967295))), .int (xs (i + 3))]) (rest := [.int _]) (c_X10_feed (w := u2) (σ := τ) hm hQ) cal_X10_feed calV_X10_feed m1052 ⟨rfl, rfl, Nat.le_of_ble_eq_true rfl, Nat.le_of_ble_eq_true rfl⟩ rfl hm.1.1 hm.1.2 ⟨_, _, rfl⟩ rfl (Nat.le_of_ble_eq_true rfl) dL_law_620 (q := 623) rfl (kLM (fun τ1 g2 => ?_))
  exact l_icmp_eq h.1 (t := 1556) dL_law_623 (by decide) (q := 626) rfl (fun _ => kk σ1 τ1 _ g1 g2) (fun z => absurd rfl z)
set_option maxHeartbeats 4000000 in
theorem law_12 {x : bX} {u1 u2 : bw} {D : va_G} {kd : Nat → ClassId} {ad : bAd} {B L b : Nat} {xs : Nat → Int32} {C S : Nat} {Q : State → Prop} {σ τ : bSt} {A : bA} {i : Nat} (h : CL x u1 u2 D kd ad B L b xs C S) (hs : sOpera u1) (hm : sModel u2) (hR : RC σ A) (hQ : RQ τ A) (hi : i + 6 ≤ L) (kk : ∀ (σ' τ' : bSt) (A' : bA), RC σ' A' → RQ τ' A' → VL x u1 u2 B C S Q 1556 [(3, .int (nI i)), (2, .ref (b_ad u2 0)), (1, .ref (b_ad u1 0)), (0, .ref b)] [] σ' τ') : VL x u1 u2 B C S Q 628 [(3, .int (nI i)), (2, .ref (b_ad u2 0)), (1, .ref (b_ad u1 0)), (0, .ref b)] [] σ τ := by
  have hL := h.2.2.2.2.2.2.2.2
  refine l_aload_n h.1 (i := 1) dL_law_628 (q := 629) rfl rfl 2 rfl ?_
  refine l_aload_n h.1 (i := 0) dL_law_629 (q := 630) rfl rfl 3 rfl ?_
  refine l_iload_n h.1 (i := 3) dL_law_630 (q := 631) rfl rfl 0 rfl ?_
  refine l_iconst h.1 (v := 1) dL_law_631 (q := 632) rfl (by decide) ?_
  refine l_iadd h.1 dL_law_632 (q := 633) rfl ?_
  rw [show (nI i + 1 : Int32) = nI (i + 1) from nI_add i 1]
  refine l_sld h.1 (k := (i + 1)) h.2.2.2.2.1 h.2.2.2.2.2.1 h.2.2.2.2.2.2.1 (vp_in_nI (by omega) (by omega)) (nI_clamp (by omega)) dL_law_633 (q := 634) rfl ?_
  refine l_call h.1 h.2.1 h.2.2.2.1 h.2.2.2.2.2.2.2.1 (As := [.int (xs (i + 1))]) (rest := []) (c_X9_text (w := u1) (σ := σ) hs hR) cal_X9_text calV_X9_text m470 ⟨rfl, rfl, Nat.le_of_ble_eq_true rfl, Nat.le_of_ble_eq_true rfl⟩ rfl hs.1.1 hs.1.2 ⟨_, _, rfl⟩ rfl (Nat.le_of_ble_eq_true rfl) dL_law_634 (q := 637) rfl (kLA (fun σ1 g1 => ?_))
  refine l_aload_n h.1 (i := 2) dL_law_637 (q := 638) rfl rfl 1 rfl ?_
  refine l_aload_n h.1 (i := 0) dL_law_638 (q := 639) rfl rfl 3 rfl ?_
  refine l_iload_n h.1 (i := 3) dL_law_639 (q := 640) rfl rfl 0 rfl ?_
  refine l_iconst h.1 (v := 1) dL_law_640 (q := 641) rfl (by decide) ?_
  refine l_iadd h.1 dL_law_641 (q := 642) rfl ?_
  rw [show (nI i + 1 : Int32) = nI (i + 1) from nI_add i 1]
  refine l_sld h.1 (k := (i + 1)) h.2.2.2.2.1 h.2.2.2.2.2.1 h.2.2.2.2.2.2.1 (vp_in_nI (by omega) (by omega)) (nI_clamp (by omega)) dL_law_642 (q := 643) rfl ?_
  refine VL.swap ?_
  refine l_call h.1 h.2.2.1 (fun q z1 z2 => h.2.2.2.1 q z2 z1) h.2.2.2.2.2.2.2.1 (As := [.int (xs (i + 1))]) (rest := [.int _]) (c_X10_text (w := u2) (σ := τ) hm hQ) cal_X10_text calV_X10_text m1057 ⟨rfl, rfl, Nat.le_of_ble_eq_true rfl, Nat.le_of_ble_eq_true rfl⟩ rfl hm.1.1 hm.1.2 ⟨_, _, rfl⟩ rfl (Nat.le_of_ble_eq_true rfl) dL_law_643 (q := 646) rfl (kLM (fun τ1 g2 => ?_))
  exact l_icmp_eq h.1 (t := 1556) dL_law_646 (by decide) (q := 649) rfl (fun _ => kk σ1 τ1 _ g1 g2) (fun z => absurd rfl z)
set_option maxHeartbeats 4000000 in
theorem law_13 {x : bX} {u1 u2 : bw} {D : va_G} {kd : Nat → ClassId} {ad : bAd} {B L b : Nat} {xs : Nat → Int32} {C S : Nat} {Q : State → Prop} {σ τ : bSt} {A : bA} {i : Nat} (h : CL x u1 u2 D kd ad B L b xs C S) (hs : sOpera u1) (hm : sModel u2) (hR : RC σ A) (hQ : RQ τ A) (hi : i + 6 ≤ L) (kk : ∀ (σ' τ' : bSt) (A' : bA), RC σ' A' → RQ τ' A' → VL x u1 u2 B C S Q 1556 [(3, .int (nI i)), (2, .ref (b_ad u2 0)), (1, .ref (b_ad u1 0)), (0, .ref b)] [] σ' τ') : VL x u1 u2 B C S Q 651 [(3, .int (nI i)), (2, .ref (b_ad u2 0)), (1, .ref (b_ad u1 0)), (0, .ref b)] [] σ τ := by
  have hL := h.2.2.2.2.2.2.2.2
  refine l_aload_n h.1 (i := 1) dL_law_651 (q := 652) rfl rfl 2 rfl ?_
  refine l_aload_n h.1 (i := 0) dL_law_652 (q := 653) rfl rfl 3 rfl ?_
  refine l_iload_n h.1 (i := 3) dL_law_653 (q := 654) rfl rfl 0 rfl ?_
  refine l_iconst h.1 (v := 1) dL_law_654 (q := 655) rfl (by decide) ?_
  refine l_iadd h.1 dL_law_655 (q := 656) rfl ?_
  rw [show (nI i + 1 : Int32) = nI (i + 1) from nI_add i 1]
  refine l_sld h.1 (k := (i + 1)) h.2.2.2.2.1 h.2.2.2.2.2.1 h.2.2.2.2.2.2.1 (vp_in_nI (by omega) (by omega)) (nI_clamp (by omega)) dL_law_656 (q := 657) rfl ?_
  refine l_aload_n h.1 (i := 0) dL_law_657 (q := 658) rfl rfl 3 rfl ?_
  refine l_iload_n h.1 (i := 3) dL_law_658 (q := 659) rfl rfl 0 rfl ?_
  refine l_iconst h.1 (v := 2) dL_law_659 (q := 660) rfl (by decide) ?_
  refine l_iadd h.1 dL_law_660 (q := 661) rfl ?_
  rw [show (nI i + 2 : Int32) = nI (i + 2) from nI_add i 2]
  refine l_sld h.1 (k := (i + 2)) h.2.2.2.2.1 h.2.2.2.2.2.1 h.2.2.2.2.2.2.1 (vp_in_nI (by omega) (by omega)) (nI_clamp (by omega)) dL_law_661 (q := 662) rfl ?_
  refine l_aload_n h.1 (i := 0) dL_law_662 (q := 663) rfl rfl 3 rfl ?_
  refine l_iload_n h.1 (i := 3) dL_law_663 (q := 664) rfl rfl 0 rfl ?_
  refine l_iconst h.1 (v := 3) dL_law_664 (q := 665) rfl (by decide) ?_
  refine l_iadd h.1 dL_law_665 (q := 666) rfl ?_
  rw [show (nI i + 3 : Int32) = nI (i + 3) from nI_add i 3]
  refine l_sld h.1 (k := (i + 3)) h.2.2.2.2.1 h.2.2.2.2.2.1 h.2.2.2.2.2.2.1 (vp_in_nI (by omega) (by omega)) (nI_clamp (by omega)) dL_law_666 (q := 667) rfl ?_
  refine l_aload_n h.1 (i := 0) dL_law_667 (q := 668) rfl rfl 3 rfl ?_
  refine l_iload_n h.1 (i := 3) dL_law_668 (q := 669) rfl rfl 0 rfl ?_
  refine l_iconst h.1 (v := 4) dL_law_669 (q := 670) rfl (by decide) ?_
  refine l_iadd h.1 dL_law_670 (q := 671) rfl ?_
  rw [show (nI i + 4 : Int32) = nI (i + 4) from nI_add i 4]
  refine l_sld h.1 (k := (i + 4)) h.2.2.2.2.1 h.2.2.2.2.2.1 h.2.2.2.2.2.2.1 (vp_in_nI (by omega) (by omega)) (nI_clamp (by omega)) dL_law_671 (q := 672) rfl ?_
  refine l_call h.1 h.2.1 h.2.2.2.1 h.2.2.2.2.2.2.2.1 (As := [.int (xs (i + 1)), .int (xs (i + 2)), .int (xs (i + 3)), .int (xs (i + 4))]) (rest := []) (c_X9_law (w := u1) (σ := σ) hs hR) cal_X9_law calV_X9_law m541 ⟨rfl, rfl, Nat.le_of_ble_eq_true rfl, Nat.le_of_ble_eq_true rfl⟩ rfl hs.1.1 hs.1.2 ⟨_, _, rfl⟩ rfl (Nat.le_of_ble_eq_true rfl) dL_law_672 (q := 675) rfl (kLA (fun σ1 g1 => ?_))
  refine l_aload_n h.1 (i := 2) dL_law_675 (q := 676) rfl rfl 1 rfl ?_
  refine l_aload_n h.1 (i := 0) dL_law_676 (q := 677) rfl rfl 3 rfl ?_
  refine l_iload_n h.1 (i := 3) dL_law_677 (q := 678) rfl rfl 0 rfl ?_
  refine l_iconst h.1 (v := 1) dL_law_678 (q := 679) rfl (by decide) ?_
  refine l_iadd h.1 dL_law_679 (q := 680) rfl ?_
  rw [show (nI i + 1 : Int32) = nI (i + 1) from nI_add i 1]
  refine l_sld h.1 (k := (i + 1)) h.2.2.2.2.1 h.2.2.2.2.2.1 h.2.2.2.2.2.2.1 (vp_in_nI (by omega) (by omega)) (nI_clamp (by omega)) dL_law_680 (q := 681) rfl ?_
  refine l_aload_n h.1 (i := 0) dL_law_681 (q := 682) rfl rfl 3 rfl ?_
  refine l_iload_n h.1 (i := 3) dL_law_682 (q := 683) rfl rfl 0 rfl ?_
  refine l_iconst h.1 (v := 2) dL_law_683 (q := 684) rfl (by decide) ?_
  refine l_iadd h.1 dL_law_684 (q := 685) rfl ?_
  rw [show (nI i + 2 : Int32) = nI (i + 2) from nI_add i 2]
  refine l_sld h.1 (k := (i + 2)) h.2.2.2.2.1 h.2.2.2.2.2.1 h.2.2.2.2.2.2.1 (vp_in_nI (by omega) (by omega)) (nI_clamp (by omega)) dL_law_685 (q := 686) rfl ?_
  refine l_aload_n h.1 (i := 0) dL_law_686 (q := 687) rfl rfl 3 rfl ?_
  refine l_iload_n h.1 (i := 3) dL_law_687 (q := 688) rfl rfl 0 rfl ?_
  refine l_iconst h.1 (v := 3) dL_law_688 (q := 689) rfl (by decide) ?_
  refine l_iadd h.1 dL_law_689 (q := 690) rfl ?_
  rw [show (nI i + 3 : Int32) = nI (i + 3) from nI_add i 3]
  refine l_sld h.1 (k := (i + 3)) h.2.2.2.2.1 h.2.2.2.2.2.1 h.2.2.2.2.2.2.1 (vp_in_nI (by omega) (by omega)) (nI_clamp (by omega)) dL_law_690 (q := 691) rfl ?_
  refine l_aload_n h.1 (i := 0) dL_law_691 (q := 692) rfl rfl 3 rfl ?_
  refine l_iload_n h.1 (i := 3) dL_law_692 (q := 693) rfl rfl 0 rfl ?_
  refine l_iconst h.1 (v := 4) dL_law_693 (q := 694) rfl (by decide) ?_
  refine l_iadd h.1 dL_law_694 (q := 695) rfl ?_
  rw [show (nI i + 4 : Int32) = nI (i + 4) from nI_add i 4]
  refine l_sld h.1 (k := (i + 4)) h.2.2.2.2.1 h.2.2.2.2.2.1 h.2.2.2.2.2.2.1 (vp_in_nI (by omega) (by omega)) (nI_clamp (by omega)) dL_law_695 (q := 696) rfl ?_
  refine VL.swap ?_
  refine l_call h.1 h.2.2.1 (fun q z1 z2 => h.2.2.2.1 q z2 z1) h.2.2.2.2.2.2.2.1 (As := [.int (xs (i + 1)), .int (xs (i + 2)), .int (xs (i + 3)), .int (xs (i + 4))]) (rest := [.int _]) (c_X10_law (w := u2) (σ := τ) hm hQ) cal_X10_law calV_X10_law m1153 ⟨rfl, rfl, Nat.le_of_ble_eq_true rfl, Nat.le_of_ble_eq_true rfl⟩ rfl hm.1.1 hm.1.2 ⟨_, _, rfl⟩ rfl (Nat.le_of_ble_eq_true rfl) dL_law_696 (q := 699) rfl (kLM (fun τ1 g2 => ?_))
  exact l_icmp_eq h.1 (t := 1556) dL_law_699 (by decide) (q := 702) rfl (fun _ => kk σ1 τ1 _ g1 g2) (fun z => absurd rfl z)
set_option maxHeartbeats 4000000 in
theorem law_14 {x : bX} {u1 u2 : bw} {D : va_G} {kd : Nat → ClassId} {ad : bAd} {B L b : Nat} {xs : Nat → Int32} {C S : Nat} {Q : State → Prop} {σ τ : bSt} {A : bA} {i : Nat} (h : CL x u1 u2 D kd ad B L b xs C S) (hs : sOpera u1) (hm : sModel u2) (hR : RC σ A) (hQ : RQ τ A) (hi : i + 6 ≤ L) (kk : ∀ (σ' τ' : bSt) (A' : bA), RC σ' A' → RQ τ' A' → VL x u1 u2 B C S Q 1556 [(3, .int (nI i)), (2, .ref (b_ad u2 0)), (1, .ref (b_ad u1 0)), (0, .ref b)] [] σ' τ') : VL x u1 u2 B C S Q 704 [(3, .int (nI i)), (2, .ref (b_ad u2 0)), (1, .ref (b_ad u1 0)), (0, .ref b)] [] σ τ := by
  have hL := h.2.2.2.2.2.2.2.2
  refine l_aload_n h.1 (i := 1) dL_law_704 (q := 705) rfl rfl 2 rfl ?_
  refine l_aload_n h.1 (i := 0) dL_law_705 (q := 706) rfl rfl 3 rfl ?_
  refine l_iload_n h.1 (i := 3) dL_law_706 (q := 707) rfl rfl 0 rfl ?_
  refine l_iconst h.1 (v := 1) dL_law_707 (q := 708) rfl (by decide) ?_
  refine l_iadd h.1 dL_law_708 (q := 709) rfl ?_
  rw [show (nI i + 1 : Int32) = nI (i + 1) from nI_add i 1]
  refine l_sld h.1 (k := (i + 1)) h.2.2.2.2.1 h.2.2.2.2.2.1 h.2.2.2.2.2.2.1 (vp_in_nI (by omega) (by omega)) (nI_clamp (by omega)) dL_law_709 (q := 710) rfl ?_
  refine l_call h.1 h.2.1 h.2.2.2.1 h.2.2.2.2.2.2.2.1 (As := [.int (xs (i + 1))]) (rest := []) (c_X9_beats (w := u1) (σ := σ) hs hR) cal_X9_beats calV_X9_beats m546 ⟨rfl, rfl, Nat.le_of_ble_eq_true rfl, Nat.le_of_ble_eq_true rfl⟩ rfl hs.1.1 hs.1.2 ⟨_, _, rfl⟩ rfl (Nat.le_of_ble_eq_true rfl) dL_law_710 (q := 713) rfl (kLA (fun σ1 g1 => ?_))
  refine l_aload_n h.1 (i := 2) dL_law_713 (q := 714) rfl rfl 1 rfl ?_
  refine l_aload_n h.1 (i := 0) dL_law_714 (q := 715) rfl rfl 3 rfl ?_
  refine l_iload_n h.1 (i := 3) dL_law_715 (q := 716) rfl rfl 0 rfl ?_
  refine l_iconst h.1 (v := 1) dL_law_716 (q := 717) rfl (by decide) ?_
  refine l_iadd h.1 dL_law_717 (q := 718) rfl ?_
  rw [show (nI i + 1 : Int32) = nI (i + 1) from nI_add i 1]
  refine l_sld h.1 (k := (i + 1)) h.2.2.2.2.1 h.2.2.2.2.2.1 h.2.2.2.2.2.2.1 (vp_in_nI (by omega) (by omega)) (nI_clamp (by omega)) dL_law_718 (q := 719) rfl ?_
  refine VL.swap ?_
  refine l_call h.1 h.2.2.1 (fun q z1 z2 => h.2.2.2.1 q z2 z1) h.2.2.2.2.2.2.2.1 (As := [.int (xs (i + 1))]) (rest := [.int _]) (c_X10_beats (w := u2) (σ := τ) hm hQ) cal_X10_beats calV_X10_beats m1157 ⟨rfl, rfl, Nat.le_of_ble_eq_true rfl, Nat.le_of_ble_eq_true rfl⟩ rfl hm.1.1 hm.1.2 ⟨_, _, rfl⟩ rfl (Nat.le_of_ble_eq_true rfl) dL_law_719 (q := 722) rfl (kLM (fun τ1 g2 => ?_))
  exact l_icmp_eq h.1 (t := 1556) dL_law_722 (by decide) (q := 725) rfl (fun _ => kk σ1 τ1 _ g1 g2) (fun z => absurd rfl z)
set_option maxHeartbeats 4000000 in
theorem law_15 {x : bX} {u1 u2 : bw} {D : va_G} {kd : Nat → ClassId} {ad : bAd} {B L b : Nat} {xs : Nat → Int32} {C S : Nat} {Q : State → Prop} {σ τ : bSt} {A : bA} {i : Nat} (h : CL x u1 u2 D kd ad B L b xs C S) (hs : sOpera u1) (hm : sModel u2) (hR : RC σ A) (hQ : RQ τ A) (hi : i + 6 ≤ L) (kk : ∀ (σ' τ' : bSt) (A' : bA), RC σ' A' → RQ τ' A' → VL x u1 u2 B C S Q 1556 [(3, .int (nI i)), (2, .ref (b_ad u2 0)), (1, .ref (b_ad u1 0)), (0, .ref b)] [] σ' τ') : VL x u1 u2 B C S Q 727 [(3, .int (nI i)), (2, .ref (b_ad u2 0)), (1, .ref (b_ad u1 0)), (0, .ref b)] [] σ τ := by
  have hL := h.2.2.2.2.2.2.2.2
  refine l_aload_n h.1 (i := 1) dL_law_727 (q := 728) rfl rfl 2 rfl ?_
  refine l_aload_n h.1 (i := 0) dL_law_728 (q := 729) rfl rfl 3 rfl ?_
  refine l_iload_n h.1 (i := 3) dL_law_729 (q := 730) rfl rfl 0 rfl ?_
  refine l_iconst h.1 (v := 1) dL_law_730 (q := 731) rfl (by decide) ?_
  refine l_iadd h.1 dL_law_731 (q := 732) rfl ?_
  rw [show (nI i + 1 : Int32) = nI (i + 1) from nI_add i 1]
  refine l_sld h.1 (k := (i + 1)) h.2.2.2.2.1 h.2.2.2.2.2.1 h.2.2.2.2.2.2.1 (vp_in_nI (by omega) (by omega)) (nI_clamp (by omega)) dL_law_732 (q := 733) rfl ?_
  refine l_call h.1 h.2.1 h.2.2.2.1 h.2.2.2.2.2.2.2.1 (As := [.int (xs (i + 1))]) (rest := []) (c_X9_loose (w := u1) (σ := σ) hs hR) cal_X9_loose calV_X9_loose m585 ⟨rfl, rfl, Nat.le_of_ble_eq_true rfl, Nat.le_of_ble_eq_true rfl⟩ rfl hs.1.1 hs.1.2 ⟨_, _, rfl⟩ rfl (Nat.le_of_ble_eq_true rfl) dL_law_733 (q := 736) rfl (kLA (fun σ1 g1 => ?_))
  refine l_aload_n h.1 (i := 2) dL_law_736 (q := 737) rfl rfl 1 rfl ?_
  refine l_aload_n h.1 (i := 0) dL_law_737 (q := 738) rfl rfl 3 rfl ?_
  refine l_iload_n h.1 (i := 3) dL_law_738 (q := 739) rfl rfl 0 rfl ?_
  refine l_iconst h.1 (v := 1) dL_law_739 (q := 740) rfl (by decide) ?_
  refine l_iadd h.1 dL_law_740 (q := 741) rfl ?_
  rw [show (nI i + 1 : Int32) = nI (i + 1) from nI_add i 1]
  refine l_sld h.1 (k := (i + 1)) h.2.2.2.2.1 h.2.2.2.2.2.1 h.2.2.2.2.2.2.1 (vp_in_nI (by omega) (by omega)) (nI_clamp (by omega)) dL_law_741 (q := 742) rfl ?_
  refine VL.swap ?_
  refine l_call h.1 h.2.2.1 (fun q z1 z2 => h.2.2.2.1 q z2 z1) h.2.2.2.2.2.2.2.1 (As := [.int (xs (i + 1))]) (rest := [.int _]) (c_X10_loose (w := u2) (σ := τ) hm hQ) cal_X10_loose calV_X10_loose m1191 ⟨rfl, rfl, Nat.le_of_ble_eq_true rfl, Nat.le_of_ble_eq_true rfl⟩ rfl hm.1.1 hm.1.2 ⟨_, _, rfl⟩ rfl (Nat.le_of_ble_eq_true rfl) dL_law_742 (q := 745) rfl (kLM (fun τ1 g2 => ?_))
  exact l_icmp_eq h.1 (t := 1556) dL_law_745 (by decide) (q := 748) rfl (fun _ => kk σ1 τ1 _ g1 g2) (fun z => absurd rfl z)
set_option maxHeartbeats 4000000 in
theorem law_16 {x : bX} {u1 u2 : bw} {D : va_G} {kd : Nat → ClassId} {ad : bAd} {B L b : Nat} {xs : Nat → Int32} {C S : Nat} {Q : State → Prop} {σ τ : bSt} {A : bA} {i : Nat} (h : CL x u1 u2 D kd ad B L b xs C S) (hs : sOpera u1) (hm : sModel u2) (hR : RC σ A) (hQ : RQ τ A) (hi : i + 6 ≤ L) (kk : ∀ (σ' τ' : bSt) (A' : bA), RC σ' A' → RQ τ' A' → VL x u1 u2 B C S Q 1556 [(3, .int (nI i)), (2, .ref (b_ad u2 0)), (1, .ref (b_ad u1 0)), (0, .ref b)] [] σ' τ') : VL x u1 u2 B C S Q 750 [(3, .int (nI i)), (2, .ref (b_ad u2 0)), (1, .ref (b_ad u1 0)), (0, .ref b)] [] σ τ := by
  have hL := h.2.2.2.2.2.2.2.2
  refine l_aload_n h.1 (i := 1) dL_law_750 (q := 751) rfl rfl 2 rfl ?_
  refine l_aload_n h.1 (i := 0) dL_law_751 (q := 752) rfl rfl 3 rfl ?_
  refine l_iload_n h.1 (i := 3) dL_law_752 (q := 753) rfl rfl 0 rfl ?_
  refine l_iconst h.1 (v := 1) dL_law_753 (q := 754) rfl (by decide) ?_
  refine l_iadd h.1 dL_law_754 (q := 755) rfl ?_
  rw [show (nI i + 1 : Int32) = nI (i + 1) from nI_add i 1]
  refine l_sld h.1 (k := (i + 1)) h.2.2.2.2.1 h.2.2.2.2.2.1 h.2.2.2.2.2.2.1 (vp_in_nI (by omega) (by omega)) (nI_clamp (by omega)) dL_law_755 (q := 756) rfl ?_
  refine l_aload_n h.1 (i := 0) dL_law_756 (q := 757) rfl rfl 3 rfl ?_
  refine l_iload_n h.1 (i := 3) dL_law_757 (q := 758) rfl rfl 0 rfl ?_
  refine l_iconst h.1 (v := 2) dL_law_758 (q := 759) rfl (by decide) ?_
  refine l_iadd h.1 dL_law_759 (q := 760) rfl ?_
  rw [show (nI i + 2 : Int32) = nI (i + 2) from nI_add i 2]
  refine l_sld h.1 (k := (i + 2)) h.2.2.2.2.1 h.2.2.2.2.2.1 h.2.2.2.2.2.2.1 (vp_in_nI (by omega) (by omega)) (nI_clamp (by omega)) dL_law_760 (q := 761) rfl ?_
  refine l_call h.1 h.2.1 h.2.2.2.1 h.2.2.2.2.2.2.2.1 (As := [.int (xs (i + 1)), .int (xs (i + 2))]) (rest := []) (c_X9_then (w := u1) (σ := σ) hs hR) cal_X9_then calV_X9_then m589 ⟨rfl, rfl, Nat.le_of_ble_eq_true rfl, Nat.le_of_ble_eq_true rfl⟩ rfl hs.1.1 hs.1.2 ⟨_, _, rfl⟩ rfl (Nat.le_of_ble_eq_true rfl) dL_law_761 (q := 764) rfl (kLA (fun σ1 g1 => ?_))
  refine l_aload_n h.1 (i := 2) dL_law_764 (q := 765) rfl rfl 1 rfl ?_
  refine l_aload_n h.1 (i := 0) dL_law_765 (q := 766) rfl rfl 3 rfl ?_
  refine l_iload_n h.1 (i := 3) dL_law_766 (q := 767) rfl rfl 0 rfl ?_
  refine l_iconst h.1 (v := 1) dL_law_767 (q := 768) rfl (by decide) ?_
  refine l_iadd h.1 dL_law_768 (q := 769) rfl ?_
  rw [show (nI i + 1 : Int32) = nI (i + 1) from nI_add i 1]
  refine l_sld h.1 (k := (i + 1)) h.2.2.2.2.1 h.2.2.2.2.2.1 h.2.2.2.2.2.2.1 (vp_in_nI (by omega) (by omega)) (nI_clamp (by omega)) dL_law_769 (q := 770) rfl ?_
  refine l_aload_n h.1 (i := 0) dL_law_770 (q := 771) rfl rfl 3 rfl ?_
  refine l_iload_n h.1 (i := 3) dL_law_771 (q := 772) rfl rfl 0 rfl ?_
  refine l_iconst h.1 (v := 2) dL_law_772 (q := 773) rfl (by decide) ?_
  refine l_iadd h.1 dL_law_773 (q := 774) rfl ?_
  rw [show (nI i + 2 : Int32) = nI (i + 2) from nI_add i 2]
  refine l_sld h.1 (k := (i + 2)) h.2.2.2.2.1 h.2.2.2.2.2.1 h.2.2.2.2.2.2.1 (vp_in_nI (by omega) (by omega)) (nI_clamp (by omega)) dL_law_774 (q := 775) rfl ?_
  refine VL.swap ?_
  refine l_call h.1 h.2.2.1 (fun q z1 z2 => h.2.2.2.1 q z2 z1) h.2.2.2.2.2.2.2.1 (As := [.int (xs (i + 1)), .int (xs (i + 2))]) (rest := [.int _]) (c_X10_then (w := u2) (σ := τ) hm hQ) cal_X10_then calV_X10_then m1195 ⟨rfl, rfl, Nat.le_of_ble_eq_true rfl, Nat.le_of_ble_eq_true rfl⟩ rfl hm.1.1 hm.1.2 ⟨_, _, rfl⟩ rfl (Nat.le_of_ble_eq_true rfl) dL_law_775 (q := 778) rfl (kLM (fun τ1 g2 => ?_))
  exact l_icmp_eq h.1 (t := 1556) dL_law_778 (by decide) (q := 781) rfl (fun _ => kk σ1 τ1 _ g1 g2) (fun z => absurd rfl z)
set_option maxHeartbeats 4000000 in
theorem law_17 {x : bX} {u1 u2 : bw} {D : va_G} {kd : Nat → ClassId} {ad : bAd} {B L b : Nat} {xs : Nat → Int32} {C S : Nat} {Q : State → Prop} {σ τ : bSt} {A : bA} {i : Nat} (h : CL x u1 u2 D kd ad B L b xs C S) (hs : sOpera u1) (hm : sModel u2) (hR : RC σ A) (hQ : RQ τ A) (hi : i + 6 ≤ L) (kk : ∀ (σ' τ' : bSt) (A' : bA), RC σ' A' → RQ τ' A' → VL x u1 u2 B C S Q 1556 [(3, .int (nI i)), (2, .ref (b_ad u2 0)), (1, .ref (b_ad u1 0)), (0, .ref b)] [] σ' τ') : VL x u1 u2 B C S Q 783 [(3, .int (nI i)), (2, .ref (b_ad u2 0)), (1, .ref (b_ad u1 0)), (0, .ref b)] [] σ τ := by
  have hL := h.2.2.2.2.2.2.2.2
  refine l_aload_n h.1 (i := 1) dL_law_783 (q := 784) rfl rfl 2 rfl ?_
  refine l_aload_n h.1 (i := 0) dL_law_784 (q := 785) rfl rfl 3 rfl ?_
  refine l_iload_n h.1 (i := 3) dL_law_785 (q := 786) rfl rfl 0 rfl ?_
  refine l_iconst h.1 (v := 1) dL_law_786 (q := 787) rfl (by decide) ?_
  refine l_iadd h.1 dL_law_787 (q := 788) rfl ?_
  rw [show (nI i + 1 : Int32) = nI (i + 1) from nI_add i 1]
  refine l_sld h.1 (k := (i + 1)) h.2.2.2.2.1 h.2.2.2.2.2.1 h.2.2.2.2.2.2.1 (vp_in_nI (by omega) (by omega)) (nI_clamp (by omega)) dL_law_788 (q := 789) rfl ?_
  refine l_aload_n h.1 (i := 0) dL_law_789 (q := 790) rfl rfl 3 rfl ?_
  refine l_iload_n h.1 (i := 3) dL_law_790 (q := 791) rfl rfl 0 rfl ?_
  refine l_iconst h.1 (v := 2) dL_law_791 (q := 792) rfl (by decide) ?_
  refine l_iadd h.1 dL_law_792 (q := 793) rfl ?_
  rw [show (nI i + 2 : Int32) = nI (i + 2) from nI_add i 2]
  refine l_sld h.1 (k := (i + 2)) h.2.2.2.2.1 h.2.2.2.2.2.1 h.2.2.2.2.2.2.1 (vp_in_nI (by omega) (by omega)) (nI_clamp (by omega)) dL_law_793 (q := 794) rfl ?_
  refine l_aload_n h.1 (i := 0) dL_law_794 (q := 795) rfl rfl 3 rfl ?_
  refine l_iload_n h.1 (i := 3) dL_law_795 (q := 796) rfl rfl 0 rfl ?_
  refine l_iconst h.1 (v := 3) dL_law_796 (q := 797) rfl (by decide) ?_
  refine l_iadd h.1 dL_law_797 (q := 798) rfl ?_
  rw [show (nI i + 3 : Int32) = nI (i + 3) from nI_add i 3]
  refine l_sld h.1 (k := (i + 3)) h.2.2.2.2.1 h.2.2.2.2.2.1 h.2.2.2.2.2.2.1 (vp_in_nI (by omega) (by omega)) (nI_clamp (by omega)) dL_law_798 (q := 799) rfl ?_
  refine l_call h.1 h.2.1 h.2.2.2.1 h.2.2.2.2.2.2.2.1 (As := [.int (xs (i + 1)), .int (xs (i + 2)), .int (xs (i + 3))]) (rest := []) (c_X9_thenListener (w := u1) (σ := σ) hs hR) cal_X9_thenListener calV_X9_thenListener m620 ⟨rfl, rfl, Nat.le_of_ble_eq_true rfl, Nat.le_of_ble_eq_true rfl⟩ rfl hs.1.1 hs.1.2 ⟨_, _, rfl⟩ rfl (Nat.le_of_ble_eq_true rfl) dL_law_799 (q := 802) rfl (kLA (fun σ1 g1 => ?_))
  refine l_aload_n h.1 (i := 2) dL_law_802 (q := 803) rfl rfl 1 rfl ?_
  refine l_aload_n h.1 (i := 0) dL_law_803 (q := 804) rfl rfl 3 rfl ?_
  refine l_iload_n h.1 (i := 3) dL_law_804 (q := 805) rfl rfl 0 rfl ?_
  refine l_iconst h.1 (v := 1) dL_law_805 (q := 806) rfl (by decide) ?_
  refine l_iadd h.1 dL_law_806 (q := 807) rfl ?_
  rw [show (nI i + 1 : Int32) = nI (i + 1) from nI_add i 1]
  refine l_sld h.1 (k := (i + 1)) h.2.2.2.2.1 h.2.2.2.2.2.1 h.2.2.2.2.2.2.1 (vp_in_nI (by omega) (by omega)) (nI_clamp (by omega)) dL_law_807 (q := 808) rfl ?_
  refine l_aload_n h.1 (i := 0) dL_law_808 (q := 809) rfl rfl 3 rfl ?_
  refine l_iload_n h.1 (i := 3) dL_law_809 (q := 810) rfl rfl 0 rfl ?_
  refine l_iconst h.1 (v := 2) dL_law_810 (q := 811) rfl (by decide) ?_
  refine l_iadd h.1 dL_law_811 (q := 812) rfl ?_
  rw [show (nI i + 2 : Int32) = nI (i + 2) from nI_add i 2]
  refine l_sld h.1 (k := (i + 2)) h.2.2.2.2.1 h.2.2.2.2.2.1 h.2.2.2.2.2.2.1 (vp_in_nI (by omega) (by omega)) (nI_clamp (by omega)) dL_law_812 (q := 813) rfl ?_
  refine l_aload_n h.1 (i := 0) dL_law_813 (q := 814) rfl rfl 3 rfl ?_
  refine l_iload_n h.1 (i := 3) dL_law_814 (q := 815) rfl rfl 0 rfl ?_
  refine l_iconst h.1 (v := 3) dL_law_815 (q := 816) rfl (by decide) ?_
  refine l_iadd h.1 dL_law_816 (q := 817) rfl ?_
  rw [show (nI i + 3 : Int32) = nI (i + 3) from nI_add i 3]
  refine l_sld h.1 (k := (i + 3)) h.2.2.2.2.1 h.2.2.2.2.2.1 h.2.2.2.2.2.2.1 (vp_in_nI (by omega) (by omega)) (nI_clamp (by omega)) dL_law_817 (q := 818) rfl ?_
  refine VL.swap ?_
  refine l_call h.1 h.2.2.1 (fun q z1 z2 => h.2.2.2.1 q z2 z1) h.2.2.2.2.2.2.2.1 (As := [.int (xs (i + 1)), .int (xs (i + 2)), .int (xs (i + 3))]) (rest := [.int _]) (c_X10_thenListener (w := u2) (σ := τ) hm hQ) cal_X10_thenListener calV_X10_thenListener m1209 ⟨rfl, rfl, Nat.le_of_ble_eq_true rfl, Nat.le_of_ble_eq_true rfl⟩ rfl hm.1.1 hm.1.2 ⟨_, _, rfl⟩ rfl (Nat.le_of_ble_eq_true rfl) dL_law_818 (q := 821) rfl (kLM (fun τ1 g2 => ?_))
  exact l_icmp_eq h.1 (t := 1556) dL_law_821 (by decide) (q := 824) rfl (fun _ => kk σ1 τ1 _ g1 g2) (fun z => absurd rfl z)
set_option maxHeartbeats 4000000 in
theorem law_18 {x : bX} {u1 u2 : bw} {D : va_G} {kd : Nat → ClassId} {ad : bAd} {B L b : Nat} {xs : Nat → Int32} {C S : Nat} {Q : State → Prop} {σ τ : bSt} {A : bA} {i : Nat} (h : CL x u1 u2 D kd ad B L b xs C S) (hs : sOpera u1) (hm : sModel u2) (hR : RC σ A) (hQ : RQ τ A) (hi : i + 6 ≤ L) (kk : ∀ (σ' τ' : bSt) (A' : bA), RC σ' A' → RQ τ' A' → VL x u1 u2 B C S Q 1556 [(3, .int (nI i)), (2, .ref (b_ad u2 0)), (1, .ref (b_ad u1 0)), (0, .ref b)] [] σ' τ') : VL x u1 u2 B C S Q 826 [(3, .int (nI i)), (2, .ref (b_ad u2 0)), (1, .ref (b_ad u1 0)), (0, .ref b)] [] σ τ := by
  have hL := h.2.2.2.2.2.2.2.2
  refine l_aload_n h.1 (i := 1) dL_law_826 (q := 827) rfl rfl 2 rfl ?_
  refine l_aload_n h.1 (i := 0) dL_law_827 (q := 828) rfl rfl 3 rfl ?_
  refine l_iload_n h.1 (i := 3) dL_law_828 (q := 829) rfl rfl 0 rfl ?_
  refine l_iconst h.1 (v := 1) dL_law_829 (q := 830) rfl (by decide) ?_
  refine l_iadd h.1 dL_law_830 (q := 831) rfl ?_
  rw [show (nI i + 1 : Int32) = nI (i + 1) from nI_add i 1]
  refine l_sld h.1 (k := (i + 1)) h.2.2.2.2.1 h.2.2.2.2.2.1 h.2.2.2.2.2.2.1 (vp_in_nI (by omega) (by omega)) (nI_clamp (by omega)) dL_law_831 (q := 832) rfl ?_
  refine l_aload_n h.1 (i := 0) dL_law_832 (q := 833) rfl rfl 3 rfl ?_
  refine l_iload_n h.1 (i := 3) dL_law_833 (q := 834) rfl rfl 0 rfl ?_
  refine l_iconst h.1 (v := 2) dL_law_834 (q := 835) rfl (by decide) ?_
  refine l_iadd h.1 dL_law_835 (q := 836) rfl ?_
  rw [show (nI i + 2 : Int32) = nI (i + 2) from nI_add i 2]
  refine l_sld h.1 (k := (i + 2)) h.2.2.2.2.1 h.2.2.2.2.2.1 h.2.2.2.2.2.2.1 (vp_in_nI (by omega) (by omega)) (nI_clamp (by omega)) dL_law_836 (q := 837) rfl ?_
  refine l_call h.1 h.2.1 h.2.2.2.1 h.2.2.2.2.2.2.2.1 (As := [.int (xs (i + 1)), .int (xs (i + 2))]) (rest := []) (c_X9_score (w := u1) (σ := σ) hs hR) cal_X9_score calV_X9_score m630 ⟨rfl, rfl, Nat.le_of_ble_eq_true rfl, Nat.le_of_ble_eq_true rfl⟩ rfl hs.1.1 hs.1.2 ⟨_, _, rfl⟩ rfl (Nat.le_of_ble_eq_true rfl) dL_law_837 (q := 840) rfl (kLA (fun σ1 g1 => ?_))
  refine l_aload_n h.1 (i := 2) dL_law_840 (q := 841) rfl rfl 1 rfl ?_
  refine l_aload_n h.1 (i := 0) dL_law_841 (q := 842) rfl rfl 3 rfl ?_
  refine l_iload_n h.1 (i := 3) dL_law_842 (q := 843) rfl rfl 0 rfl ?_
  refine l_iconst h.1 (v := 1) dL_law_843 (q := 844) rfl (by decide) ?_
  refine l_iadd h.1 dL_law_844 (q := 845) rfl ?_
  rw [show (nI i + 1 : Int32) = nI (i + 1) from nI_add i 1]
  refine l_sld h.1 (k := (i + 1)) h.2.2.2.2.1 h.2.2.2.2.2.1 h.2.2.2.2.2.2.1 (vp_in_nI (by omega) (by omega)) (nI_clamp (by omega)) dL_law_845 (q := 846) rfl ?_
  refine l_aload_n h.1 (i := 0) dL_law_846 (q := 847) rfl rfl 3 rfl ?_
  refine l_iload_n h.1 (i := 3) dL_law_847 (q := 848) rfl rfl 0 rfl ?_
  refine l_iconst h.1 (v := 2) dL_law_848 (q := 849) rfl (by decide) ?_
  refine l_iadd h.1 dL_law_849 (q := 850) rfl ?_
  rw [show (nI i + 2 : Int32) = nI (i + 2) from nI_add i 2]
  refine l_sld h.1 (k := (i + 2)) h.2.2.2.2.1 h.2.2.2.2.2.1 h.2.2.2.2.2.2.1 (vp_in_nI (by omega) (by omega)) (nI_clamp (by omega)) dL_law_850 (q := 851) rfl ?_
  refine VL.swap ?_
  refine l_call h.1 h.2.2.1 (fun q z1 z2 => h.2.2.2.1 q z2 z1) h.2.2.2.2.2.2.2.1 (As := [.int (xs (i + 1)), .int (xs (i + 2))]) (rest := [.int _]) (c_X10_score (w := u2) (σ := τ) hm hQ) cal_X10_score calV_X10_score m1213 ⟨rfl, rfl, Nat.le_of_ble_eq_true rfl, Nat.le_of_ble_eq_true rfl⟩ rfl hm.1.1 hm.1.2 ⟨_, _, rfl⟩ rfl (Nat.le_of_ble_eq_true rfl) dL_law_851 (q := 854) rfl (kLM (fun τ1 g2 => ?_))
  exact l_icmp_eq h.1 (t := 1556) dL_law_854 (by decide) (q := 857) rfl (fun _ => kk σ1 τ1 _ g1 g2) (fun z => absurd rfl z)
set_option maxHeartbeats 4000000 in
theorem law_19 {x : bX} {u1 u2 : bw} {D : va_G} {kd : Nat → ClassId} {ad : bAd} {B L b : Nat} {xs : Nat → Int32} {C S : Nat} {Q : State → Prop} {σ τ : bSt} {A : bA} {i : Nat} (h : CL x u1 u2 D kd ad B L b xs C S) (hs : sOpera u1) (hm : sModel u2) (hR : RC σ A) (hQ : RQ τ A) (hi : i + 6 ≤ L) (kk : ∀ (σ' τ' : bSt) (A' : bA), RC σ' A' → RQ τ' A' → VL x u1 u2 B C S Q 1556 [(3, .int (nI i)), (2, .ref (b_ad u2 0)), (1, .ref (b_ad u1 0)), (0, .ref b)] [] σ' τ') : VL x u1 u2 B C S Q 859 [(3, .int (nI i)), (2, .ref (b_ad u2 0)), (1, .ref (b_ad u1 0)), (0, .ref b)] [] σ τ := by
  have hL := h.2.2.2.2.2.2.2.2
  refine l_aload_n h.1 (i := 1) dL_law_859 (q := 860) rfl rfl 2 rfl ?_
  refine l_aload_n h.1 (i := 0) dL_law_860 (q := 861) rfl rfl 3 rfl ?_
  refine l_iload_n h.1 (i := 3) dL_law_861 (q := 862) rfl rfl 0 rfl ?_
  refine l_iconst h.1 (v := 1) dL_law_862 (q := 863) rfl (by decide) ?_
  refine l_iadd h.1 dL_law_863 (q := 864) rfl ?_
  rw [show (nI i + 1 : Int32) = nI (i + 1) from nI_add i 1]
  refine l_sld h.1 (k := (i + 1)) h.2.2.2.2.1 h.2.2.2.2.2.1 h.2.2.2.2.2.2.1 (vp_in_nI (by omega) (by omega)) (nI_clamp (by omega)) dL_law_864 (q := 865) rfl ?_
  refine l_call h.1 h.2.1 h.2.2.2.1 h.2.2.2.2.2.2.2.1 (As := [.int (xs (i + 1))]) (rest := []) (c_X9_place (w := u1) (σ := σ) hs hR) cal_X9_place calV_X9_place m643 ⟨rfl, rfl, Nat.le_of_ble_eq_true rfl, Nat.le_of_ble_eq_true rfl⟩ rfl hs.1.1 hs.1.2 ⟨_, _, rfl⟩ rfl (Nat.le_of_ble_eq_true rfl) dL_law_865 (q := 868) rfl (kLA (fun σ1 g1 => ?_))
  refine l_aload_n h.1 (i := 2) dL_law_868 (q := 869) rfl rfl 1 rfl ?_
  refine l_aload_n h.1 (i := 0) dL_law_869 (q := 870) rfl rfl 3 rfl ?_
  refine l_iload_n h.1 (i := 3) dL_law_870 (q := 871) rfl rfl 0 rfl ?_
  refine l_iconst h.1 (v := 1) dL_law_871 (q := 872) rfl (by decide) ?_
  refine l_iadd h.1 dL_law_872 (q := 873) rfl ?_
  rw [show (nI i + 1 : Int32) = nI (i + 1) from nI_add i 1]
  refine l_sld h.1 (k := (i + 1)) h.2.2.2.2.1 h.2.2.2.2.2.1 h.2.2.2.2.2.2.1 (vp_in_nI (by omega) (by omega)) (nI_clamp (by omega)) dL_law_873 (q := 874) rfl ?_
  refine VL.swap ?_
  refine l_call h.1 h.2.2.1 (fun q z1 z2 => h.2.2.2.1 q z2 z1) h.2.2.2.2.2.2.2.1 (As := [.int (xs (i + 1))]) (rest := [.int _]) (c_X10_place (w := u2) (σ := τ) hm hQ) cal_X10_place calV_X10_place m1221 ⟨rfl, rfl, Nat.le_of_ble_eq_true rfl, Nat.le_of_ble_eq_true rfl⟩ rfl hm.1.1 hm.1.2 ⟨_, _, rfl⟩ rfl (Nat.le_of_ble_eq_true rfl) dL_law_874 (q := 877) rfl (kLM (fun τ1 g2 => ?_))
  exact l_icmp_eq h.1 (t := 1556) dL_law_877 (by decide) (q := 880) rfl (fun _ => kk σ1 τ1 _ g1 g2) (fun z => absurd rfl z)
set_option maxHeartbeats 4000000 in
theorem law_20 {x : bX} {u1 u2 : bw} {D : va_G} {kd : Nat → ClassId} {ad : bAd} {B L b : Nat} {xs : Nat → Int32} {C S : Nat} {Q : State → Prop} {σ τ : bSt} {A : bA} {i : Nat} (h : CL x u1 u2 D kd ad B L b xs C S) (hs : sOpera u1) (hm : sModel u2) (hR : RC σ A) (hQ : RQ τ A) (hi : i + 6 ≤ L) (kk : ∀ (σ' τ' : bSt) (A' : bA), RC σ' A' → RQ τ' A' → VL x u1 u2 B C S Q 1556 [(3, .int (nI i)), (2, .ref (b_ad u2 0)), (1, .ref (b_ad u1 0)), (0, .ref b)] [] σ' τ') : VL x u1 u2 B C S Q 882 [(3, .int (nI i)), (2, .ref (b_ad u2 0)), (1, .ref (b_ad u1 0)), (0, .ref b)] [] σ τ := by
  have hL := h.2.2.2.2.2.2.2.2
  refine l_aload_n h.1 (i := 1) dL_law_882 (q := 883) rfl rfl 2 rfl ?_
  refine l_aload_n h.1 (i := 0) dL_law_883 (q := 884) rfl rfl 3 rfl ?_
  refine l_iload_n h.1 (i := 3) dL_law_884 (q := 885) rfl rfl 0 rfl ?_
  refine l_iconst h.1 (v := 1) dL_law_885 (q := 886) rfl (by decide) ?_
  refine l_iadd h.1 dL_law_886 (q := 887) rfl ?_
  rw [show (nI i + 1 : Int32) = nI (i + 1) from nI_add i 1]
  refine l_sld h.1 (k := (i + 1)) h.2.2.2.2.1 h.2.2.2.2.2.1 h.2.2.2.2.2.2.1 (vp_in_nI (by omega) (by omega)) (nI_clamp (by omega)) dL_law_887 (q := 888) rfl ?_
  refine l_call h.1 h.2.1 h.2.2.2.1 h.2.2.2.2.2.2.2.1 (As := [.int (xs (i + 1))]) (rest := []) (c_X9_fromHere (w := u1) (σ := σ) hs hR) cal_X9_fromHere calV_X9_fromHere m654 ⟨rfl, rfl, Nat.le_of_ble_eq_true rfl, Nat.le_of_ble_eq_true rfl⟩ rfl hs.1.1 hs.1.2 ⟨_, _, rfl⟩ rfl (Nat.le_of_ble_eq_true rfl) dL_law_888 (q := 891) rfl (kLAL (fun σ1 g1 => ?_))
  refine l_aload_n h.1 (i := 2) dL_law_891 (q := 892) rfl rfl 1 rfl ?_
  refine l_aload_n h.1 (i := 0) dL_law_892 (q := 893) rfl rfl 3 rfl ?_
  refine l_iload_n h.1 (i := 3) dL_law_893 (q := 894) rfl rfl 0 rfl ?_
  refine l_iconst h.1 (v := 1) dL_law_894 (q := 895) rfl (by decide) ?_
  refine l_iadd h.1 dL_law_895 (q := 896) rfl ?_
  rw [show (nI i + 1 : Int32) = nI (i + 1) from nI_add i 1]
  refine l_sld h.1 (k := (i + 1)) h.2.2.2.2.1 h.2.2.2.2.2.1 h.2.2.2.2.2.2.1 (vp_in_nI (by omega) (by omega)) (nI_clamp (by omega)) dL_law_896 (q := 897) rfl ?_
  refine VL.swap ?_
  refine l_call h.1 h.2.2.1 (fun q z1 z2 => h.2.2.2.1 q z2 z1) h.2.2.2.2.2.2.2.1 (As := [.int (xs (i + 1))]) (rest := [.long _]) (c_X10_fromHere (w := u2) (σ := τ) hm hQ) cal_X10_fromHere calV_X10_fromHere m1229 ⟨rfl, rfl, Nat.le_of_ble_eq_true rfl, Nat.le_of_ble_eq_true rfl⟩ rfl hm.1.1 hm.1.2 ⟨_, _, rfl⟩ rfl (Nat.le_of_ble_eq_true rfl) dL_law_897 (q := 900) rfl (kLML (fun τ1 g2 => ?_))
  refine l_lcmp h.1 dL_law_900 (q := 901) rfl ?_
  exact l_if_eq h.1 (t := 1556) dL_law_901 (by decide) (q := 904) rfl (fun _ => kk σ1 τ1 _ g1 g2) (fun z => absurd (lg_self _) z)
set_option maxHeartbeats 4000000 in
theorem law_21 {x : bX} {u1 u2 : bw} {D : va_G} {kd : Nat → ClassId} {ad : bAd} {B L b : Nat} {xs : Nat → Int32} {C S : Nat} {Q : State → Prop} {σ τ : bSt} {A : bA} {i : Nat} (h : CL x u1 u2 D kd ad B L b xs C S) (hs : sOpera u1) (hm : sModel u2) (hR : RC σ A) (hQ : RQ τ A) (hi : i + 6 ≤ L) (kk : ∀ (σ' τ' : bSt) (A' : bA), RC σ' A' → RQ τ' A' → VL x u1 u2 B C S Q 1556 [(3, .int (nI i)), (2, .ref (b_ad u2 0)), (1, .ref (b_ad u1 0)), (0, .ref b)] [] σ' τ') : VL x u1 u2 B C S Q 906 [(3, .int (nI i)), (2, .ref (b_ad u2 0)), (1, .ref (b_ad u1 0)), (0, .ref b)] [] σ τ := by
  have hL := h.2.2.2.2.2.2.2.2
  refine l_aload_n h.1 (i := 1) dL_law_906 (q := 907) rfl rfl 2 rfl ?_
  refine l_aload_n h.1 (i := 0) dL_law_907 (q := 908) rfl rfl 3 rfl ?_
  refine l_iload_n h.1 (i := 3) dL_law_908 (q := 909) rfl rfl 0 rfl ?_
  refine l_iconst h.1 (v := 1) dL_law_909 (q := 910) rfl (by decide) ?_
  refine l_iadd h.1 dL_law_910 (q := 911) rfl ?_
  rw [show (nI i + 1 : Int32) = nI (i + 1) from nI_add i 1]
  refine l_sld h.1 (k := (i + 1)) h.2.2.2.2.1 h.2.2.2.2.2.1 h.2.2.2.2.2.2.1 (vp_in_nI (by omega) (by omega)) (nI_clamp (by omega)) dL_law_911 (q := 912) rfl ?_
  refine l_aload_n h.1 (i := 0) dL_law_912 (q := 913) rfl rfl 3 rfl ?_
  refine l_iload_n h.1 (i := 3) dL_law_913 (q := 914) rfl rfl 0 rfl ?_
  refine l_iconst h.1 (v := 2) dL_law_914 (q := 915) rfl (by decide) ?_
  refine l_iadd h.1 dL_law_915 (q := 916) rfl ?_
  rw [show (nI i + 2 : Int32) = nI (i + 2) from nI_add i 2]
  refine l_sld h.1 (k := (i + 2)) h.2.2.2.2.1 h.2.2.2.2.2.1 h.2.2.2.2.2.2.1 (vp_in_nI (by omega) (by omega)) (nI_clamp (by omega)) dL_law_916 (q := 917) rfl ?_
  refine l_aload_n h.1 (i := 0) dL_law_917 (q := 918) rfl rfl 3 rfl ?_
  refine l_iload_n h.1 (i := 3) dL_law_918 (q := 919) rfl rfl 0 rfl ?_
  refine l_iconst h.1 (v := 3) dL_law_919 (q := 920) rfl (by decide) ?_
  refine l_iadd h.1 dL_law_920 (q := 921) rfl ?_
  rw [show (nI i + 3 : Int32) = nI (i + 3) from nI_add i 3]
  refine l_sld h.1 (k := (i + 3)) h.2.2.2.2.1 h.2.2.2.2.2.1 h.2.2.2.2.2.2.1 (vp_in_nI (by omega) (by omega)) (nI_clamp (by omega)) dL_law_921 (q := 922) rfl ?_
  refine l_call h.1 h.2.1 h.2.2.2.1 h.2.2.2.2.2.2.2.1 (As := [.int (xs (i + 1)), .int (xs (i + 2)), .int (xs (i + 3))]) (rest := []) (c_X9_mooring (w := u1) (σ := σ) hs hR) cal_X9_mooring calV_X9_mooring m658 ⟨rfl, rfl, Nat.le_of_ble_eq_true rfl, Nat.le_of_ble_eq_true rfl⟩ rfl hs.1.1 hs.1.2 ⟨_, _, rfl⟩ rfl (Nat.le_of_ble_eq_true rfl) dL_law_922 (q := 925) rfl (kLA (fun σ1 g1 => ?_))
  refine l_aload_n h.1 (i := 2) dL_law_925 (q := 926) rfl rfl 1 rfl ?_
  refine l_aload_n h.1 (i := 0) dL_law_926 (q := 927) rfl rfl 3 rfl ?_
  refine l_iload_n h.1 (i := 3) dL_law_927 (q := 928) rfl rfl 0 rfl ?_
  refine l_iconst h.1 (v := 1) dL_law_928 (q := 929) rfl (by decide) ?_
  refine l_iadd h.1 dL_law_929 (q := 930) rfl ?_
  rw [show (nI i + 1 : Int32) = nI (i + 1) from nI_add i 1]
  refine l_sld h.1 (k := (i + 1)) h.2.2.2.2.1 h.2.2.2.2.2.1 h.2.2.2.2.2.2.1 (vp_in_nI (by omega) (by omega)) (nI_clamp (by omega)) dL_law_930 (q := 931) rfl ?_
  refine l_aload_n h.1 (i := 0) dL_law_931 (q := 932) rfl rfl 3 rfl ?_
  refine l_iload_n h.1 (i := 3) dL_law_932 (q := 933) rfl rfl 0 rfl ?_
  refine l_iconst h.1 (v := 2) dL_law_933 (q := 934) rfl (by decide) ?_
  refine l_iadd h.1 dL_law_934 (q := 935) rfl ?_
  rw [show (nI i + 2 : Int32) = nI (i + 2) from nI_add i 2]
  refine l_sld h.1 (k := (i + 2)) h.2.2.2.2.1 h.2.2.2.2.2.1 h.2.2.2.2.2.2.1 (vp_in_nI (by omega) (by omega)) (nI_clamp (by omega)) dL_law_935 (q := 936) rfl ?_
  refine l_aload_n h.1 (i := 0) dL_law_936 (q := 937) rfl rfl 3 rfl ?_
  refine l_iload_n h.1 (i := 3) dL_law_937 (q := 938) rfl rfl 0 rfl ?_
  refine l_iconst h.1 (v := 3) dL_law_938 (q := 939) rfl (by decide) ?_
  refine l_iadd h.1 dL_law_939 (q := 940) rfl ?_
  rw [show (nI i + 3 : Int32) = nI (i + 3) from nI_add i 3]
  refine l_sld h.1 (k := (i + 3)) h.2.2.2.2.1 h.2.2.2.2.2.1 h.2.2.2.2.2.2.1 (vp_in_nI (by omega) (by omega)) (nI_clamp (by omega)) dL_law_940 (q := 941) rfl ?_
  refine VL.swap ?_
  refine l_call h.1 h.2.2.1 (fun q z1 z2 => h.2.2.2.1 q z2 z1) h.2.2.2.2.2.2.2.1 (As := [.int (xs (i + 1)), .int (xs (i + 2)), .int (xs (i + 3))]) (rest := [.int _]) (c_X10_mooring (w := u2) (σ := τ) hm hQ) cal_X10_mooring calV_X10_mooring m1233 ⟨rfl, rfl, Nat.le_of_ble_eq_true rfl, Nat.le_of_ble_eq_true rfl⟩ rfl hm.1.1 hm.1.2 ⟨_, _, rfl⟩ rfl (Nat.le_of_ble_eq_true rfl) dL_law_941 (q := 944) rfl (kLM (fun τ1 g2 => ?_))
  exact l_icmp_eq h.1 (t := 1556) dL_law_944 (by decide) (q := 947) rfl (fun _ => kk σ1 τ1 _ g1 g2) (fun z => absurd rfl z)
set_option maxHeartbeats 4000000 in
theorem law_22 {x : bX} {u1 u2 : bw} {D : va_G} {kd : Nat → ClassId} {ad : bAd} {B L b : Nat} {xs : Nat → Int32} {C S : Nat} {Q : State → Prop} {σ τ : bSt} {A : bA} {i : Nat} (h : CL x u1 u2 D kd ad B L b xs C S) (hs : sOpera u1) (hm : sModel u2) (hR : RC σ A) (hQ : RQ τ A) (hi : i + 6 ≤ L) (kk : ∀ (σ' τ' : bSt) (A' : bA), RC σ' A' → RQ τ' A' → VL x u1 u2 B C S Q 1556 [(3, .int (nI i)), (2, .ref (b_ad u2 0)), (1, .ref (b_ad u1 0)), (0, .ref b)] [] σ' τ') : VL x u1 u2 B C S Q 949 [(3, .int (nI i)), (2, .ref (b_ad u2 0)), (1, .ref (b_ad u1 0)), (0, .ref b)] [] σ τ := by
  have hL := h.2.2.2.2.2.2.2.2
  refine l_aload_n h.1 (i := 1) dL_law_949 (q := 950) rfl rfl 2 rfl ?_
  refine l_aload_n h.1 (i := 0) dL_law_950 (q := 951) rfl rfl 3 rfl ?_
  refine l_iload_n h.1 (i := 3) dL_law_951 (q := 952) rfl rfl 0 rfl ?_
  refine l_iconst h.1 (v := 1) dL_law_952 (q := 953) rfl (by decide) ?_
  refine l_iadd h.1 dL_law_953 (q := 954) rfl ?_
  rw [show (nI i + 1 : Int32) = nI (i + 1) from nI_add i 1]
  refine l_sld h.1 (k := (i + 1)) h.2.2.2.2.1 h.2.2.2.2.2.1 h.2.2.2.2.2.2.1 (vp_in_nI (by omega) (by omega)) (nI_clamp (by omega)) dL_law_954 (q := 955) rfl ?_
  refine l_aload_n h.1 (i := 0) dL_law_955 (q := 956) rfl rfl 3 rfl ?_
  refine l_iload_n h.1 (i := 3) dL_law_956 (q := 957) rfl rfl 0 rfl ?_
  refine l_iconst h.1 (v := 2) dL_law_957 (q := 958) rfl (by decide) ?_
  refine l_iadd h.1 dL_law_958 (q := 959) rfl ?_
  rw [show (nI i + 2 : Int32) = nI (i + 2) from nI_add i 2]
  refine l_sld h.1 (k := (i + 2)) h.2.2.2.2.1 h.2.2.2.2.2.1 h.2.2.2.2.2.2.1 (vp_in_nI (by omega) (by omega)) (nI_clamp (by omega)) dL_law_959 (q := 960) rfl ?_
  refine l_aload_n h.1 (i := 0) dL_law_960 (q := 961) rfl rfl 3 rfl ?_
  refine l_iload_n h.1 (i := 3) dL_law_961 (q := 962) rfl rfl 0 rfl ?_
  refine l_iconst h.1 (v := 3) dL_law_962 (q := 963) rfl (by decide) ?_
  refine l_iadd h.1 dL_law_963 (q := 964) rfl ?_
  rw [show (nI i + 3 : Int32) = nI (i + 3) from nI_add i 3]
  refine l_sld h.1 (k := (i + 3)) h.2.2.2.2.1 h.2.2.2.2.2.1 h.2.2.2.2.2.2.1 (vp_in_nI (by omega) (by omega)) (nI_clamp (by omega)) dL_law_964 (q := 965) rfl ?_
  refine l_call h.1 h.2.1 h.2.2.2.1 h.2.2.2.2.2.2.2.1 (As := [.int (xs (i + 1)), .int (xs (i + 2)), .int (xs (i + 3))]) (rest := []) (c_X9_sooner (w := u1) (σ := σ) hs hR) cal_X9_sooner calV_X9_sooner m662 ⟨rfl, rfl, Nat.le_of_ble_eq_true rfl, Nat.le_of_ble_eq_true rfl⟩ rfl hs.1.1 hs.1.2 ⟨_, _, rfl⟩ rfl (Nat.le_of_ble_eq_true rfl) dL_law_965 (q := 968) rfl (kLA (fun σ1 g1 => ?_))
  refine l_aload_n h.1 (i := 2) dL_law_968 (q := 969) rfl rfl 1 rfl ?_
  refine l_aload_n h.1 (i := 0) dL_law_969 (q := 970) rfl rfl 3 rfl ?_
  refine l_iload_n h.1 (i := 3) dL_law_970 (q := 971) rfl rfl 0 rfl ?_
  refine l_iconst h.1 (v := 1) dL_law_971 (q := 972) rfl (by decide) ?_
  refine l_iadd h.1 dL_law_972 (q := 973) rfl ?_
  rw [show (nI i + 1 : Int32) = nI (i + 1) from nI_add i 1]
  refine l_sld h.1 (k := (i + 1)) h.2.2.2.2.1 h.2.2.2.2.2.1 h.2.2.2.2.2.2.1 (vp_in_nI (by omega) (by omega)) (nI_clamp (by omega)) dL_law_973 (q := 974) rfl ?_
  refine l_aload_n h.1 (i := 0) dL_law_974 (q := 975) rfl rfl 3 rfl ?_
  refine l_iload_n h.1 (i := 3) dL_law_975 (q := 976) rfl rfl 0 rfl ?_
  refine l_iconst h.1 (v := 2) dL_law_976 (q := 977) rfl (by decide) ?_
  refine l_iadd h.1 dL_law_977 (q := 978) rfl ?_
  rw [show (nI i + 2 : Int32) = nI (i + 2) from nI_add i 2]
  refine l_sld h.1 (k := (i + 2)) h.2.2.2.2.1 h.2.2.2.2.2.1 h.2.2.2.2.2.2.1 (vp_in_nI (by omega) (by omega)) (nI_clamp (by omega)) dL_law_978 (q := 979) rfl ?_
  refine l_aload_n h.1 (i := 0) dL_law_979 (q := 980) rfl rfl 3 rfl ?_
  refine l_iload_n h.1 (i := 3) dL_law_980 (q := 981) rfl rfl 0 rfl ?_
  refine l_iconst h.1 (v := 3) dL_law_981 (q := 982) rfl (by decide) ?_
  refine l_iadd h.1 dL_law_982 (q := 983) rfl ?_
  rw [show (nI i + 3 : Int32) = nI (i + 3) from nI_add i 3]
  refine l_sld h.1 (k := (i + 3)) h.2.2.2.2.1 h.2.2.2.2.2.1 h.2.2.2.2.2.2.1 (vp_in_nI (by omega) (by omega)) (nI_clamp (by omega)) dL_law_983 (q := 984) rfl ?_
  refine VL.swap ?_
  refine l_call h.1 h.2.2.1 (fun q z1 z2 => h.2.2.2.1 q z2 z1) h.2.2.2.2.2.2.2.1 (As := [.int (xs (i + 1)), .int (xs (i + 2)), .int (xs (i + 3))]) (rest := [.int _]) (c_X10_sooner (w := u2) (σ := τ) hm hQ) cal_X10_sooner calV_X10_sooner m1237 ⟨rfl, rfl, Nat.le_of_ble_eq_true rfl, Nat.le_of_ble_eq_true rfl⟩ rfl hm.1.1 hm.1.2 ⟨_, _, rfl⟩ rfl (Nat.le_of_ble_eq_true rfl) dL_law_984 (q := 987) rfl (kLM (fun τ1 g2 => ?_))
  exact l_icmp_eq h.1 (t := 1556) dL_law_987 (by decide) (q := 990) rfl (fun _ => kk σ1 τ1 _ g1 g2) (fun z => absurd rfl z)
set_option maxHeartbeats 4000000 in
theorem law_23 {x : bX} {u1 u2 : bw} {D : va_G} {kd : Nat → ClassId} {ad : bAd} {B L b : Nat} {xs : Nat → Int32} {C S : Nat} {Q : State → Prop} {σ τ : bSt} {A : bA} {i : Nat} (h : CL x u1 u2 D kd ad B L b xs C S) (hs : sOpera u1) (hm : sModel u2) (hR : RC σ A) (hQ : RQ τ A) (hi : i + 6 ≤ L) (kk : ∀ (σ' τ' : bSt) (A' : bA), RC σ' A' → RQ τ' A' → VL x u1 u2 B C S Q 1556 [(3, .int (nI i)), (2, .ref (b_ad u2 0)), (1, .ref (b_ad u1 0)), (0, .ref b)] [] σ' τ') : VL x u1 u2 B C S Q 992 [(3, .int (nI i)), (2, .ref (b_ad u2 0)), (1, .ref (b_ad u1 0)), (0, .ref b)] [] σ τ := by
  have hL := h.2.2.2.2.2.2.2.2
  refine l_aload_n h.1 (i := 1) dL_law_992 (q := 993) rfl rfl 2 rfl ?_
  refine l_aload_n h.1 (i := 0) dL_law_993 (q := 994) rfl rfl 3 rfl ?_
  refine l_iload_n h.1 (i := 3) dL_law_994 (q := 995) rfl rfl 0 rfl ?_
  refine l_iconst h.1 (v := 1) dL_law_995 (q := 996) rfl (by decide) ?_
  refine l_iadd h.1 dL_law_996 (q := 997) rfl ?_
  rw [show (nI i + 1 : Int32) = nI (i + 1) from nI_add i 1]
  refine l_sld h.1 (k := (i + 1)) h.2.2.2.2.1 h.2.2.2.2.2.1 h.2.2.2.2.2.2.1 (vp_in_nI (by omega) (by omega)) (nI_clamp (by omega)) dL_law_997 (q := 998) rfl ?_
  refine l_aload_n h.1 (i := 0) dL_law_998 (q := 999) rfl rfl 3 rfl ?_
  refine l_iload_n h.1 (i := 3) dL_law_999 (q := 1000) rfl rfl 0 rfl ?_
  refine l_iconst h.1 (v := 2) dL_law_1000 (q := 1001) rfl (by decide) ?_
  refine l_iadd h.1 dL_law_1001 (q := 1002) rfl ?_
  rw [show (nI i + 2 : Int32) = nI (i + 2) from nI_add i 2]
  refine l_sld h.1 (k := (i + 2)) h.2.2.2.2.1 h.2.2.2.2.2.1 h.2.2.2.2.2.2.1 (vp_in_nI (by omega) (by omega)) (nI_clamp (by omega)) dL_law_1002 (q := 1003) rfl ?_
  refine l_call h.1 h.2.1 h.2.2.2.1 h.2.2.2.2.2.2.2.1 (As := [.int (xs (i + 1)), .int (xs (i + 2))]) (rest := []) (c_X9_fitSpeed (w := u1) (σ := σ) hs hR) cal_X9_fitSpeed calV_X9_fitSpeed m669 ⟨rfl, rfl, Nat.le_of_ble_eq_true rfl, Nat.le_of_ble_eq_true rfl⟩ rfl hs.1.1 hs.1.2 ⟨_, _, rfl⟩ rfl (Nat.le_of_ble_eq_true rfl) dL_law_1003 (q := 1006) rfl (kLA (fun σ1 g1 => ?_))
  refine l_aload_n h.1 (i := 2) dL_law_1006 (q := 1007) rfl rfl 1 rfl ?_
  refine l_aload_n h.1 (i := 0) dL_law_1007 (q := 1008) rfl rfl 3 rfl ?_
  refine l_iload_n h.1 (i := 3) dL_law_1008 (q := 1009) rfl rfl 0 rfl ?_
  refine l_iconst h.1 (v := 1) dL_law_1009 (q := 1010) rfl (by decide) ?_
  refine l_iadd h.1 dL_law_1010 (q := 1011) rfl ?_
  rw [show (nI i + 1 : Int32) = nI (i + 1) from nI_add i 1]
  refine l_sld h.1 (k := (i + 1)) h.2.2.2.2.1 h.2.2.2.2.2.1 h.2.2.2.2.2.2.1 (vp_in_nI (by omega) (by omega)) (nI_clamp (by omega)) dL_law_1011 (q := 1012) rfl ?_
  refine l_aload_n h.1 (i := 0) dL_law_1012 (q := 1013) rfl rfl 3 rfl ?_
  refine l_iload_n h.1 (i := 3) dL_law_1013 (q := 1014) rfl rfl 0 rfl ?_
  refine l_iconst h.1 (v := 2) dL_law_1014 (q := 1015) rfl (by decide) ?_
  refine l_iadd h.1 dL_law_1015 (q := 1016) rfl ?_
  rw [show (nI i + 2 : Int32) = nI (i + 2) from nI_add i 2]
  refine l_sld h.1 (k := (i + 2)) h.2.2.2.2.1 h.2.2.2.2.2.1 h.2.2.2.2.2.2.1 (vp_in_nI (by omega) (by omega)) (nI_clamp (by omega)) dL_law_1016 (q := 1017) rfl ?_
  refine VL.swap ?_
  refine l_call h.1 h.2.2.1 (fun q z1 z2 => h.2.2.2.1 q z2 z1) h.2.2.2.2.2.2.2.1 (As := [.int (xs (i + 1)), .int (xs (i + 2))]) (rest := [.int _]) (c_X10_fitSpeed (w := u2) (σ := τ) hm hQ) cal_X10_fitSpeed calV_X10_fitSpeed m1241 ⟨rfl, rfl, Nat.le_of_ble_eq_true rfl, Nat.le_of_ble_eq_true rfl⟩ rfl hm.1.1 hm.1.2 ⟨_, _, rfl⟩ rfl (Nat.le_of_ble_eq_true rfl) dL_law_1017 (q := 1020) rfl (kLM (fun τ1 g2 => ?_))
  exact l_icmp_eq h.1 (t := 1556) dL_law_1020 (by decide) (q := 1023) rfl (fun _ => kk σ1 τ1 _ g1 g2) (fun z => absurd rfl z)
set_option maxHeartbeats 4000000 in
theorem law_24 {x : bX} {u1 u2 : bw} {D : va_G} {kd : Nat → ClassId} {ad : bAd} {B L b : Nat} {xs : Nat → Int32} {C S : Nat} {Q : State → Prop} {σ τ : bSt} {A : bA} {i : Nat} (h : CL x u1 u2 D kd ad B L b xs C S) (hs : sOpera u1) (hm : sModel u2) (hR : RC σ A) (hQ : RQ τ A) (hi : i + 6 ≤ L) (kk : ∀ (σ' τ' : bSt) (A' : bA), RC σ' A' → RQ τ' A' → VL x u1 u2 B C S Q 1556 [(3, .int (nI i)), (2, .ref (b_ad u2 0)), (1, .ref (b_ad u1 0)), (0, .ref b)] [] σ' τ') : VL x u1 u2 B C S Q 1025 [(3, .int (nI i)), (2, .ref (b_ad u2 0)), (1, .ref (b_ad u1 0)), (0, .ref b)] [] σ τ := by
  have hL := h.2.2.2.2.2.2.2.2
  refine l_aload_n h.1 (i := 1) dL_law_1025 (q := 1026) rfl rfl 2 rfl ?_
  refine l_aload_n h.1 (i := 0) dL_law_1026 (q := 1027) rfl rfl 3 rfl ?_
  refine l_iload_n h.1 (i := 3) dL_law_1027 (q := 1028) rfl rfl 0 rfl ?_
  refine l_iconst h.1 (v := 1) dL_law_1028 (q := 1029) rfl (by decide) ?_
  refine l_iadd h.1 dL_law_1029 (q := 1030) rfl ?_
  rw [show (nI i + 1 : Int32) = nI (i + 1) from nI_add i 1]
  refine l_sld h.1 (k := (i + 1)) h.2.2.2.2.1 h.2.2.2.2.2.1 h.2.2.2.2.2.2.1 (vp_in_nI (by omega) (by omega)) (nI_clamp (by omega)) dL_law_1030 (q := 1031) rfl ?_
  refine l_aload_n h.1 (i := 0) dL_law_1031 (q := 1032) rfl rfl 3 rfl ?_
  refine l_iload_n h.1 (i := 3) dL_law_1032 (q := 1033) rfl rfl 0 rfl ?_
  refine l_iconst h.1 (v := 2) dL_law_1033 (q := 1034) rfl (by decide) ?_
  refine l_iadd h.1 dL_law_1034 (q := 1035) rfl ?_
  rw [show (nI i + 2 : Int32) = nI (i + 2) from nI_add i 2]
  refine l_sld h.1 (k := (i + 2)) h.2.2.2.2.1 h.2.2.2.2.2.1 h.2.2.2.2.2.2.1 (vp_in_nI (by omega) (by omega)) (nI_clamp (by omega)) dL_law_1035 (q := 1036) rfl ?_
  refine l_call h.1 h.2.1 h.2.2.2.1 h.2.2.2.2.2.2.2.1 (As := [.int (xs (i + 1)), .int (xs (i + 2))]) (rest := []) (c_X9_fromWhere (w := u1) (σ := σ) hs hR) cal_X9_fromWhere calV_X9_fromWhere m673 ⟨rfl, rfl, Nat.le_of_ble_eq_true rfl, Nat.le_of_ble_eq_true rfl⟩ rfl hs.1.1 hs.1.2 ⟨_, _, rfl⟩ rfl (Nat.le_of_ble_eq_true rfl) dL_law_1036 (q := 1039) rfl (kLA (fun σ1 g1 => ?_))
  refine l_aload_n h.1 (i := 2) dL_law_1039 (q := 1040) rfl rfl 1 rfl ?_
  refine l_aload_n h.1 (i := 0) dL_law_1040 (q := 1041) rfl rfl 3 rfl ?_
  refine l_iload_n h.1 (i := 3) dL_law_1041 (q := 1042) rfl rfl 0 rfl ?_
  refine l_iconst h.1 (v := 1) dL_law_1042 (q := 1043) rfl (by decide) ?_
  refine l_iadd h.1 dL_law_1043 (q := 1044) rfl ?_
  rw [show (nI i + 1 : Int32) = nI (i + 1) from nI_add i 1]
  refine l_sld h.1 (k := (i + 1)) h.2.2.2.2.1 h.2.2.2.2.2.1 h.2.2.2.2.2.2.1 (vp_in_nI (by omega) (by omega)) (nI_clamp (by omega)) dL_law_1044 (q := 1045) rfl ?_
  refine l_aload_n h.1 (i := 0) dL_law_1045 (q := 1046) rfl rfl 3 rfl ?_
  refine l_iload_n h.1 (i := 3) dL_law_1046 (q := 1047) rfl rfl 0 rfl ?_
  refine l_iconst h.1 (v := 2) dL_law_1047 (q := 1048) rfl (by decide) ?_
  refine l_iadd h.1 dL_law_1048 (q := 1049) rfl ?_
  rw [show (nI i + 2 : Int32) = nI (i + 2) from nI_add i 2]
  refine l_sld h.1 (k := (i + 2)) h.2.2.2.2.1 h.2.2.2.2.2.1 h.2.2.2.2.2.2.1 (vp_in_nI (by omega) (by omega)) (nI_clamp (by omega)) dL_law_1049 (q := 1050) rfl ?_
  refine VL.swap ?_
  refine l_call h.1 h.2.2.1 (fun q z1 z2 => h.2.2.2.1 q z2 z1) h.2.2.2.2.2.2.2.1 (As := [.int (xs (i + 1)), .int (xs (i + 2))]) (rest := [.int _]) (c_X10_fromWhere (w := u2) (σ := τ) hm hQ) cal_X10_fromWhere calV_X10_fromWhere m1245 ⟨rfl, rfl, Nat.le_of_ble_eq_true rfl, Nat.le_of_ble_eq_true rfl⟩ rfl hm.1.1 hm.1.2 ⟨_, _, rfl⟩ rfl (Nat.le_of_ble_eq_true rfl) dL_law_1050 (q := 1053) rfl (kLM (fun τ1 g2 => ?_))
  exact l_icmp_eq h.1 (t := 1556) dL_law_1053 (by decide) (q := 1056) rfl (fun _ => kk σ1 τ1 _ g1 g2) (fun z => absurd rfl z)
set_option maxHeartbeats 4000000 in
theorem law_25 {x : bX} {u1 u2 : bw} {D : va_G} {kd : Nat → ClassId} {ad : bAd} {B L b : Nat} {xs : Nat → Int32} {C S : Nat} {Q : State → Prop} {σ τ : bSt} {A : bA} {i : Nat} (h : CL x u1 u2 D kd ad B L b xs C S) (hs : sOpera u1) (hm : sModel u2) (hR : RC σ A) (hQ : RQ τ A) (hi : i + 6 ≤ L) (kk : ∀ (σ' τ' : bSt) (A' : bA), RC σ' A' → RQ τ' A' → VL x u1 u2 B C S Q 1556 [(3, .int (nI i)), (2, .ref (b_ad u2 0)), (1, .ref (b_ad u1 0)), (0, .ref b)] [] σ' τ') : VL x u1 u2 B C S Q 1058 [(3, .int (nI i)), (2, .ref (b_ad u2 0)), (1, .ref (b_ad u1 0)), (0, .ref b)] [] σ τ := by
  have hL := h.2.2.2.2.2.2.2.2
  refine l_aload_n h.1 (i := 1) dL_law_1058 (q := 1059) rfl rfl 2 rfl ?_
  refine l_aload_n h.1 (i := 0) dL_law_1059 (q := 1060) rfl rfl 3 rfl ?_
  refine l_iload_n h.1 (i := 3) dL_law_1060 (q := 1061) rfl rfl 0 rfl ?_
  refine l_iconst h.1 (v := 1) dL_law_1061 (q := 1062) rfl (by decide) ?_
  refine l_iadd h.1 dL_law_1062 (q := 1063) rfl ?_
  rw [show (nI i + 1 : Int32) = nI (i + 1) from nI_add i 1]
  refine l_sld h.1 (k := (i + 1)) h.2.2.2.2.1 h.2.2.2.2.2.1 h.2.2.2.2.2.2.1 (vp_in_nI (by omega) (by omega)) (nI_clamp (by omega)) dL_law_1063 (q := 1064) rfl ?_
  refine l_aload_n h.1 (i := 0) dL_law_1064 (q := 1065) rfl rfl 3 rfl ?_
  refine l_iload_n h.1 (i := 3) dL_law_1065 (q := 1066) rfl rfl 0 rfl ?_
  refine l_iconst h.1 (v := 2) dL_law_1066 (q := 1067) rfl (by decide) ?_
  refine l_iadd h.1 dL_law_1067 (q := 1068) rfl ?_
  rw [show (nI i + 2 : Int32) = nI (i + 2) from nI_add i 2]
  refine l_sld h.1 (k := (i + 2)) h.2.2.2.2.1 h.2.2.2.2.2.1 h.2.2.2.2.2.2.1 (vp_in_nI (by omega) (by omega)) (nI_clamp (by omega)) dL_law_1068 (q := 1069) rfl ?_
  refine l_aload_n h.1 (i := 0) dL_law_1069 (q := 1070) rfl rfl 3 rfl ?_
  refine l_iload_n h.1 (i := 3) dL_law_1070 (q := 1071) rfl rfl 0 rfl ?_
  refine l_iconst h.1 (v := 3) dL_law_1071 (q := 1072) rfl (by decide) ?_
  refine l_iadd h.1 dL_law_1072 (q := 1073) rfl ?_
  rw [show (nI i + 3 : Int32) = nI (i + 3) from nI_add i 3]
  refine l_sld h.1 (k := (i + 3)) h.2.2.2.2.1 h.2.2.2.2.2.1 h.2.2.2.2.2.2.1 (vp_in_nI (by omega) (by omega)) (nI_clamp (by omega)) dL_law_1073 (q := 1074) rfl ?_
  refine l_call h.1 h.2.1 h.2.2.2.1 h.2.2.2.2.2.2.2.1 (As := [.int (xs (i + 1)), .int (xs (i + 2)), .int (xs (i + 3))]) (rest := []) (c_X9_whereFrom (w := u1) (σ := σ) hs hR) cal_X9_whereFrom calV_X9_whereFrom m699 ⟨rfl, rfl, Nat.le_of_ble_eq_true rfl, Nat.le_of_ble_eq_true rfl⟩ rfl hs.1.1 hs.1.2 ⟨_, _, rfl⟩ rfl (Nat.le_of_ble_eq_true rfl) dL_law_1074 (q := 1077) rfl (kLA (fun σ1 g1 => ?_))
  refine l_aload_n h.1 (i := 2) dL_law_1077 (q := 1078) rfl rfl 1 rfl ?_
  refine l_aload_n h.1 (i := 0) dL_law_1078 (q := 1079) rfl rfl 3 rfl ?_
  refine l_iload_n h.1 (i := 3) dL_law_1079 (q := 1080) rfl rfl 0 rfl ?_
  refine l_iconst h.1 (v := 1) dL_law_1080 (q := 1081) rfl (by decide) ?_
  refine l_iadd h.1 dL_law_1081 (q := 1082) rfl ?_
  rw [show (nI i + 1 : Int32) = nI (i + 1) from nI_add i 1]
  refine l_sld h.1 (k := (i + 1)) h.2.2.2.2.1 h.2.2.2.2.2.1 h.2.2.2.2.2.2.1 (vp_in_nI (by omega) (by omega)) (nI_clamp (by omega)) dL_law_1082 (q := 1083) rfl ?_
  refine l_aload_n h.1 (i := 0) dL_law_1083 (q := 1084) rfl rfl 3 rfl ?_
  refine l_iload_n h.1 (i := 3) dL_law_1084 (q := 1085) rfl rfl 0 rfl ?_
  refine l_iconst h.1 (v := 2) dL_law_1085 (q := 1086) rfl (by decide) ?_
  refine l_iadd h.1 dL_law_1086 (q := 1087) rfl ?_
  rw [show (nI i + 2 : Int32) = nI (i + 2) from nI_add i 2]
  refine l_sld h.1 (k := (i + 2)) h.2.2.2.2.1 h.2.2.2.2.2.1 h.2.2.2.2.2.2.1 (vp_in_nI (by omega) (by omega)) (nI_clamp (by omega)) dL_law_1087 (q := 1088) rfl ?_
  refine l_aload_n h.1 (i := 0) dL_law_1088 (q := 1089) rfl rfl 3 rfl ?_
  refine l_iload_n h.1 (i := 3) dL_law_1089 (q := 1090) rfl rfl 0 rfl ?_
  refine l_iconst h.1 (v := 3) dL_law_1090 (q := 1091) rfl (by decide) ?_
  refine l_iadd h.1 dL_law_1091 (q := 1092) rfl ?_
  rw [show (nI i + 3 : Int32) = nI (i + 3) from nI_add i 3]
  refine l_sld h.1 (k := (i + 3)) h.2.2.2.2.1 h.2.2.2.2.2.1 h.2.2.2.2.2.2.1 (vp_in_nI (by omega) (by omega)) (nI_clamp (by omega)) dL_law_1092 (q := 1093) rfl ?_
  refine VL.swap ?_
  refine l_call h.1 h.2.2.1 (fun q z1 z2 => h.2.2.2.1 q z2 z1) h.2.2.2.2.2.2.2.1 (As := [.int (xs (i + 1)), .int (xs (i + 2)), .int (xs (i + 3))]) (rest := [.int _]) (c_X10_whereFrom (w := u2) (σ := τ) hm hQ) cal_X10_whereFrom calV_X10_whereFrom m1257 ⟨rfl, rfl, Nat.le_of_ble_eq_true rfl, Nat.le_of_ble_eq_true rfl⟩ rfl hm.1.1 hm.1.2 ⟨_, _, rfl⟩ rfl (Nat.le_of_ble_eq_true rfl) dL_law_1093 (q := 1096) rfl (kLM (fun τ1 g2 => ?_))
  exact l_icmp_eq h.1 (t := 1556) dL_law_1096 (by decide) (q := 1099) rfl (fun _ => kk σ1 τ1 _ g1 g2) (fun z => absurd rfl z)
set_option maxHeartbeats 4000000 in
theorem law_26 {x : bX} {u1 u2 : bw} {D : va_G} {kd : Nat → ClassId} {ad : bAd} {B L b : Nat} {xs : Nat → Int32} {C S : Nat} {Q : State → Prop} {σ τ : bSt} {A : bA} {i : Nat} (h : CL x u1 u2 D kd ad B L b xs C S) (hs : sOpera u1) (hm : sModel u2) (hR : RC σ A) (hQ : RQ τ A) (hi : i + 6 ≤ L) (kk : ∀ (σ' τ' : bSt) (A' : bA), RC σ' A' → RQ τ' A' → VL x u1 u2 B C S Q 1556 [(3, .int (nI i)), (2, .ref (b_ad u2 0)), (1, .ref (b_ad u1 0)), (0, .ref b)] [] σ' τ') : VL x u1 u2 B C S Q 1101 [(3, .int (nI i)), (2, .ref (b_ad u2 0)), (1, .ref (b_ad u1 0)), (0, .ref b)] [] σ τ := by
  have hL := h.2.2.2.2.2.2.2.2
  refine l_aload_n h.1 (i := 1) dL_law_1101 (q := 1102) rfl rfl 2 rfl ?_
  refine l_aload_n h.1 (i := 0) dL_law_1102 (q := 1103) rfl rfl 3 rfl ?_
  refine l_iload_n h.1 (i := 3) dL_law_1103 (q := 1104) rfl rfl 0 rfl ?_
  refine l_iconst h.1 (v := 1) dL_law_1104 (q := 1105) rfl (by decide) ?_
  refine l_iadd h.1 dL_law_1105 (q := 1106) rfl ?_
  rw [show (nI i + 1 : Int32) = nI (i + 1) from nI_add i 1]
  refine l_sld h.1 (k := (i + 1)) h.2.2.2.2.1 h.2.2.2.2.2.1 h.2.2.2.2.2.2.1 (vp_in_nI (by omega) (by omega)) (nI_clamp (by omega)) dL_law_1106 (q := 1107) rfl ?_
  refine l_aload_n h.1 (i := 0) dL_law_1107 (q := 1108) rfl rfl 3 rfl ?_
  refine l_iload_n h.1 (i := 3) dL_law_1108 (q := 1109) rfl rfl 0 rfl ?_
  refine l_iconst h.1 (v := 2) dL_law_1109 (q := 1110) rfl (by decide) ?_
  refine l_iadd h.1 dL_law_1110 (q := 1111) rfl ?_
  rw [show (nI i + 2 : Int32) = nI (i + 2) from nI_add i 2]
  refine l_sld h.1 (k := (i + 2)) h.2.2.2.2.1 h.2.2.2.2.2.1 h.2.2.2.2.2.2.1 (vp_in_nI (by omega) (by omega)) (nI_clamp (by omega)) dL_law_1111 (q := 1112) rfl ?_
  refine l_call h.1 h.2.1 h.2.2.2.1 h.2.2.2.2.2.2.2.1 (As := [.int (xs (i + 1)), .int (xs (i + 2))]) (rest := []) (c_X9_strokes (w := u1) (σ := σ) hs hR) cal_X9_strokes calV_X9_strokes m703 ⟨rfl, rfl, Nat.le_of_ble_eq_true rfl, Nat.le_of_ble_eq_true rfl⟩ rfl hs.1.1 hs.1.2 ⟨_, _, rfl⟩ rfl (Nat.le_of_ble_eq_true rfl) dL_law_1112 (q := 1115) rfl (kLA (fun σ1 g1 => ?_))
  refine l_aload_n h.1 (i := 2) dL_law_1115 (q := 1116) rfl rfl 1 rfl ?_
  refine l_aload_n h.1 (i := 0) dL_law_1116 (q := 1117) rfl rfl 3 rfl ?_
  refine l_iload_n h.1 (i := 3) dL_law_1117 (q := 1118) rfl rfl 0 rfl ?_
  refine l_iconst h.1 (v := 1) dL_law_1118 (q := 1119) rfl (by decide) ?_
  refine l_iadd h.1 dL_law_1119 (q := 1120) rfl ?_
  rw [show (nI i + 1 : Int32) = nI (i + 1) from nI_add i 1]
  refine l_sld h.1 (k := (i + 1)) h.2.2.2.2.1 h.2.2.2.2.2.1 h.2.2.2.2.2.2.1 (vp_in_nI (by omega) (by omega)) (nI_clamp (by omega)) dL_law_1120 (q := 1121) rfl ?_
  refine l_aload_n h.1 (i := 0) dL_law_1121 (q := 1122) rfl rfl 3 rfl ?_
  refine l_iload_n h.1 (i := 3) dL_law_1122 (q := 1123) rfl rfl 0 rfl ?_
  refine l_iconst h.1 (v := 2) dL_law_1123 (q := 1124) rfl (by decide) ?_
  refine l_iadd h.1 dL_law_1124 (q := 1125) rfl ?_
  rw [show (nI i + 2 : Int32) = nI (i + 2) from nI_add i 2]
  refine l_sld h.1 (k := (i + 2)) h.2.2.2.2.1 h.2.2.2.2.2.1 h.2.2.2.2.2.2.1 (vp_in_nI (by omega) (by omega)) (nI_clamp (by omega)) dL_law_1125 (q := 1126) rfl ?_
  refine VL.swap ?_
  refine l_call h.1 h.2.2.1 (fun q z1 z2 => h.2.2.2.1 q z2 z1) h.2.2.2.2.2.2.2.1 (As := [.int (xs (i + 1)), .int (xs (i + 2))]) (rest := [.int _]) (c_X10_strokes (w := u2) (σ := τ) hm hQ) cal_X10_strokes calV_X10_strokes m1262 ⟨rfl, rfl, Nat.le_of_ble_eq_true rfl, Nat.le_of_ble_eq_true rfl⟩ rfl hm.1.1 hm.1.2 ⟨_, _, rfl⟩ rfl (Nat.le_of_ble_eq_true rfl) dL_law_1126 (q := 1129) rfl (kLM (fun τ1 g2 => ?_))
  exact l_icmp_eq h.1 (t := 1556) dL_law_1129 (by decide) (q := 1132) rfl (fun _ => kk σ1 τ1 _ g1 g2) (fun z => absurd rfl z)
set_option maxHeartbeats 4000000 in
theorem law_27 {x : bX} {u1 u2 : bw} {D : va_G} {kd : Nat → ClassId} {ad : bAd} {B L b : Nat} {xs : Nat → Int32} {C S : Nat} {Q : State → Prop} {σ τ : bSt} {A : bA} {i : Nat} (h : CL x u1 u2 D kd ad B L b xs C S) (hs : sOpera u1) (hm : sModel u2) (hR : RC σ A) (hQ : RQ τ A) (hi : i + 6 ≤ L) (kk : ∀ (σ' τ' : bSt) (A' : bA), RC σ' A' → RQ τ' A' → VL x u1 u2 B C S Q 1556 [(3, .int (nI i)), (2, .ref (b_ad u2 0)), (1, .ref (b_ad u1 0)), (0, .ref b)] [] σ' τ') : VL x u1 u2 B C S Q 1134 [(3, .int (nI i)), (2, .ref (b_ad u2 0)), (1, .ref (b_ad u1 0)), (0, .ref b)] [] σ τ := by
  have hL := h.2.2.2.2.2.2.2.2
  refine l_aload_n h.1 (i := 1) dL_law_1134 (q := 1135) rfl rfl 2 rfl ?_
  refine l_aload_n h.1 (i := 0) dL_law_1135 (q := 1136) rfl rfl 3 rfl ?_
  refine l_iload_n h.1 (i := 3) dL_law_1136 (q := 1137) rfl rfl 0 rfl ?_
  refine l_iconst h.1 (v := 1) dL_law_1137 (q := 1138) rfl (by decide) ?_
  refine l_iadd h.1 dL_law_1138 (q := 1139) rfl ?_
  rw [show (nI i + 1 : Int32) = nI (i + 1) from nI_add i 1]
  refine l_sld h.1 (k := (i + 1)) h.2.2.2.2.1 h.2.2.2.2.2.1 h.2.2.2.2.2.2.1 (vp_in_nI (by omega) (by omega)) (nI_clamp (by omega)) dL_law_1139 (q := 1140) rfl ?_
  refine l_call h.1 h.2.1 h.2.2.2.1 h.2.2.2.2.2.2.2.1 (As := [.int (xs (i + 1))]) (rest := []) (c_X9_seed (w := u1) (σ := σ) hs hR) cal_X9_seed calV_X9_seed m707 ⟨rfl, rfl, Nat.le_of_ble_eq_true rfl, Nat.le_of_ble_eq_true rfl⟩ rfl hs.1.1 hs.1.2 ⟨_, _, rfl⟩ rfl (Nat.le_of_ble_eq_true rfl) dL_law_1140 (q := 1143) rfl (kLA (fun σ1 g1 => ?_))
  refine l_aload_n h.1 (i := 2) dL_law_1143 (q := 1144) rfl rfl 1 rfl ?_
  refine l_aload_n h.1 (i := 0) dL_law_1144 (q := 1145) rfl rfl 3 rfl ?_
  refine l_iload_n h.1 (i := 3) dL_law_1145 (q := 1146) rfl rfl 0 rfl ?_
  refine l_iconst h.1 (v := 1) dL_law_1146 (q := 1147) rfl (by decide) ?_
  refine l_iadd h.1 dL_law_1147 (q := 1148) rfl ?_
  rw [show (nI i + 1 : Int32) = nI (i + 1) from nI_add i 1]
  refine l_sld h.1 (k := (i + 1)) h.2.2.2.2.1 h.2.2.2.2.2.1 h.2.2.2.2.2.2.1 (vp_in_nI (by omega) (by omega)) (nI_clamp (by omega)) dL_law_1148 (q := 1149) rfl ?_
  refine VL.swap ?_
  refine l_call h.1 h.2.2.1 (fun q z1 z2 => h.2.2.2.1 q z2 z1) h.2.2.2.2.2.2.2.1 (As := [.int (xs (i + 1))]) (rest := [.int _]) (c_X10_seed (w := u2) (σ := τ) hm hQ) cal_X10_seed calV_X10_seed m1266 ⟨rfl, rfl, Nat.le_of_ble_eq_true rfl, Nat.le_of_ble_eq_true rfl⟩ rfl hm.1.1 hm.1.2 ⟨_, _, rfl⟩ rfl (Nat.le_of_ble_eq_true rfl) dL_law_1149 (q := 1152) rfl (kLM (fun τ1 g2 => ?_))
  exact l_icmp_eq h.1 (t := 1556) dL_law_1152 (by decide) (q := 1155) rfl (fun _ => kk σ1 τ1 _ g1 g2) (fun z => absurd rfl z)
set_option maxHeartbeats 4000000 in
theorem law_28 {x : bX} {u1 u2 : bw} {D : va_G} {kd : Nat → ClassId} {ad : bAd} {B L b : Nat} {xs : Nat → Int32} {C S : Nat} {Q : State → Prop} {σ τ : bSt} {A : bA} {i : Nat} (h : CL x u1 u2 D kd ad B L b xs C S) (hs : sOpera u1) (hm : sModel u2) (hR : RC σ A) (hQ : RQ τ A) (hi : i + 6 ≤ L) (kk : ∀ (σ' τ' : bSt) (A' : bA), RC σ' A' → RQ τ' A' → VL x u1 u2 B C S Q 1556 [(3, .int (nI i)), (2, .ref (b_ad u2 0)), (1, .ref (b_ad u1 0)), (0, .ref b)] [] σ' τ') : VL x u1 u2 B C S Q 1157 [(3, .int (nI i)), (2, .ref (b_ad u2 0)), (1, .ref (b_ad u1 0)), (0, .ref b)] [] σ τ := by
  have hL := h.2.2.2.2.2.2.2.2
  refine l_aload_n h.1 (i := 1) dL_law_1157 (q := 1158) rfl rfl 2 rfl ?_
  refine l_aload_n h.1 (i := 0) dL_law_1158 (q := 1159) rfl rfl 3 rfl ?_
  refine l_iload_n h.1 (i := 3) dL_law_1159 (q := 1160) rfl rfl 0 rfl ?_
  refine l_iconst h.1 (v := 1) dL_law_1160 (q := 1161) rfl (by decide) ?_
  refine l_iadd h.1 dL_law_1161 (q := 1162) rfl ?_
  rw [show (nI i + 1 : Int32) = nI (i + 1) from nI_add i 1]
  refine l_sld h.1 (k := (i + 1)) h.2.2.2.2.1 h.2.2.2.2.2.1 h.2.2.2.2.2.2.1 (vp_in_nI (by omega) (by omega)) (nI_clamp (by omega)) dL_law_1162 (q := 1163) rfl ?_
  refine l_aload_n h.1 (i := 0) dL_law_1163 (q := 1164) rfl rfl 3 rfl ?_
  refine l_iload_n h.1 (i := 3) dL_law_1164 (q := 1165) rfl rfl 0 rfl ?_
  refine l_iconst h.1 (v := 2) dL_law_1165 (q := 1166) rfl (by decide) ?_
  refine l_iadd h.1 dL_law_1166 (q := 1167) rfl ?_
  rw [show (nI i + 2 : Int32) = nI (i + 2) from nI_add i 2]
  refine l_sld h.1 (k := (i + 2)) h.2.2.2.2.1 h.2.2.2.2.2.1 h.2.2.2.2.2.2.1 (vp_in_nI (by omega) (by omega)) (nI_clamp (by omega)) dL_law_1167 (q := 1168) rfl ?_
  refine l_aload_n h.1 (i := 0) dL_law_1168 (q := 1169) rfl rfl 3 rfl ?_
  refine l_iload_n h.1 (i := 3) dL_law_1169 (q := 1170) rfl rfl 0 rfl ?_
  refine l_iconst h.1 (v := 3) dL_law_1170 (q := 1171) rfl (by decide) ?_
  refine l_iadd h.1 dL_law_1171 (q := 1172) rfl ?_
  rw [show (nI i + 3 : Int32) = nI (i + 3) from nI_add i 3]
  refine l_sld h.1 (k := (i + 3)) h.2.2.2.2.1 h.2.2.2.2.2.1 h.2.2.2.2.2.2.1 (vp_in_nI (by omega) (by omega)) (nI_clamp (by omega)) dL_law_1172 (q := 1173) rfl ?_
  refine l_call h.1 h.2.1 h.2.2.2.1 h.2.2.2.2.2.2.2.1 (As := [.int (xs (i + 1)), .int (xs (i + 2)), .int (xs (i + 3))]) (rest := []) (c_X9_voice (w := u1) (σ := σ) hs hR) cal_X9_voice calV_X9_voice m711 ⟨rfl, rfl, Nat.le_of_ble_eq_true rfl, Nat.le_of_ble_eq_true rfl⟩ rfl hs.1.1 hs.1.2 ⟨_, _, rfl⟩ rfl (Nat.le_of_ble_eq_true rfl) dL_law_1173 (q := 1176) rfl (kLA (fun σ1 g1 => ?_))
  refine l_aload_n h.1 (i := 2) dL_law_1176 (q := 1177) rfl rfl 1 rfl ?_
  refine l_aload_n h.1 (i := 0) dL_law_1177 (q := 1178) rfl rfl 3 rfl ?_
  refine l_iload_n h.1 (i := 3) dL_law_1178 (q := 1179) rfl rfl 0 rfl ?_
  refine l_iconst h.1 (v := 1) dL_law_1179 (q := 1180) rfl (by decide) ?_
  refine l_iadd h.1 dL_law_1180 (q := 1181) rfl ?_
  rw [show (nI i + 1 : Int32) = nI (i + 1) from nI_add i 1]
  refine l_sld h.1 (k := (i + 1)) h.2.2.2.2.1 h.2.2.2.2.2.1 h.2.2.2.2.2.2.1 (vp_in_nI (by omega) (by omega)) (nI_clamp (by omega)) dL_law_1181 (q := 1182) rfl ?_
  refine l_aload_n h.1 (i := 0) dL_law_1182 (q := 1183) rfl rfl 3 rfl ?_
  refine l_iload_n h.1 (i := 3) dL_law_1183 (q := 1184) rfl rfl 0 rfl ?_
  refine l_iconst h.1 (v := 2) dL_law_1184 (q := 1185) rfl (by decide) ?_
  refine l_iadd h.1 dL_law_1185 (q := 1186) rfl ?_
  rw [show (nI i + 2 : Int32) = nI (i + 2) from nI_add i 2]
  refine l_sld h.1 (k := (i + 2)) h.2.2.2.2.1 h.2.2.2.2.2.1 h.2.2.2.2.2.2.1 (vp_in_nI (by omega) (by omega)) (nI_clamp (by omega)) dL_law_1186 (q := 1187) rfl ?_
  refine l_aload_n h.1 (i := 0) dL_law_1187 (q := 1188) rfl rfl 3 rfl ?_
  refine l_iload_n h.1 (i := 3) dL_law_1188 (q := 1189) rfl rfl 0 rfl ?_
  refine l_iconst h.1 (v := 3) dL_law_1189 (q := 1190) rfl (by decide) ?_
  refine l_iadd h.1 dL_law_1190 (q := 1191) rfl ?_
  rw [show (nI i + 3 : Int32) = nI (i + 3) from nI_add i 3]
  refine l_sld h.1 (k := (i + 3)) h.2.2.2.2.1 h.2.2.2.2.2.1 h.2.2.2.2.2.2.1 (vp_in_nI (by omega) (by omega)) (nI_clamp (by omega)) dL_law_1191 (q := 1192) rfl ?_
  refine VL.swap ?_
  refine l_call h.1 h.2.2.1 (fun q z1 z2 => h.2.2.2.1 q z2 z1) h.2.2.2.2.2.2.2.1 (As := [.int (xs (i + 1)), .int (xs (i + 2)), .int (xs (i + 3))]) (rest := [.int _]) (c_X10_voice (w := u2) (σ := τ) hm hQ) cal_X10_voice calV_X10_voice m1270 ⟨rfl, rfl, Nat.le_of_ble_eq_true rfl, Nat.le_of_ble_eq_true rfl⟩ rfl hm.1.1 hm.1.2 ⟨_, _, rfl⟩ rfl (Nat.le_of_ble_eq_true rfl) dL_law_1192 (q := 1195) rfl (kLM (fun τ1 g2 => ?_))
  exact l_icmp_eq h.1 (t := 1556) dL_law_1195 (by decide) (q := 1198) rfl (fun _ => kk σ1 τ1 _ g1 g2) (fun z => absurd rfl z)
set_option maxHeartbeats 4000000 in
theorem law_29 {x : bX} {u1 u2 : bw} {D : va_G} {kd : Nat → ClassId} {ad : bAd} {B L b : Nat} {xs : Nat → Int32} {C S : Nat} {Q : State → Prop} {σ τ : bSt} {A : bA} {i : Nat} (h : CL x u1 u2 D kd ad B L b xs C S) (hs : sOpera u1) (hm : sModel u2) (hR : RC σ A) (hQ : RQ τ A) (hi : i + 6 ≤ L) (kk : ∀ (σ' τ' : bSt) (A' : bA), RC σ' A' → RQ τ' A' → VL x u1 u2 B C S Q 1556 [(3, .int (nI i)), (2, .ref (b_ad u2 0)), (1, .ref (b_ad u1 0)), (0, .ref b)] [] σ' τ') : VL x u1 u2 B C S Q 1200 [(3, .int (nI i)), (2, .ref (b_ad u2 0)), (1, .ref (b_ad u1 0)), (0, .ref b)] [] σ τ := by
  have hL := h.2.2.2.2.2.2.2.2
  refine l_aload_n h.1 (i := 1) dL_law_1200 (q := 1201) rfl rfl 2 rfl ?_
  refine l_aload_n h.1 (i := 0) dL_law_1201 (q := 1202) rfl rfl 3 rfl ?_
  refine l_iload_n h.1 (i := 3) dL_law_1202 (q := 1203) rfl rfl 0 rfl ?_
  refine l_iconst h.1 (v := 1) dL_law_1203 (q := 1204) rfl (by decide) ?_
  refine l_iadd h.1 dL_law_1204 (q := 1205) rfl ?_
  rw [show (nI i + 1 : Int32) = nI (i + 1) from nI_add i 1]
  refine l_sld h.1 (k := (i + 1)) h.2.2.2.2.1 h.2.2.2.2.2.1 h.2.2.2.2.2.2.1 (vp_in_nI (by omega) (by omega)) (nI_clamp (by omega)) dL_law_1205 (q := 1206) rfl ?_
  refine l_call h.1 h.2.1 h.2.2.2.1 h.2.2.2.2.2.2.2.1 (As := [.int (xs (i + 1))]) (rest := []) (c_X9_trace (w := u1) (σ := σ) hs hR) cal_X9_trace calV_X9_trace m738 ⟨rfl, rfl, Nat.le_of_ble_eq_true rfl, Nat.le_of_ble_eq_true rfl⟩ rfl hs.1.1 hs.1.2 ⟨_, _, rfl⟩ rfl (Nat.le_of_ble_eq_true rfl) dL_law_1206 (q := 1209) rfl (kLA (fun σ1 g1 => ?_))
  refine l_aload_n h.1 (i := 2) dL_law_1209 (q := 1210) rfl rfl 1 rfl ?_
  refine l_aload_n h.1 (i := 0) dL_law_1210 (q := 1211) rfl rfl 3 rfl ?_
  refine l_iload_n h.1 (i := 3) dL_law_1211 (q := 1212) rfl rfl 0 rfl ?_
  refine l_iconst h.1 (v := 1) dL_law_1212 (q := 1213) rfl (by decide) ?_
  refine l_iadd h.1 dL_law_1213 (q := 1214) rfl ?_
  rw [show (nI i + 1 : Int32) = nI (i + 1) from nI_add i 1]
  refine l_sld h.1 (k := (i + 1)) h.2.2.2.2.1 h.2.2.2.2.2.1 h.2.2.2.2.2.2.1 (vp_in_nI (by omega) (by omega)) (nI_clamp (by omega)) dL_law_1214 (q := 1215) rfl ?_
  refine VL.swap ?_
  refine l_call h.1 h.2.2.1 (fun q z1 z2 => h.2.2.2.1 q z2 z1) h.2.2.2.2.2.2.2.1 (As := [.int (xs (i + 1))]) (rest := [.int _]) (c_X10_trace (w := u2) (σ := τ) hm hQ) cal_X10_trace calV_X10_trace m1293 ⟨rfl, rfl, Nat.le_of_ble_eq_true rfl, Nat.le_of_ble_eq_true rfl⟩ rfl hm.1.1 hm.1.2 ⟨_, _, rfl⟩ rfl (Nat.le_of_ble_eq_true rfl) dL_law_1215 (q := 1218) rfl (kLM (fun τ1 g2 => ?_))
  exact l_icmp_eq h.1 (t := 1556) dL_law_1218 (by decide) (q := 1221) rfl (fun _ => kk σ1 τ1 _ g1 g2) (fun z => absurd rfl z)
set_option maxHeartbeats 4000000 in
theorem law_30 {x : bX} {u1 u2 : bw} {D : va_G} {kd : Nat → ClassId} {ad : bAd} {B L b : Nat} {xs : Nat → Int32} {C S : Nat} {Q : State → Prop} {σ τ : bSt} {A : bA} {i : Nat} (h : CL x u1 u2 D kd ad B L b xs C S) (hs : sOpera u1) (hm : sModel u2) (hR : RC σ A) (hQ : RQ τ A) (hi : i + 6 ≤ L) (kk : ∀ (σ' τ' : bSt) (A' : bA), RC σ' A' → RQ τ' A' → VL x u1 u2 B C S Q 1556 [(3, .int (nI i)), (2, .ref (b_ad u2 0)), (1, .ref (b_ad u1 0)), (0, .ref b)] [] σ' τ') : VL x u1 u2 B C S Q 1223 [(3, .int (nI i)), (2, .ref (b_ad u2 0)), (1, .ref (b_ad u1 0)), (0, .ref b)] [] σ τ := by
  have hL := h.2.2.2.2.2.2.2.2
  refine l_aload_n h.1 (i := 1) dL_law_1223 (q := 1224) rfl rfl 2 rfl ?_
  refine l_aload_n h.1 (i := 0) dL_law_1224 (q := 1225) rfl rfl 3 rfl ?_
  refine l_iload_n h.1 (i := 3) dL_law_1225 (q := 1226) rfl rfl 0 rfl ?_
  refine l_iconst h.1 (v := 1) dL_law_1226 (q := 1227) rfl (by decide) ?_
  refine l_iadd h.1 dL_law_1227 (q := 1228) rfl ?_
  rw [show (nI i + 1 : Int32) = nI (i + 1) from nI_add i 1]
  refine l_sld h.1 (k := (i + 1)) h.2.2.2.2.1 h.2.2.2.2.2.1 h.2.2.2.2.2.2.1 (vp_in_nI (by omega) (by omega)) (nI_clamp (by omega)) dL_law_1228 (q := 1229) rfl ?_
  refine l_aload_n h.1 (i := 0) dL_law_1229 (q := 1230) rfl rfl 3 rfl ?_
  refine l_iload_n h.1 (i := 3) dL_law_1230 (q := 1231) rfl rfl 0 rfl ?_
  refine l_iconst h.1 (v := 2) dL_law_1231 (q := 1232) rfl (by decide) ?_
  refine l_iadd h.1 dL_law_1232 (q := 1233) rfl ?_
  rw [show (nI i + 2 : Int32) = nI (i + 2) from nI_add i 2]
  refine l_sld h.1 (k := (i + 2)) h.2.2.2.2.1 h.2.2.2.2.2.1 h.2.2.2.2.2.2.1 (vp_in_nI (by omega) (by omega)) (nI_clamp (by omega)) dL_law_1233 (q := 1234) rfl ?_
  refine l_aload_n h.1 (i := 0) dL_law_1234 (q := 1235) rfl rfl 3 rfl ?_
  refine l_iload_n h.1 (i := 3) dL_law_1235 (q := 1236) rfl rfl 0 rfl ?_
  refine l_iconst h.1 (v := 3) dL_law_1236 (q := 1237) rfl (by decide) ?_
  refine l_iadd h.1 dL_law_1237 (q := 1238) rfl ?_
  rw [show (nI i + 3 : Int32) = nI (i + 3) from nI_add i 3]
  refine l_sld h.1 (k := (i + 3)) h.2.2.2.2.1 h.2.2.2.2.2.1 h.2.2.2.2.2.2.1 (vp_in_nI (by omega) (by omega)) (nI_clamp (by omega)) dL_law_1238 (q := 1239) rfl ?_
  refine l_call h.1 h.2.1 h.2.2.2.1 h.2.2.2.2.2.2.2.1 (As := [.int (xs (i + 1)), .int (xs (i + 2)), .int (xs (i + 3))]) (rest := []) (c_X9_sheet (w := u1) (σ := σ) hs hR) cal_X9_sheet calV_X9_sheet m742 ⟨rfl, rfl, Nat.le_of_ble_eq_true rfl, Nat.le_of_ble_eq_true rfl⟩ rfl hs.1.1 hs.1.2 ⟨_, _, rfl⟩ rfl (Nat.le_of_ble_eq_true rfl) dL_law_1239 (q := 1242) rfl (kLA (fun σ1 g1 => ?_))
  refine l_aload_n h.1 (i := 2) dL_law_1242 (q := 1243) rfl rfl 1 rfl ?_
  refine l_aload_n h.1 (i := 0) dL_law_1243 (q := 1244) rfl rfl 3 rfl ?_
  refine l_iload_n h.1 (i := 3) dL_law_1244 (q := 1245) rfl rfl 0 rfl ?_
  refine l_iconst h.1 (v := 1) dL_law_1245 (q := 1246) rfl (by decide) ?_
  refine l_iadd h.1 dL_law_1246 (q := 1247) rfl ?_
  rw [show (nI i + 1 : Int32) = nI (i + 1) from nI_add i 1]
  refine l_sld h.1 (k := (i + 1)) h.2.2.2.2.1 h.2.2.2.2.2.1 h.2.2.2.2.2.2.1 (vp_in_nI (by omega) (by omega)) (nI_clamp (by omega)) dL_law_1247 (q := 1248) rfl ?_
  refine l_aload_n h.1 (i := 0) dL_law_1248 (q := 1249) rfl rfl 3 rfl ?_
  refine l_iload_n h.1 (i := 3) dL_law_1249 (q := 1250) rfl rfl 0 rfl ?_
  refine l_iconst h.1 (v := 2) dL_law_1250 (q := 1251) rfl (by decide) ?_
  refine l_iadd h.1 dL_law_1251 (q := 1252) rfl ?_
  rw [show (nI i + 2 : Int32) = nI (i + 2) from nI_add i 2]
  refine l_sld h.1 (k := (i + 2)) h.2.2.2.2.1 h.2.2.2.2.2.1 h.2.2.2.2.2.2.1 (vp_in_nI (by omega) (by omega)) (nI_clamp (by omega)) dL_law_1252 (q := 1253) rfl ?_
  refine l_aload_n h.1 (i := 0) dL_law_1253 (q := 1254) rfl rfl 3 rfl ?_
  refine l_iload_n h.1 (i := 3) dL_law_1254 (q := 1255) rfl rfl 0 rfl ?_
  refine l_iconst h.1 (v := 3) dL_law_1255 (q := 1256) rfl (by decide) ?_
  refine l_iadd h.1 dL_law_1256 (q := 1257) rfl ?_
  rw [show (nI i + 3 : Int32) = nI (i + 3) from nI_add i 3]
  refine l_sld h.1 (k := (i + 3)) h.2.2.2.2.1 h.2.2.2.2.2.1 h.2.2.2.2.2.2.1 (vp_in_nI (by omega) (by omega)) (nI_clamp (by omega)) dL_law_1257 (q := 1258) rfl ?_
  refine VL.swap ?_
  refine l_call h.1 h.2.2.1 (fun q z1 z2 => h.2.2.2.1 q z2 z1) h.2.2.2.2.2.2.2.1 (As := [.int (xs (i + 1)), .int (xs (i + 2)), .int (xs (i + 3))]) (rest := [.int _]) (c_X10_sheet (w := u2) (σ := τ) hm hQ) cal_X10_sheet calV_X10_sheet m1297 ⟨rfl, rfl, Nat.le_of_ble_eq_true rfl, Nat.le_of_ble_eq_true rfl⟩ rfl hm.1.1 hm.1.2 ⟨_, _, rfl⟩ rfl (Nat.le_of_ble_eq_true rfl) dL_law_1258 (q := 1261) rfl (kLM (fun τ1 g2 => ?_))
  exact l_icmp_eq h.1 (t := 1556) dL_law_1261 (by decide) (q := 1264) rfl (fun _ => kk σ1 τ1 _ g1 g2) (fun z => absurd rfl z)
set_option maxHeartbeats 4000000 in
theorem law_31 {x : bX} {u1 u2 : bw} {D : va_G} {kd : Nat → ClassId} {ad : bAd} {B L b : Nat} {xs : Nat → Int32} {C S : Nat} {Q : State → Prop} {σ τ : bSt} {A : bA} {i : Nat} (h : CL x u1 u2 D kd ad B L b xs C S) (hs : sOpera u1) (hm : sModel u2) (hR : RC σ A) (hQ : RQ τ A) (hi : i + 6 ≤ L) (kk : ∀ (σ' τ' : bSt) (A' : bA), RC σ' A' → RQ τ' A' → VL x u1 u2 B C S Q 1556 [(3, .int (nI i)), (2, .ref (b_ad u2 0)), (1, .ref (b_ad u1 0)), (0, .ref b)] [] σ' τ') : VL x u1 u2 B C S Q 1266 [(3, .int (nI i)), (2, .ref (b_ad u2 0)), (1, .ref (b_ad u1 0)), (0, .ref b)] [] σ τ := by
  have hL := h.2.2.2.2.2.2.2.2
  refine l_aload_n h.1 (i := 1) dL_law_1266 (q := 1267) rfl rfl 2 rfl ?_
  refine l_aload_n h.1 (i := 0) dL_law_1267 (q := 1268) rfl rfl 3 rfl ?_
  refine l_iload_n h.1 (i := 3) dL_law_1268 (q := 1269) rfl rfl 0 rfl ?_
  refine l_iconst h.1 (v := 1) dL_law_1269 (q := 1270) rfl (by decide) ?_
  refine l_iadd h.1 dL_law_1270 (q := 1271) rfl ?_
  rw [show (nI i + 1 : Int32) = nI (i + 1) from nI_add i 1]
  refine l_sld h.1 (k := (i + 1)) h.2.2.2.2.1 h.2.2.2.2.2.1 h.2.2.2.2.2.2.1 (vp_in_nI (by omega) (by omega)) (nI_clamp (by omega)) dL_law_1271 (q := 1272) rfl ?_
  refine l_aload_n h.1 (i := 0) dL_law_1272 (q := 1273) rfl rfl 3 rfl ?_
  refine l_iload_n h.1 (i := 3) dL_law_1273 (q := 1274) rfl rfl 0 rfl ?_
  refine l_iconst h.1 (v := 2) dL_law_1274 (q := 1275) rfl (by decide) ?_
  refine l_iadd h.1 dL_law_1275 (q := 1276) rfl ?_
  rw [show (nI i + 2 : Int32) = nI (i + 2) from nI_add i 2]
  refine l_sld h.1 (k := (i + 2)) h.2.2.2.2.1 h.2.2.2.2.2.1 h.2.2.2.2.2.2.1 (vp_in_nI (by omega) (by omega)) (nI_clamp (by omega)) dL_law_1276 (q := 1277) rfl ?_
  refine l_aload_n h.1 (i := 0) dL_law_1277 (q := 1278) rfl rfl 3 rfl ?_
  refine l_iload_n h.1 (i := 3) dL_law_1278 (q := 1279) rfl rfl 0 rfl ?_
  refine l_iconst h.1 (v := 3) dL_law_1279 (q := 1280) rfl (by decide) ?_
  refine l_iadd h.1 dL_law_1280 (q := 1281) rfl ?_
  rw [show (nI i + 3 : Int32) = nI (i + 3) from nI_add i 3]
  refine l_sld h.1 (k := (i + 3)) h.2.2.2.2.1 h.2.2.2.2.2.1 h.2.2.2.2.2.2.1 (vp_in_nI (by omega) (by omega)) (nI_clamp (by omega)) dL_law_1281 (q := 1282) rfl ?_
  refine l_call h.1 h.2.1 h.2.2.2.1 h.2.2.2.2.2.2.2.1 (As := [.int (xs (i + 1)), .int (xs (i + 2)), .int (xs (i + 3))]) (rest := []) (c_X9_put (w := u1) (σ := σ) hs hR) cal_X9_put calV_X9_put m755 ⟨rfl, rfl, Nat.le_of_ble_eq_true rfl, Nat.le_of_ble_eq_true rfl⟩ rfl hs.1.1 hs.1.2 ⟨_, _, rfl⟩ rfl (Nat.le_of_ble_eq_true rfl) dL_law_1282 (q := 1285) rfl (kLA (fun σ1 g1 => ?_))
  refine l_aload_n h.1 (i := 2) dL_law_1285 (q := 1286) rfl rfl 1 rfl ?_
  refine l_aload_n h.1 (i := 0) dL_law_1286 (q := 1287) rfl rfl 3 rfl ?_
  refine l_iload_n h.1 (i := 3) dL_law_1287 (q := 1288) rfl rfl 0 rfl ?_
  refine l_iconst h.1 (v := 1) dL_law_1288 (q := 1289) rfl (by decide) ?_
  refine l_iadd h.1 dL_law_1289 (q := 1290) rfl ?_
  rw [show (nI i + 1 : Int32) = nI (i + 1) from nI_add i 1]
  refine l_sld h.1 (k := (i + 1)) h.2.2.2.2.1 h.2.2.2.2.2.1 h.2.2.2.2.2.2.1 (vp_in_nI (by omega) (by omega)) (nI_clamp (by omega)) dL_law_1290 (q := 1291) rfl ?_
  refine l_aload_n h.1 (i := 0) dL_law_1291 (q := 1292) rfl rfl 3 rfl ?_
  refine l_iload_n h.1 (i := 3) dL_law_1292 (q := 1293) rfl rfl 0 rfl ?_
  refine l_iconst h.1 (v := 2) dL_law_1293 (q := 1294) rfl (by decide) ?_
  refine l_iadd h.1 dL_law_1294 (q := 1295) rfl ?_
  rw [show (nI i + 2 : Int32) = nI (i + 2) from nI_add i 2]
  refine l_sld h.1 (k := (i + 2)) h.2.2.2.2.1 h.2.2.2.2.2.1 h.2.2.2.2.2.2.1 (vp_in_nI (by omega) (by omega)) (nI_clamp (by omega)) dL_law_1295 (q := 1296) rfl ?_
  refine l_aload_n h.1 (i := 0) dL_law_1296 (q := 1297) rfl rfl 3 rfl ?_
  refine l_iload_n h.1 (i := 3) dL_law_1297 (q := 1298) rfl rfl 0 rfl ?_
  refine l_iconst h.1 (v := 3) dL_law_1298 (q := 1299) rfl (by decide) ?_
  refine l_iadd h.1 dL_law_1299 (q := 1300) rfl ?_
  rw [show (nI i + 3 : Int32) = nI (i + 3) from nI_add i 3]
  refine l_sld h.1 (k := (i + 3)) h.2.2.2.2.1 h.2.2.2.2.2.1 h.2.2.2.2.2.2.1 (vp_in_nI (by omega) (by omega)) (nI_clamp (by omega)) dL_law_1300 (q := 1301) rfl ?_
  refine VL.swap ?_
  refine l_call h.1 h.2.2.1 (fun q z1 z2 => h.2.2.2.1 q z2 z1) h.2.2.2.2.2.2.2.1 (As := [.int (xs (i + 1)), .int (xs (i + 2)), .int (xs (i + 3))]) (rest := [.int _]) (c_X10_put (w := u2) (σ := τ) hm hQ) cal_X10_put calV_X10_put m1304 ⟨rfl, rfl, Nat.le_of_ble_eq_true rfl, Nat.le_of_ble_eq_true rfl⟩ rfl hm.1.1 hm.1.2 ⟨_, _, rfl⟩ rfl (Nat.le_of_ble_eq_true rfl) dL_law_1301 (q := 1304) rfl (kLM (fun τ1 g2 => ?_))
  exact l_icmp_eq h.1 (t := 1556) dL_law_1304 (by decide) (q := 1307) rfl (fun _ => kk σ1 τ1 _ g1 g2) (fun z => absurd rfl z)
set_option maxHeartbeats 4000000 in
theorem law_32 {x : bX} {u1 u2 : bw} {D : va_G} {kd : Nat → ClassId} {ad : bAd} {B L b : Nat} {xs : Nat → Int32} {C S : Nat} {Q : State → Prop} {σ τ : bSt} {A : bA} {i : Nat} (h : CL x u1 u2 D kd ad B L b xs C S) (hs : sOpera u1) (hm : sModel u2) (hR : RC σ A) (hQ : RQ τ A) (hi : i + 6 ≤ L) (kk : ∀ (σ' τ' : bSt) (A' : bA), RC σ' A' → RQ τ' A' → VL x u1 u2 B C S Q 1556 [(3, .int (nI i)), (2, .ref (b_ad u2 0)), (1, .ref (b_ad u1 0)), (0, .ref b)] [] σ' τ') : VL x u1 u2 B C S Q 1309 [(3, .int (nI i)), (2, .ref (b_ad u2 0)), (1, .ref (b_ad u1 0)), (0, .ref b)] [] σ τ := by
  have hL := h.2.2.2.2.2.2.2.2
  refine l_aload_n h.1 (i := 1) dL_law_1309 (q := 1310) rfl rfl 2 rfl ?_
  refine l_aload_n h.1 (i := 0) dL_law_1310 (q := 1311) rfl rfl 3 rfl ?_
  refine l_iload_n h.1 (i := 3) dL_law_1311 (q := 1312) rfl rfl 0 rfl ?_
  refine l_iconst h.1 (v := 1) dL_law_1312 (q := 1313) rfl (by decide) ?_
  refine l_iadd h.1 dL_law_1313 (q := 1314) rfl ?_
  rw [show (nI i + 1 : Int32) = nI (i + 1) from nI_add i 1]
  refine l_sld h.1 (k := (i + 1)) h.2.2.2.2.1 h.2.2.2.2.2.1 h.2.2.2.2.2.2.1 (vp_in_nI (by omega) (by omega)) (nI_clamp (by omega)) dL_law_1314 (q := 1315) rfl ?_
  refine l_aload_n h.1 (i := 0) dL_law_1315 (q := 1316) rfl rfl 3 rfl ?_
  refine l_iload_n h.1 (i := 3) dL_law_1316 (q := 1317) rfl rfl 0 rfl ?_
  refine l_iconst h.1 (v := 2) dL_law_1317 (q := 1318) rfl (by decide) ?_
  refine l_iadd h.1 dL_law_1318 (q := 1319) rfl ?_
  rw [show (nI i + 2 : Int32) = nI (i + 2) from nI_add i 2]
  refine l_sld h.1 (k := (i + 2)) h.2.2.2.2.1 h.2.2.2.2.2.1 h.2.2.2.2.2.2.1 (vp_in_nI (by omega) (by omega)) (nI_clamp (by omega)) dL_law_1319 (q := 1320) rfl ?_
  refine l_aload_n h.1 (i := 0) dL_law_1320 (q := 1321) rfl rfl 3 rfl ?_
  refine l_iload_n h.1 (i := 3) dL_law_1321 (q := 1322) rfl rfl 0 rfl ?_
  refine l_iconst h.1 (v := 3) dL_law_1322 (q := 1323) rfl (by decide) ?_
  refine l_iadd h.1 dL_law_1323 (q := 1324) rfl ?_
  rw [show (nI i + 3 : Int32) = nI (i + 3) from nI_add i 3]
  refine l_sld h.1 (k := (i + 3)) h.2.2.2.2.1 h.2.2.2.2.2.1 h.2.2.2.2.2.2.1 (vp_in_nI (by omega) (by omega)) (nI_clamp (by omega)) dL_law_1324 (q := 1325) rfl ?_
  refine l_aload_n h.1 (i := 0) dL_law_1325 (q := 1326) rfl rfl 3 rfl ?_
  refine l_iload_n h.1 (i := 3) dL_law_1326 (q := 1327) rfl rfl 0 rfl ?_
  refine l_iconst h.1 (v := 4) dL_law_1327 (q := 1328) rfl (by decide) ?_
  refine l_iadd h.1 dL_law_1328 (q := 1329) rfl ?_
  rw [show (nI i + 4 : Int32) = nI (i + 4) from nI_add i 4]
  refine l_sld h.1 (k := (i + 4)) h.2.2.2.2.1 h.2.2.2.2.2.1 h.2.2.2.2.2.2.1 (vp_in_nI (by omega) (by omega)) (nI_clamp (by omega)) dL_law_1329 (q := 1330) rfl ?_
  refine l_aload_n h.1 (i := 0) dL_law_1330 (q := 1331) rfl rfl 3 rfl ?_
  refine l_iload_n h.1 (i := 3) dL_law_1331 (q := 1332) rfl rfl 0 rfl ?_
  refine l_iconst h.1 (v := 5) dL_law_1332 (q := 1333) rfl (by decide) ?_
  refine l_iadd h.1 dL_law_1333 (q := 1334) rfl ?_
  rw [show (nI i + 5 : Int32) = nI (i + 5) from nI_add i 5]
  refine l_sld h.1 (k := (i + 5)) h.2.2.2.2.1 h.2.2.2.2.2.1 h.2.2.2.2.2.2.1 (vp_in_nI (by omega) (by omega)) (nI_clamp (by omega)) dL_law_1334 (q := 1335) rfl ?_
  refine l_call h.1 h.2.1 h.2.2.2.1 h.2.2.2.2.2.2.2.1 (As := [.int (xs (i + 1)), .int (xs (i + 2)), .int (xs (i + 3)), .int (xs (i + 4)), .int (xs (i + 5))]) (rest := []) (c_X9_move (w := u1) (σ := σ) hs hR) cal_X9_move calV_X9_move m773 ⟨rfl, rfl, Nat.le_of_ble_eq_true rfl, Nat.le_of_ble_eq_true rfl⟩ rfl hs.1.1 hs.1.2 ⟨_, _, rfl⟩ rfl (Nat.le_of_ble_eq_true rfl) dL_law_1335 (q := 1338) rfl (kLA (fun σ1 g1 => ?_))
  refine l_aload_n h.1 (i := 2) dL_law_1338 (q := 1339) rfl rfl 1 rfl ?_
  refine l_aload_n h.1 (i := 0) dL_law_1339 (q := 1340) rfl rfl 3 rfl ?_
  refine l_iload_n h.1 (i := 3) dL_law_1340 (q := 1341) rfl rfl 0 rfl ?_
  refine l_iconst h.1 (v := 1) dL_law_1341 (q := 1342) rfl (by decide) ?_
  refine l_iadd h.1 dL_law_1342 (q := 1343) rfl ?_
  rw [show (nI i + 1 : Int32) = nI (i + 1) from nI_add i 1]
  refine l_sld h.1 (k := (i + 1)) h.2.2.2.2.1 h.2.2.2.2.2.1 h.2.2.2.2.2.2.1 (vp_in_nI (by omega) (by omega)) (nI_clamp (by omega)) dL_law_1343 (q := 1344) rfl ?_
  refine l_aload_n h.1 (i := 0) dL_law_1344 (q := 1345) rfl rfl 3 rfl ?_
  refine l_iload_n h.1 (i := 3) dL_law_1345 (q := 1346) rfl rfl 0 rfl ?_
  refine l_iconst h.1 (v := 2) dL_law_1346 (q := 1347) rfl (by decide) ?_
  refine l_iadd h.1 dL_law_1347 (q := 1348) rfl ?_
  rw [show (nI i + 2 : Int32) = nI (i + 2) from nI_add i 2]
  refine l_sld h.1 (k := (i + 2)) h.2.2.2.2.1 h.2.2.2.2.2.1 h.2.2.2.2.2.2.1 (vp_in_nI (by omega) (by omega)) (nI_clamp (by omega)) dL_law_1348 (q := 1349) rfl ?_
  refine l_aload_n h.1 (i := 0) dL_law_1349 (q := 1350) rfl rfl 3 rfl ?_
  refine l_iload_n h.1 (i := 3) dL_law_1350 (q := 1351) rfl rfl 0 rfl ?_
  refine l_iconst h.1 (v := 3) dL_law_1351 (q := 1352) rfl (by decide) ?_
  refine l_iadd h.1 dL_law_1352 (q := 1353) rfl ?_
  rw [show (nI i + 3 : Int32) = nI (i + 3) from nI_add i 3]
  refine l_sld h.1 (k := (i + 3)) h.2.2.2.2.1 h.2.2.2.2.2.1 h.2.2.2.2.2.2.1 (vp_in_nI (by omega) (by omega)) (nI_clamp (by omega)) dL_law_1353 (q := 1354) rfl ?_
  refine l_aload_n h.1 (i := 0) dL_law_1354 (q := 1355) rfl rfl 3 rfl ?_
  refine l_iload_n h.1 (i := 3) dL_law_1355 (q := 1356) rfl rfl 0 rfl ?_
  refine l_iconst h.1 (v := 4) dL_law_1356 (q := 1357) rfl (by decide) ?_
  refine l_iadd h.1 dL_law_1357 (q := 1358) rfl ?_
  rw [show (nI i + 4 : Int32) = nI (i + 4) from nI_add i 4]
  refine l_sld h.1 (k := (i + 4)) h.2.2.2.2.1 h.2.2.2.2.2.1 h.2.2.2.2.2.2.1 (vp_in_nI (by omega) (by omega)) (nI_clamp (by omega)) dL_law_1358 (q := 1359) rfl ?_
  refine l_aload_n h.1 (i := 0) dL_law_1359 (q := 1360) rfl rfl 3 rfl ?_
  refine l_iload_n h.1 (i := 3) dL_law_1360 (q := 1361) rfl rfl 0 rfl ?_
  refine l_iconst h.1 (v := 5) dL_law_1361 (q := 1362) rfl (by decide) ?_
  refine l_iadd h.1 dL_law_1362 (q := 1363) rfl ?_
  rw [show (nI i + 5 : Int32) = nI (i + 5) from nI_add i 5]
  refine l_sld h.1 (k := (i + 5)) h.2.2.2.2.1 h.2.2.2.2.2.1 h.2.2.2.2.2.2.1 (vp_in_nI (by omega) (by omega)) (nI_clamp (by omega)) dL_law_1363 (q := 1364) rfl ?_
  refine VL.swap ?_
  refine l_call h.1 h.2.2.1 (fun q z1 z2 => h.2.2.2.1 q z2 z1) h.2.2.2.2.2.2.2.1 (As := [.int (xs (i + 1)), .int (xs (i + 2)), .int (xs (i + 3)), .int (xs (i + 4)), .int (xs (i + 5))]) (rest := [.int _]) (c_X10_move (w := u2) (σ := τ) hm hQ) cal_X10_move calV_X10_move m1308 ⟨rfl, rfl, Nat.le_of_ble_eq_true rfl, Nat.le_of_ble_eq_true rfl⟩ rfl hm.1.1 hm.1.2 ⟨_, _, rfl⟩ rfl (Nat.le_of_ble_eq_true rfl) dL_law_1364 (q := 1367) rfl (kLM (fun τ1 g2 => ?_))
  exact l_icmp_eq h.1 (t := 1556) dL_law_1367 (by decide) (q := 1370) rfl (fun _ => kk σ1 τ1 _ g1 g2) (fun z => absurd rfl z)
set_option maxHeartbeats 4000000 in
theorem law_33 {x : bX} {u1 u2 : bw} {D : va_G} {kd : Nat → ClassId} {ad : bAd} {B L b : Nat} {xs : Nat → Int32} {C S : Nat} {Q : State → Prop} {σ τ : bSt} {A : bA} {i : Nat} (h : CL x u1 u2 D kd ad B L b xs C S) (hs : sOpera u1) (hm : sModel u2) (hR : RC σ A) (hQ : RQ τ A) (hi : i + 6 ≤ L) (kk : ∀ (σ' τ' : bSt) (A' : bA), RC σ' A' → RQ τ' A' → VL x u1 u2 B C S Q 1556 [(3, .int (nI i)), (2, .ref (b_ad u2 0)), (1, .ref (b_ad u1 0)), (0, .ref b)] [] σ' τ') : VL x u1 u2 B C S Q 1372 [(3, .int (nI i)), (2, .ref (b_ad u2 0)), (1, .ref (b_ad u1 0)), (0, .ref b)] [] σ τ := by
  have hL := h.2.2.2.2.2.2.2.2
  refine l_aload_n h.1 (i := 1) dL_law_1372 (q := 1373) rfl rfl 2 rfl ?_
  refine l_aload_n h.1 (i := 0) dL_law_1373 (q := 1374) rfl rfl 3 rfl ?_
  refine l_iload_n h.1 (i := 3) dL_law_1374 (q := 1375) rfl rfl 0 rfl ?_
  refine l_iconst h.1 (v := 1) dL_law_1375 (q := 1376) rfl (by decide) ?_
  refine l_iadd h.1 dL_law_1376 (q := 1377) rfl ?_
  rw [show (nI i + 1 : Int32) = nI (i + 1) from nI_add i 1]
  refine l_sld h.1 (k := (i + 1)) h.2.2.2.2.1 h.2.2.2.2.2.1 h.2.2.2.2.2.2.1 (vp_in_nI (by omega) (by omega)) (nI_clamp (by omega)) dL_law_1377 (q := 1378) rfl ?_
  refine l_aload_n h.1 (i := 0) dL_law_1378 (q := 1379) rfl rfl 3 rfl ?_
  refine l_iload_n h.1 (i := 3) dL_law_1379 (q := 1380) rfl rfl 0 rfl ?_
  refine l_iconst h.1 (v := 2) dL_law_1380 (q := 1381) rfl (by decide) ?_
  refine l_iadd h.1 dL_law_1381 (q := 1382) rfl ?_
  rw [show (nI i + 2 : Int32) = nI (i + 2) from nI_add i 2]
  refine l_sld h.1 (k := (i + 2)) h.2.2.2.2.1 h.2.2.2.2.2.1 h.2.2.2.2.2.2.1 (vp_in_nI (by omega) (by omega)) (nI_clamp (by omega)) dL_law_1382 (q := 1383) rfl ?_
  refine l_call h.1 h.2.1 h.2.2.2.1 h.2.2.2.2.2.2.2.1 (As := [.int (xs (i + 1)), .int (xs (i + 2))]) (rest := []) (c_X9_part (w := u1) (σ := σ) hs hR) cal_X9_part calV_X9_part m782 ⟨rfl, rfl, Nat.le_of_ble_eq_true rfl, Nat.le_of_ble_eq_true rfl⟩ rfl hs.1.1 hs.1.2 ⟨_, _, rfl⟩ rfl (Nat.le_of_ble_eq_true rfl) dL_law_1383 (q := 1386) rfl (kLA (fun σ1 g1 => ?_))
  refine l_aload_n h.1 (i := 2) dL_law_1386 (q := 1387) rfl rfl 1 rfl ?_
  refine l_aload_n h.1 (i := 0) dL_law_1387 (q := 1388) rfl rfl 3 rfl ?_
  refine l_iload_n h.1 (i := 3) dL_law_1388 (q := 1389) rfl rfl 0 rfl ?_
  refine l_iconst h.1 (v := 1) dL_law_1389 (q := 1390) rfl (by decide) ?_
  refine l_iadd h.1 dL_law_1390 (q := 1391) rfl ?_
  rw [show (nI i + 1 : Int32) = nI (i + 1) from nI_add i 1]
  refine l_sld h.1 (k := (i + 1)) h.2.2.2.2.1 h.2.2.2.2.2.1 h.2.2.2.2.2.2.1 (vp_in_nI (by omega) (by omega)) (nI_clamp (by omega)) dL_law_1391 (q := 1392) rfl ?_
  refine l_aload_n h.1 (i := 0) dL_law_1392 (q := 1393) rfl rfl 3 rfl ?_
  refine l_iload_n h.1 (i := 3) dL_law_1393 (q := 1394) rfl rfl 0 rfl ?_
  refine l_iconst h.1 (v := 2) dL_law_1394 (q := 1395) rfl (by decide) ?_
  refine l_iadd h.1 dL_law_1395 (q := 1396) rfl ?_
  rw [show (nI i + 2 : Int32) = nI (i + 2) from nI_add i 2]
  refine l_sld h.1 (k := (i + 2)) h.2.2.2.2.1 h.2.2.2.2.2.1 h.2.2.2.2.2.2.1 (vp_in_nI (by omega) (by omega)) (nI_clamp (by omega)) dL_law_1396 (q := 1397) rfl ?_
  refine VL.swap ?_
  refine l_call h.1 h.2.2.1 (fun q z1 z2 => h.2.2.2.1 q z2 z1) h.2.2.2.2.2.2.2.1 (As := [.int (xs (i + 1)), .int (xs (i + 2))]) (rest := [.int _]) (c_X10_part (w := u2) (σ := τ) hm hQ) cal_X10_part calV_X10_part m1312 ⟨rfl, rfl, Nat.le_of_ble_eq_true rfl, Nat.le_of_ble_eq_true rfl⟩ rfl hm.1.1 hm.1.2 ⟨_, _, rfl⟩ rfl (Nat.le_of_ble_eq_true rfl) dL_law_1397 (q := 1400) rfl (kLM (fun τ1 g2 => ?_))
  exact l_icmp_eq h.1 (t := 1556) dL_law_1400 (by decide) (q := 1403) rfl (fun _ => kk σ1 τ1 _ g1 g2) (fun z => absurd rfl z)
set_option maxHeartbeats 4000000 in
theorem law_34 {x : bX} {u1 u2 : bw} {D : va_G} {kd : Nat → ClassId} {ad : bAd} {B L b : Nat} {xs : Nat → Int32} {C S : Nat} {Q : State → Prop} {σ τ : bSt} {A : bA} {i : Nat} (h : CL x u1 u2 D kd ad B L b xs C S) (hs : sOpera u1) (hm : sModel u2) (hR : RC σ A) (hQ : RQ τ A) (hi : i + 6 ≤ L) (kk : ∀ (σ' τ' : bSt) (A' : bA), RC σ' A' → RQ τ' A' → VL x u1 u2 B C S Q 1556 [(3, .int (nI i)), (2, .ref (b_ad u2 0)), (1, .ref (b_ad u1 0)), (0, .ref b)] [] σ' τ') : VL x u1 u2 B C S Q 1405 [(3, .int (nI i)), (2, .ref (b_ad u2 0)), (1, .ref (b_ad u1 0)), (0, .ref b)] [] σ τ := by
  have hL := h.2.2.2.2.2.2.2.2
  refine l_aload_n h.1 (i := 1) dL_law_1405 (q := 1406) rfl rfl 2 rfl ?_
  refine l_aload_n h.1 (i := 0) dL_law_1406 (q := 1407) rfl rfl 3 rfl ?_
  refine l_iload_n h.1 (i := 3) dL_law_1407 (q := 1408) rfl rfl 0 rfl ?_
  refine l_iconst h.1 (v := 1) dL_law_1408 (q := 1409) rfl (by decide) ?_
  refine l_iadd h.1 dL_law_1409 (q := 1410) rfl ?_
  rw [show (nI i + 1 : Int32) = nI (i + 1) from nI_add i 1]
  refine l_sld h.1 (k := (i + 1)) h.2.2.2.2.1 h.2.2.2.2.2.1 h.2.2.2.2.2.2.1 (vp_in_nI (by omega) (by omega)) (nI_clamp (by omega)) dL_law_1410 (q := 1411) rfl ?_
  refine l_aload_n h.1 (i := 0) dL_law_1411 (q := 1412) rfl rfl 3 rfl ?_
  refine l_iload_n h.1 (i := 3) dL_law_1412 (q := 1413) rfl rfl 0 rfl ?_
  refine l_iconst h.1 (v := 2) dL_law_1413 (q := 1414) rfl (by decide) ?_
  refine l_iadd h.1 dL_law_1414 (q := 1415) rfl ?_
  rw [show (nI i + 2 : Int32) = nI (i + 2) from nI_add i 2]
  refine l_sld h.1 (k := (i + 2)) h.2.2.2.2.1 h.2.2.2.2.2.1 h.2.2.2.2.2.2.1 (vp_in_nI (by omega) (by omega)) (nI_clamp (by omega)) dL_law_1415 (q := 1416) rfl ?_
  refine l_call h.1 h.2.1 h.2.2.2.1 h.2.2.2.2.2.2.2.1 (As := [.int (xs (i + 1)), .int (xs (i + 2))]) (rest := []) (c_X9_judge (w := u1) (σ := σ) hs hR) cal_X9_judge calV_X9_judge m792 ⟨rfl, rfl, Nat.le_of_ble_eq_true rfl, Nat.le_of_ble_eq_true rfl⟩ rfl hs.1.1 hs.1.2 ⟨_, _, rfl⟩ rfl (Nat.le_of_ble_eq_true rfl) dL_law_1416 (q := 1419) rfl (kLA (fun σ1 g1 => ?_))
  refine l_aload_n h.1 (i := 2) dL_law_1419 (q := 1420) rfl rfl 1 rfl ?_
  refine l_aload_n h.1 (i := 0) dL_law_1420 (q := 1421) rfl rfl 3 rfl ?_
  refine l_iload_n h.1 (i := 3) dL_law_1421 (q := 1422) rfl rfl 0 rfl ?_
  refine l_iconst h.1 (v := 1) dL_law_1422 (q := 1423) rfl (by decide) ?_
  refine l_iadd h.1 dL_law_1423 (q := 1424) rfl ?_
  rw [show (nI i + 1 : Int32) = nI (i + 1) from nI_add i 1]
  refine l_sld h.1 (k := (i + 1)) h.2.2.2.2.1 h.2.2.2.2.2.1 h.2.2.2.2.2.2.1 (vp_in_nI (by omega) (by omega)) (nI_clamp (by omega)) dL_law_1424 (q := 1425) rfl ?_
  refine l_aload_n h.1 (i := 0) dL_law_1425 (q := 1426) rfl rfl 3 rfl ?_
  refine l_iload_n h.1 (i := 3) dL_law_1426 (q := 1427) rfl rfl 0 rfl ?_
  refine l_iconst h.1 (v := 2) dL_law_1427 (q := 1428) rfl (by decide) ?_
  refine l_iadd h.1 dL_law_1428 (q := 1429) rfl ?_
  rw [show (nI i + 2 : Int32) = nI (i + 2) from nI_add i 2]
  refine l_sld h.1 (k := (i + 2)) h.2.2.2.2.1 h.2.2.2.2.2.1 h.2.2.2.2.2.2.1 (vp_in_nI (by omega) (by omega)) (nI_clamp (by omega)) dL_law_1429 (q := 1430) rfl ?_
  refine VL.swap ?_
  refine l_call h.1 h.2.2.1 (fun q z1 z2 => h.2.2.2.1 q z2 z1) h.2.2.2.2.2.2.2.1 (As := [.int (xs (i + 1)), .int (xs (i + 2))]) (rest := [.int _]) (c_X10_judge (w := u2) (σ := τ) hm hQ) cal_X10_judge calV_X10_judge m1320 ⟨rfl, rfl, Nat.le_of_ble_eq_true rfl, Nat.le_of_ble_eq_true rfl⟩ rfl hm.1.1 hm.1.2 ⟨_, _, rfl⟩ rfl (Nat.le_of_ble_eq_true rfl) dL_law_1430 (q := 1433) rfl (kLM (fun τ1 g2 => ?_))
  exact l_icmp_eq h.1 (t := 1556) dL_law_1433 (by decide) (q := 1436) rfl (fun _ => kk σ1 τ1 _ g1 g2) (fun z => absurd rfl z)
set_option maxHeartbeats 4000000 in
theorem law_35 {x : bX} {u1 u2 : bw} {D : va_G} {kd : Nat → ClassId} {ad : bAd} {B L b : Nat} {xs : Nat → Int32} {C S : Nat} {Q : State → Prop} {σ τ : bSt} {A : bA} {i : Nat} (h : CL x u1 u2 D kd ad B L b xs C S) (hs : sOpera u1) (hm : sModel u2) (hR : RC σ A) (hQ : RQ τ A) (hi : i + 6 ≤ L) (kk : ∀ (σ' τ' : bSt) (A' : bA), RC σ' A' → RQ τ' A' → VL x u1 u2 B C S Q 1556 [(3, .int (nI i)), (2, .ref (b_ad u2 0)), (1, .ref (b_ad u1 0)), (0, .ref b)] [] σ' τ') : VL x u1 u2 B C S Q 1438 [(3, .int (nI i)), (2, .ref (b_ad u2 0)), (1, .ref (b_ad u1 0)), (0, .ref b)] [] σ τ := by
  have hL := h.2.2.2.2.2.2.2.2
  refine l_aload_n h.1 (i := 1) dL_law_1438 (q := 1439) rfl rfl 2 rfl ?_
  refine l_call h.1 h.2.1 h.2.2.2.1 h.2.2.2.2.2.2.2.1 (As := []) (rest := []) (c_X9_image (w := u1) (σ := σ) hs hR) cal_X9_image calV_X9_image m796 ⟨rfl, rfl, Nat.le_of_ble_eq_true rfl, Nat.le_of_ble_eq_true rfl⟩ rfl hs.1.1 hs.1.2 ⟨_, _, rfl⟩ rfl (Nat.le_of_ble_eq_true rfl) dL_law_1439 (q := 1442) rfl (kLA (fun σ1 g1 => ?_))
  refine l_aload_n h.1 (i := 2) dL_law_1442 (q := 1443) rfl rfl 1 rfl ?_
  refine VL.swap ?_
  refine l_call h.1 h.2.2.1 (fun q z1 z2 => h.2.2.2.1 q z2 z1) h.2.2.2.2.2.2.2.1 (As := []) (rest := [.int _]) (c_X10_image (w := u2) (σ := τ) hm hQ) cal_X10_image calV_X10_image m1324 ⟨rfl, rfl, Nat.le_of_ble_eq_true rfl, Nat.le_of_ble_eq_true rfl⟩ rfl hm.1.1 hm.1.2 ⟨_, _, rfl⟩ rfl (Nat.le_of_ble_eq_true rfl) dL_law_1443 (q := 1446) rfl (kLM (fun τ1 g2 => ?_))
  exact l_icmp_eq h.1 (t := 1556) dL_law_1446 (by decide) (q := 1449) rfl (fun _ => kk σ1 τ1 _ g1 g2) (fun z => absurd rfl z)
set_option maxHeartbeats 4000000 in
theorem law_36 {x : bX} {u1 u2 : bw} {D : va_G} {kd : Nat → ClassId} {ad : bAd} {B L b : Nat} {xs : Nat → Int32} {C S : Nat} {Q : State → Prop} {σ τ : bSt} {A : bA} {i : Nat} (h : CL x u1 u2 D kd ad B L b xs C S) (hs : sOpera u1) (hm : sModel u2) (hR : RC σ A) (hQ : RQ τ A) (hi : i + 6 ≤ L) (kk : ∀ (σ' τ' : bSt) (A' : bA), RC σ' A' → RQ τ' A' → VL x u1 u2 B C S Q 1556 [(3, .int (nI i)), (2, .ref (b_ad u2 0)), (1, .ref (b_ad u1 0)), (0, .ref b)] [] σ' τ') : VL x u1 u2 B C S Q 1451 [(3, .int (nI i)), (2, .ref (b_ad u2 0)), (1, .ref (b_ad u1 0)), (0, .ref b)] [] σ τ := by
  have hL := h.2.2.2.2.2.2.2.2
  refine l_aload_n h.1 (i := 1) dL_law_1451 (q := 1452) rfl rfl 2 rfl ?_
  refine l_call h.1 h.2.1 h.2.2.2.1 h.2.2.2.2.2.2.2.1 (As := []) (rest := []) (c_X9_restore (w := u1) (σ := σ) hs hR) cal_X9_restore calV_X9_restore m810 ⟨rfl, rfl, Nat.le_of_ble_eq_true rfl, Nat.le_of_ble_eq_true rfl⟩ rfl hs.1.1 hs.1.2 ⟨_, _, rfl⟩ rfl (Nat.le_of_ble_eq_true rfl) dL_law_1452 (q := 1455) rfl (kLA (fun σ1 g1 => ?_))
  refine l_aload_n h.1 (i := 2) dL_law_1455 (q := 1456) rfl rfl 1 rfl ?_
  refine VL.swap ?_
  refine l_call h.1 h.2.2.1 (fun q z1 z2 => h.2.2.2.1 q z2 z1) h.2.2.2.2.2.2.2.1 (As := []) (rest := [.int _]) (c_X10_restore (w := u2) (σ := τ) hm hQ) cal_X10_restore calV_X10_restore m1328 ⟨rfl, rfl, Nat.le_of_ble_eq_true rfl, Nat.le_of_ble_eq_true rfl⟩ rfl hm.1.1 hm.1.2 ⟨_, _, rfl⟩ rfl (Nat.le_of_ble_eq_true rfl) dL_law_1456 (q := 1459) rfl (kLM (fun τ1 g2 => ?_))
  exact l_icmp_eq h.1 (t := 1556) dL_law_1459 (by decide) (q := 1462) rfl (fun _ => kk σ1 τ1 _ g1 g2) (fun z => absurd rfl z)
set_option maxHeartbeats 4000000 in
theorem law_37 {x : bX} {u1 u2 : bw} {D : va_G} {kd : Nat → ClassId} {ad : bAd} {B L b : Nat} {xs : Nat → Int32} {C S : Nat} {Q : State → Prop} {σ τ : bSt} {A : bA} {i : Nat} (h : CL x u1 u2 D kd ad B L b xs C S) (hs : sOpera u1) (hm : sModel u2) (hR : RC σ A) (hQ : RQ τ A) (hi : i + 6 ≤ L) (kk : ∀ (σ' τ' : bSt) (A' : bA), RC σ' A' → RQ τ' A' → VL x u1 u2 B C S Q 1556 [(3, .int (nI i)), (2, .ref (b_ad u2 0)), (1, .ref (b_ad u1 0)), (0, .ref b)] [] σ' τ') : VL x u1 u2 B C S Q 1464 [(3, .int (nI i)), (2, .ref (b_ad u2 0)), (1, .ref (b_ad u1 0)), (0, .ref b)] [] σ τ := by
  have hL := h.2.2.2.2.2.2.2.2
  refine l_aload_n h.1 (i := 1) dL_law_1464 (q := 1465) rfl rfl 2 rfl ?_
  refine l_aload_n h.1 (i := 0) dL_law_1465 (q := 1466) rfl rfl 3 rfl ?_
  refine l_iload_n h.1 (i := 3) dL_law_1466 (q := 1467) rfl rfl 0 rfl ?_
  refine l_iconst h.1 (v := 1) dL_law_1467 (q := 1468) rfl (by decide) ?_
  refine l_iadd h.1 dL_law_1468 (q := 1469) rfl ?_
  rw [show (nI i + 1 : Int32) = nI (i + 1) from nI_add i 1]
  refine l_sld h.1 (k := (i + 1)) h.2.2.2.2.1 h.2.2.2.2.2.1 h.2.2.2.2.2.2.1 (vp_in_nI (by omega) (by omega)) (nI_clamp (by omega)) dL_law_1469 (q := 1470) rfl ?_
  refine l_call h.1 h.2.1 h.2.2.2.1 h.2.2.2.2.2.2.2.1 (As := [.int (xs (i + 1))]) (rest := []) (c_X9_tell (w := u1) (σ := σ) hs hR) cal_X9_tell calV_X9_tell m814 ⟨rfl, rfl, Nat.le_of_ble_eq_true rfl, Nat.le_of_ble_eq_true rfl⟩ rfl hs.1.1 hs.1.2 ⟨_, _, rfl⟩ rfl (Nat.le_of_ble_eq_true rfl) dL_law_1470 (q := 1473) rfl (kLA (fun σ1 g1 => ?_))
  refine l_aload_n h.1 (i := 2) dL_law_1473 (q := 1474) rfl rfl 1 rfl ?_
  refine l_aload_n h.1 (i := 0) dL_law_1474 (q := 1475) rfl rfl 3 rfl ?_
  refine l_iload_n h.1 (i := 3) dL_law_1475 (q := 1476) rfl rfl 0 rfl ?_
  refine l_iconst h.1 (v := 1) dL_law_1476 (q := 1477) rfl (by decide) ?_
  refine l_iadd h.1 dL_law_1477 (q := 1478) rfl ?_
  rw [show (nI i + 1 : Int32) = nI (i + 1) from nI_add i 1]
  refine l_sld h.1 (k := (i + 1)) h.2.2.2.2.1 h.2.2.2.2.2.1 h.2.2.2.2.2.2.1 (vp_in_nI (by omega) (by omega)) (nI_clamp (by omega)) dL_law_1478 (q := 1479) rfl ?_
  refine VL.swap ?_
  refine l_call h.1 h.2.2.1 (fun q z1 z2 => h.2.2.2.1 q z2 z1) h.2.2.2.2.2.2.2.1 (As := [.int (xs (i + 1))]) (rest := [.int _]) (c_X10_tell (w := u2) (σ := τ) hm hQ) cal_X10_tell calV_X10_tell m1332 ⟨rfl, rfl, Nat.le_of_ble_eq_true rfl, Nat.le_of_ble_eq_true rfl⟩ rfl hm.1.1 hm.1.2 ⟨_, _, rfl⟩ rfl (Nat.le_of_ble_eq_true rfl) dL_law_1479 (q := 1482) rfl (kLM (fun τ1 g2 => ?_))
  exact l_icmp_eq h.1 (t := 1556) dL_law_1482 (by decide) (q := 1485) rfl (fun _ => kk σ1 τ1 _ g1 g2) (fun z => absurd rfl z)
set_option maxHeartbeats 4000000 in
theorem law_38 {x : bX} {u1 u2 : bw} {D : va_G} {kd : Nat → ClassId} {ad : bAd} {B L b : Nat} {xs : Nat → Int32} {C S : Nat} {Q : State → Prop} {σ τ : bSt} {A : bA} {i : Nat} (h : CL x u1 u2 D kd ad B L b xs C S) (hs : sOpera u1) (hm : sModel u2) (hR : RC σ A) (hQ : RQ τ A) (hi : i + 6 ≤ L) (kk : ∀ (σ' τ' : bSt) (A' : bA), RC σ' A' → RQ τ' A' → VL x u1 u2 B C S Q 1556 [(3, .int (nI i)), (2, .ref (b_ad u2 0)), (1, .ref (b_ad u1 0)), (0, .ref b)] [] σ' τ') : VL x u1 u2 B C S Q 1487 [(3, .int (nI i)), (2, .ref (b_ad u2 0)), (1, .ref (b_ad u1 0)), (0, .ref b)] [] σ τ := by
  have hL := h.2.2.2.2.2.2.2.2
  refine l_aload_n h.1 (i := 1) dL_law_1487 (q := 1488) rfl rfl 2 rfl ?_
  refine l_aload_n h.1 (i := 0) dL_law_1488 (q := 1489) rfl rfl 3 rfl ?_
  refine l_iload_n h.1 (i := 3) dL_law_1489 (q := 1490) rfl rfl 0 rfl ?_
  refine l_iconst h.1 (v := 1) dL_law_1490 (q := 1491) rfl (by decide) ?_
  refine l_iadd h.1 dL_law_1491 (q := 1492) rfl ?_
  rw [show (nI i + 1 : Int32) = nI (i + 1) from nI_add i 1]
  refine l_sld h.1 (k := (i + 1)) h.2.2.2.2.1 h.2.2.2.2.2.1 h.2.2.2.2.2.2.1 (vp_in_nI (by omega) (by omega)) (nI_clamp (by omega)) dL_law_1492 (q := 1493) rfl ?_
  refine l_call h.1 h.2.1 h.2.2.2.1 h.2.2.2.2.2.2.2.1 (As := [.int (xs (i + 1))]) (rest := []) (c_X9_check (w := u1) (σ := σ) hs hR) cal_X9_check calV_X9_check m822 ⟨rfl, rfl, Nat.le_of_ble_eq_true rfl, Nat.le_of_ble_eq_true rfl⟩ rfl hs.1.1 hs.1.2 ⟨_, _, rfl⟩ rfl (Nat.le_of_ble_eq_true rfl) dL_law_1493 (q := 1496) rfl (kLA (fun σ1 g1 => ?_))
  refine l_aload_n h.1 (i := 2) dL_law_1496 (q := 1497) rfl rfl 1 rfl ?_
  refine l_aload_n h.1 (i := 0) dL_law_1497 (q := 1498) rfl rfl 3 rfl ?_
  refine l_iload_n h.1 (i := 3) dL_law_1498 (q := 1499) rfl rfl 0 rfl ?_
  refine l_iconst h.1 (v := 1) dL_law_1499 (q := 1500) rfl (by decide) ?_
  refine l_iadd h.1 dL_law_1500 (q := 1501) rfl ?_
  rw [show (nI i + 1 : Int32) = nI (i + 1) from nI_add i 1]
  refine l_sld h.1 (k := (i + 1)) h.2.2.2.2.1 h.2.2.2.2.2.1 h.2.2.2.2.2.2.1 (vp_in_nI (by omega) (by omega)) (nI_clamp (by omega)) dL_law_1501 (q := 1502) rfl ?_
  refine VL.swap ?_
  refine l_call h.1 h.2.2.1 (fun q z1 z2 => h.2.2.2.1 q z2 z1) h.2.2.2.2.2.2.2.1 (As := [.int (xs (i + 1))]) (rest := [.int _]) (c_X10_check (w := u2) (σ := τ) hm hQ) cal_X10_check calV_X10_check m1336 ⟨rfl, rfl, Nat.le_of_ble_eq_true rfl, Nat.le_of_ble_eq_true rfl⟩ rfl hm.1.1 hm.1.2 ⟨_, _, rfl⟩ rfl (Nat.le_of_ble_eq_true rfl) dL_law_1502 (q := 1505) rfl (kLM (fun τ1 g2 => ?_))
  exact l_icmp_eq h.1 (t := 1556) dL_law_1505 (by decide) (q := 1508) rfl (fun _ => kk σ1 τ1 _ g1 g2) (fun z => absurd rfl z)
set_option maxHeartbeats 4000000 in
theorem law_39 {x : bX} {u1 u2 : bw} {D : va_G} {kd : Nat → ClassId} {ad : bAd} {B L b : Nat} {xs : Nat → Int32} {C S : Nat} {Q : State → Prop} {σ τ : bSt} {A : bA} {i : Nat} (h : CL x u1 u2 D kd ad B L b xs C S) (hs : sOpera u1) (hm : sModel u2) (hR : RC σ A) (hQ : RQ τ A) (hi : i + 6 ≤ L) (kk : ∀ (σ' τ' : bSt) (A' : bA), RC σ' A' → RQ τ' A' → VL x u1 u2 B C S Q 1556 [(3, .int (nI i)), (2, .ref (b_ad u2 0)), (1, .ref (b_ad u1 0)), (0, .ref b)] [] σ' τ') : VL x u1 u2 B C S Q 1510 [(3, .int (nI i)), (2, .ref (b_ad u2 0)), (1, .ref (b_ad u1 0)), (0, .ref b)] [] σ τ := by
  have hL := h.2.2.2.2.2.2.2.2
  refine l_aload_n h.1 (i := 1) dL_law_1510 (q := 1511) rfl rfl 2 rfl ?_
  refine l_aload_n h.1 (i := 0) dL_law_1511 (q := 1512) rfl rfl 3 rfl ?_
  refine l_iload_n h.1 (i := 3) dL_law_1512 (q := 1513) rfl rfl 0 rfl ?_
  refine l_iconst h.1 (v := 1) dL_law_1513 (q := 1514) rfl (by decide) ?_
  refine l_iadd h.1 dL_law_1514 (q := 1515) rfl ?_
  rw [show (nI i + 1 : Int32) = nI (i + 1) from nI_add i 1]
  refine l_sld h.1 (k := (i + 1)) h.2.2.2.2.1 h.2.2.2.2.2.1 h.2.2.2.2.2.2.1 (vp_in_nI (by omega) (by omega)) (nI_clamp (by omega)) dL_law_1515 (q := 1516) rfl ?_
  refine l_call h.1 h.2.1 h.2.2.2.1 h.2.2.2.2.2.2.2.1 (As := [.int (xs (i + 1))]) (rest := []) (c_X9_count (w := u1) (σ := σ) hs hR) cal_X9_count calV_X9_count m826 ⟨rfl, rfl, Nat.le_of_ble_eq_true rfl, Nat.le_of_ble_eq_true rfl⟩ rfl hs.1.1 hs.1.2 ⟨_, _, rfl⟩ rfl (Nat.le_of_ble_eq_true rfl) dL_law_1516 (q := 1519) rfl (kLA (fun σ1 g1 => ?_))
  refine l_aload_n h.1 (i := 2) dL_law_1519 (q := 1520) rfl rfl 1 rfl ?_
  refine l_aload_n h.1 (i := 0) dL_law_1520 (q := 1521) rfl rfl 3 rfl ?_
  refine l_iload_n h.1 (i := 3) dL_law_1521 (q := 1522) rfl rfl 0 rfl ?_
  refine l_iconst h.1 (v := 1) dL_law_1522 (q := 1523) rfl (by decide) ?_
  refine l_iadd h.1 dL_law_1523 (q := 1524) rfl ?_
  rw [show (nI i + 1 : Int32) = nI (i + 1) from nI_add i 1]
  refine l_sld h.1 (k := (i + 1)) h.2.2.2.2.1 h.2.2.2.2.2.1 h.2.2.2.2.2.2.1 (vp_in_nI (by omega) (by omega)) (nI_clamp (by omega)) dL_law_1524 (q := 1525) rfl ?_
  refine VL.swap ?_
  refine l_call h.1 h.2.2.1 (fun q z1 z2 => h.2.2.2.1 q z2 z1) h.2.2.2.2.2.2.2.1 (As := [.int (xs (i + 1))]) (rest := [.int _]) (c_X10_count (w := u2) (σ := τ) hm hQ) cal_X10_count calV_X10_count m1340 ⟨rfl, rfl, Nat.le_of_ble_eq_true rfl, Nat.le_of_ble_eq_true rfl⟩ rfl hm.1.1 hm.1.2 ⟨_, _, rfl⟩ rfl (Nat.le_of_ble_eq_true rfl) dL_law_1525 (q := 1528) rfl (kLM (fun τ1 g2 => ?_))
  exact l_icmp_eq h.1 (t := 1556) dL_law_1528 (by decide) (q := 1531) rfl (fun _ => kk σ1 τ1 _ g1 g2) (fun z => absurd rfl z)
set_option maxHeartbeats 4000000 in
theorem law_40 {x : bX} {u1 u2 : bw} {D : va_G} {kd : Nat → ClassId} {ad : bAd} {B L b : Nat} {xs : Nat → Int32} {C S : Nat} {Q : State → Prop} {σ τ : bSt} {A : bA} {i : Nat} (h : CL x u1 u2 D kd ad B L b xs C S) (hs : sOpera u1) (hm : sModel u2) (hR : RC σ A) (hQ : RQ τ A) (hi : i + 6 ≤ L) (kk : ∀ (σ' τ' : bSt) (A' : bA), RC σ' A' → RQ τ' A' → VL x u1 u2 B C S Q 1556 [(3, .int (nI i)), (2, .ref (b_ad u2 0)), (1, .ref (b_ad u1 0)), (0, .ref b)] [] σ' τ') : VL x u1 u2 B C S Q 1533 [(3, .int (nI i)), (2, .ref (b_ad u2 0)), (1, .ref (b_ad u1 0)), (0, .ref b)] [] σ τ := by
  have hL := h.2.2.2.2.2.2.2.2
  refine l_aload_n h.1 (i := 1) dL_law_1533 (q := 1534) rfl rfl 2 rfl ?_
  refine l_aload_n h.1 (i := 0) dL_law_1534 (q := 1535) rfl rfl 3 rfl ?_
  refine l_iload_n h.1 (i := 3) dL_law_1535 (q := 1536) rfl rfl 0 rfl ?_
  refine l_iconst h.1 (v := 1) dL_law_1536 (q := 1537) rfl (by decide) ?_
  refine l_iadd h.1 dL_law_1537 (q := 1538) rfl ?_
  rw [show (nI i + 1 : Int32) = nI (i + 1) from nI_add i 1]
  refine l_sld h.1 (k := (i + 1)) h.2.2.2.2.1 h.2.2.2.2.2.1 h.2.2.2.2.2.2.1 (vp_in_nI (by omega) (by omega)) (nI_clamp (by omega)) dL_law_1538 (q := 1539) rfl ?_
  refine l_call h.1 h.2.1 h.2.2.2.1 h.2.2.2.2.2.2.2.1 (As := [.int (xs (i + 1))]) (rest := []) (c_X9_told (w := u1) (σ := σ) hs hR) cal_X9_told calV_X9_told m835 ⟨rfl, rfl, Nat.le_of_ble_eq_true rfl, Nat.le_of_ble_eq_true rfl⟩ rfl hs.1.1 hs.1.2 ⟨_, _, rfl⟩ rfl (Nat.le_of_ble_eq_true rfl) dL_law_1539 (q := 1542) rfl (kLA (fun σ1 g1 => ?_))
  refine l_aload_n h.1 (i := 2) dL_law_1542 (q := 1543) rfl rfl 1 rfl ?_
  refine l_aload_n h.1 (i := 0) dL_law_1543 (q := 1544) rfl rfl 3 rfl ?_
  refine l_iload_n h.1 (i := 3) dL_law_1544 (q := 1545) rfl rfl 0 rfl ?_
  refine l_iconst h.1 (v := 1) dL_law_1545 (q := 1546) rfl (by decide) ?_
  refine l_iadd h.1 dL_law_1546 (q := 1547) rfl ?_
  rw [show (nI i + 1 : Int32) = nI (i + 1) from nI_add i 1]
  refine l_sld h.1 (k := (i + 1)) h.2.2.2.2.1 h.2.2.2.2.2.1 h.2.2.2.2.2.2.1 (vp_in_nI (by omega) (by omega)) (nI_clamp (by omega)) dL_law_1547 (q := 1548) rfl ?_
  refine VL.swap ?_
  refine l_call h.1 h.2.2.1 (fun q z1 z2 => h.2.2.2.1 q z2 z1) h.2.2.2.2.2.2.2.1 (As := [.int (xs (i + 1))]) (rest := [.int _]) (c_X10_told (w := u2) (σ := τ) hm hQ) cal_X10_told calV_X10_told m1344 ⟨rfl, rfl, Nat.le_of_ble_eq_true rfl, Nat.le_of_ble_eq_true rfl⟩ rfl hm.1.1 hm.1.2 ⟨_, _, rfl⟩ rfl (Nat.le_of_ble_eq_true rfl) dL_law_1548 (q := 1551) rfl (kLM (fun τ1 g2 => ?_))
  exact l_icmp_eq h.1 (t := 1556) dL_law_1551 (by decide) (q := 1554) rfl (fun _ => kk σ1 τ1 _ g1 g2) (fun z => absurd rfl z)
