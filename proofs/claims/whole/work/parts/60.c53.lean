/-! cells made one after another: their places by their numbers, what they hold -/
abbrev bC : Type := Nat → va_E
abbrev bAd : Type := Nat → Nat
def xP {α : Type} (f : Nat → α) (n : Nat) (v : α) : Nat → α := fun i => if i = n then v else f i
theorem xP_s {α : Type} {f : Nat → α} {n : Nat} {v : α} : xP f n v n = v := if_pos rfl
theorem xP_n {α : Type} {f : Nat → α} {n i : Nat} {v : α} (h : i ≠ n) : xP f n v i = f i := if_neg h
def nW (n : Nat) (a : bAd) (c : bC) : va_W := (List.range n).map (fun i => (a i, c i))
section NW
variable {n i : Nat} {a a' : bAd} {c c' : bC}
theorem nW_get (h : i < n) : (nW n a c)[i]? = some (a i, c i) := by
  unfold nW
  rw [List.getElem?_map, List.getElem?_range h]
  rfl
theorem nW_len : (nW n a c).length = n := by simp [nW]
theorem nW_inv {q : Nat × va_E} (h : (nW n a c)[i]? = some q) : i < n ∧ q = (a i, c i) := by
  have hi : i < n := by
    have := (List.getElem?_eq_some_iff.mp h).1
    rwa [nW_len] at this
  exact ⟨hi, Option.some.inj (h.symm.trans (nW_get hi))⟩
theorem nW_push {q : Nat} {e : va_E} : nW n a c ++ [(q, e)] = nW (n + 1) (xP a n q) (xP c n e) := by
  unfold nW
  rw [List.range_succ, List.map_append]
  congr 1
  · apply List.map_congr_left
    intro k hk
    have := List.mem_range.mp hk
    rw [xP_n (by omega), xP_n (by omega)]
  · show [(q, e)] = [(xP a n q n, xP c n e n)]
    rw [xP_s, xP_s]
theorem nW_set {e : va_E} (h : i < n) : (nW n a c).set i (a i, e) = nW n a (xP c i e) := by
  apply List.ext_getElem?
  intro k
  by_cases hk : k < n
  · rw [nW_get hk]
    by_cases z : k = i
    · subst z
      rw [List.getElem?_set_self (by rw [nW_len]; exact hk), xP_s]
    · rw [List.getElem?_set_ne (Ne.symm z), nW_get hk, xP_n z]
  · rw [List.getElem?_eq_none (by rw [List.length_set, nW_len]; omega), List.getElem?_eq_none (by rw [nW_len]; omega)]
end NW
def nA (B : Nat) : Nat → Prop := fun q => B ≤ q
/-- the statics and the texts, their places by numbers -/
def sA (ad : bAd) (A : Nat → Prop) (U : State) : Prop :=
  va_Z "LagoonOpera" "KIND_ABOVE" "[I" (.ref (ad 1000)) A U U.heap ∧ va_T .int (ad 1000) 7 (fun j => .int (b_tKA j)) A U U.heap ∧
  va_Z "LagoonOpera$Voices" "BODIES" "[I" (.ref (ad 1001)) A U U.heap ∧ va_T .int (ad 1001) 28 (fun j => .int (b_tBO j)) A U U.heap ∧
  va_Z "LagoonOpera$Reader" "NAMES" "[C" (.ref (ad 1002)) A U U.heap ∧ va_T .char (ad 1002) 6 (fun j => .int (b_tNA j)) A U U.heap ∧
  va_Z "java/lang/String" "COMPACT_STRINGS" "Z" (.int 1) A U U.heap ∧ va_Zq "jdk/internal/util/Preconditions" "SIOOBE_FORMATTER" "Ljava/util/function/BiFunction;" A U U.heap ∧
  vk_S 2 [3, 3] [[100, 115, 116], [110, 105, 116]] (fun i => ad (1010 + i)) (fun i => ad (1020 + i)) A U U.heap
theorem sA_mv {ad : bAd} {A : Nat → Prop} {s U : State} (hvm : s.vm.Alike U.vm) (hq : ∀ a : Nat, a < s.heap.size → ¬ A a → U.heap[a]? = s.heap[a]?) (h : sA ad A s) : sA ad A U := by
  obtain ⟨h1, h2, h3, h4, h5, h6, h7, h8, h9⟩ := h
  exact ⟨(h1.kept hq).moved hvm, (h2.kept hq).moved hvm, (h3.kept hq).moved hvm, (h4.kept hq).moved hvm, (h5.kept hq).moved hvm, (h6.kept hq).moved hvm, (h7.kept hq).moved hvm, (h8.kept hq).moved hvm, (h9.kept hq).moved hvm⟩
theorem sA_nw {ad : bAd} {A A' : Nat → Prop} {U : State} (hA : ∀ q, A' q → A q) (h : sA ad A U) : sA ad A' U := by
  obtain ⟨h1, h2, h3, h4, h5, h6, h7, h8, h9⟩ := h
  exact ⟨h1.narrow hA, h2.narrow hA, h3.narrow hA, h4.narrow hA, h5.narrow hA, h6.narrow hA, h7.narrow hA, h8.narrow hA, h9.narrow hA⟩
/-- what all the while holds where cells are made -/
def bKN (D : va_G) (kd : Nat → ClassId) (ad : bAd) (B : Nat) (U : State) : Prop := va_K D vwCl [(kd 0, .int), (kd 1, .object "LagoonOpera$Sheet"), (kd 2, .array .int), (kd 3, .object "java/lang/String")] U ∧ (∀ q ∈ bNl, va_Nw q U) ∧ sA ad (nA B) U ∧ va_AO "LagoonOpera$Sheet" U ∧ va_AO "java/lang/String" U ∧ bRR (kd 0) (kd 2) U ∧ vk_R "LagoonOperaModel" 27 "dst" (ad 1010) U ∧ vk_R "LagoonOperaModel" 29 "nit" (ad 1011) U
theorem bKN.mv {D : va_G} {kd : Nat → ClassId} {ad : bAd} {B : Nat} {s U : State} (hW : s.WarmedH U.vm) (hq : ∀ a : Nat, a < s.heap.size → ¬ nA B a → U.heap[a]? = s.heap[a]?) (h : bKN D kd ad B s) : bKN D kd ad B U := by
  obtain ⟨h1, h2, h3, h4, h5, h6, h7, h8⟩ := h
  exact ⟨va_K.moved hW.alike h1, fun q hq => b_nest_mv hW (List.mem_filter.mp hq).2 (h2 q hq), sA_mv hW.alike hq h3, va_AO.moved hW.alike h4, va_AO.moved hW.alike h5, h6.moved hW.alike, h7.warm hW, h8.warm hW⟩
theorem bKN.call {D : va_G} {kd : Nat → ClassId} {ad : bAd} {B : Nat} {U : State} {g : JFrame} {mk : MethodId} {a : Array Value} (h : bKN D kd ad B U) : bKN D kd ad B (U.calling g mk a) := by
  obtain ⟨h1, h2, h3, h4, h5, h6, h7, h8⟩ := h
  exact ⟨va_K.moved (u := U) (U := U.calling g mk a) (Vm.Alike.refl U.vm) h1, fun q hq => va_Nw.same (u := U) (U := U.calling g mk a) (by
    have hb := (List.mem_filter.mp hq).2
    cases q <;> first | rfl | exact absurd hb (by simp [bNest])) rfl (h2 q hq), sA_mv (s := U) (U := U.calling g mk a) (Vm.Alike.refl U.vm) (fun _ _ _ => rfl) h3, va_AO.moved (u := U) (U := U.calling g mk a) (Vm.Alike.refl U.vm) h4, va_AO.moved (u := U) (U := U.calling g mk a) (Vm.Alike.refl U.vm) h5, bRR.moved (u := U) (U := U.calling g mk a) (Vm.Alike.refl U.vm) h6, vk_R.same (u := U) (U := U.calling g mk a) rfl h7, vk_R.same (u := U) (U := U.calling g mk a) rfl h8⟩
/-- a world of cells, where statics stand as they must -/
theorem bKN.ev {w : bw} {ad : bAd} {B : Nat} {U : State} (h : bKN w.1 w.2.1 ad B U) (had : ∀ j, 1000 ≤ j → b_ad w j = ad j) (hi : b_inj w) (hA : ∀ q, b_A w q → B ≤ q) : b_EV w U := by
  have h3 := sA_nw (A' := b_A w) (fun q hq => hA q hq) h.2.2.1
  refine ⟨h.1, h.2.1, hi, ?_⟩
  unfold b_stat
  rw [had 1000 (by omega), had 1001 (by omega), had 1002 (by omega), show (fun i => b_ad w (1010 + i)) = fun i => ad (1010 + i) from funext fun i => had _ (by omega), show (fun i => b_ad w (1020 + i)) = fun i => ad (1020 + i) from funext fun i => had _ (by omega)]
  exact h3
/-- what holds while a method makes cells -/
def Cn (x : bX) (D : va_G) (kd : Nat → ClassId) (ad : bAd) (B : Nat) (cc : ByteArray) (own : String) (nL : Nat) (rm : Room) : Prop :=
  x.1.tables.exec = Jvm.exec ∧ x.2.2.2.2.2.2.2.2.2.code = cc ∧ (∃ c0 : Cond, ∀ q ∈ c0 :: bGood, q.before x.2.2.2.2.2.2.1 x.2.2.2.2.1 = true) ∧ x.2.2.2.2.1.vm.findClass own = some x.2.2.2.2.2.1.cls ∧ x.2.2.2.2.2.2.2.2.2.maxLocals = nL ∧ x.2.2.2.1 = rm ∧ bKN D kd ad B x.2.2.2.2.1 ∧ B ≤ x.2.2.2.2.1.heap.size
def VN (x : bX) (D : va_G) (B nL : Nat) (Q : State → Prop) (pc : Nat) (ls : List (Nat × Value)) (st : List Value) (n : Nat) (a : bAd) (c : bC) (ce sl : Nat) : Prop :=
  ∀ (H : Heap) (locs : List Loc) (lo : Array Slot), va_P D vwCl (nW n a c) H → va_D (nA B) (nW n a c) → va_S (nA B) x.2.2.2.2.1.heap H locs → lv_has lo nL ls →
    W x.1 x.2.1 x.2.2.1 x.2.2.2.1 x.2.2.2.2.1 x.2.2.2.2.2.1 x.2.2.2.2.2.2.1 x.2.2.2.2.2.2.2.1 x.2.2.2.2.2.2.2.2.1 x.2.2.2.2.2.2.2.2.2 H locs ce sl Q (F0 x.2.2.2.2.2.1 pc lo st)
section NR
variable {x : bX} {D : va_G} {kd : Nat → ClassId} {ad : bAd} {B : Nat} {cc : ByteArray} {own : String} {nL : Nat} {rm : Room} {Q : State → Prop} {pc q : Nat} {ls : List (Nat × Value)} {st : List Value} {n : Nat} {a : bAd} {c : bC} {ce sl : Nat}
theorem Cn.ok (h : Cn x D kd ad B cc own nL rm) {w : Cond} (hc : w ∈ bGood) : w.before x.2.2.2.2.2.2.1 x.2.2.2.2.1 = true := by
  obtain ⟨c0, hts⟩ := h.2.2.1
  exact hts w (List.mem_cons_of_mem _ hc)
theorem Cn.ow (h : Cn x D kd ad B cc own nL rm) : x.2.2.2.2.1.vm.findClass own = some x.2.2.2.2.2.1.cls := h.2.2.2.1
theorem Cn.ml (h : Cn x D kd ad B cc own nL rm) : x.2.2.2.2.2.2.2.2.2.maxLocals = nL := h.2.2.2.2.1
theorem Cn.rq (h : Cn x D kd ad B cc own nL rm) : x.2.2.2.1 = rm := h.2.2.2.2.2.1
theorem Cn.kn (h : Cn x D kd ad B cc own nL rm) : bKN D kd ad B x.2.2.2.2.1 := h.2.2.2.2.2.2.1
theorem Cn.hA (h : Cn x D kd ad B cc own nL rm) : ∀ q, x.2.2.2.2.1.heap.size ≤ q → nA B q := fun q hq => Nat.le_trans h.2.2.2.2.2.2.2 hq
theorem n_aload_n (h : Cn x D kd ad B cc own nL rm) {k : Fin 4} {i : Nat} {v : Nat} (hd : decode cc pc = .ok (.aload_n k, 1)) (e : pc + 1 = q) (hi : (k : Nat) = i) (p : Nat) (hl : ls[p]? = some (i, .ref v)) (kk : VN x D B nL Q q ls (.ref v :: st) n a c ce sl) : VN x D B nL Q pc ls st n a c ce sl := by
  subst e
  exact fun H lo l hP hD hS hL => lv_aload_n h.1 h.2.1 hd hi (lv_at hL p hl) (kk H lo l hP hD hS hL)
theorem n_iconst (h : Cn x D kd ad B cc own nL rm) {z : Int} {v : Int32} (hd : decode cc pc = .ok (.iconst z, 1)) (e : pc + 1 = q) (hv : Int32.ofInt z = v) (kk : VN x D B nL Q q ls (.int v :: st) n a c ce sl) : VN x D B nL Q pc ls st n a c ce sl := by
  subst e
  exact fun H lo l hP hD hS hL => lv_iconst h.1 h.2.1 hd hv (kk H lo l hP hD hS hL)
theorem n_bipush (h : Cn x D kd ad B cc own nL rm) {z : Int} {v : Int32} (hd : decode cc pc = .ok (.bipush z, 2)) (e : pc + 2 = q) (hv : (Int8.ofInt z).toInt32 = v) (kk : VN x D B nL Q q ls (.int v :: st) n a c ce sl) : VN x D B nL Q pc ls st n a c ce sl := by
  subst e
  exact fun H lo l hP hD hS hL => lv_bipush h.1 h.2.1 hd hv (kk H lo l hP hD hS hL)
theorem n_sipush (h : Cn x D kd ad B cc own nL rm) {z : Int} {v : Int32} (hd : decode cc pc = .ok (.sipush z, 3)) (e : pc + 3 = q) (hv : (Int16.ofInt z).toInt32 = v) (kk : VN x D B nL Q q ls (.int v :: st) n a c ce sl) : VN x D B nL Q pc ls st n a c ce sl := by
  subst e
  exact fun H lo l hP hD hS hL => lv_sipush h.1 h.2.1 hd hv (kk H lo l hP hD hS hL)
theorem n_dup (h : Cn x D kd ad B cc own nL rm) {v : Value} (hd : decode cc pc = .ok (.dup, 1)) (e : pc + 1 = q) (hc : v.category = 1) (kk : VN x D B nL Q q ls (v :: v :: st) n a c ce sl) : VN x D B nL Q pc ls (v :: st) n a c ce sl := by
  subst e
  exact fun H lo l hP hD hS hL => lv_dup h.1 h.2.1 hd hc (kk H lo l hP hD hS hL)
/-- Object's own -/
theorem n_obj (h : Cn x D kd ad B cc own nL rm) {idx t : Nat} (hl : Cond.methodLink own idx Lib.objectInit ∈ bGood) (hi : Cond.instanceMethod Lib.objectInit ∈ bGood) (hc : Cond.code Lib.objectInit ⟨#[0xb1]⟩ 1 none ∈ bGood) (hr : 1 ≤ rm.frames ∧ (st.map fun v => v.category).sum + 12 ≤ rm.locals) (hd : decode cc pc = .ok (.invokespecial idx, 3)) (e : pc + 3 = q) (kk : VN x D B nL Q q ls st n a c ce sl) : VN x D B nL Q pc ls (.ref t :: st) n a c ce sl := by
  subst e
  exact fun H lo l hP hD hS hL => W.objInit h.1 h.2.1 h.ow (h.ok hl) (h.ok hi) (h.ok hc) rfl (by rw [h.ml]; exact hL.1) rfl hd (by rw [h.rq]; exact hr.1) (by rw [h.rq]; show 2 * 0 + _ + 12 ≤ _; omega) (W.eq (g2 := F0 x.2.2.2.2.2.1 (pc + 3) l st) rfl (kk H lo l hP hD hS hL))
theorem n_new (h : Cn x D kd ad B cc own nL rm) {C : String} {T : u_T} {N ci index : Nat} {ty : Nat → FieldType} {fs : List Value} (hc : b_cls ci C T N ty) (hcl : Cond.classLink own index C ∈ bGood) (hin : Cond.instantiable C N ∈ bGood) (hini : Cond.initialized C ∈ bGood) (hfs : ∀ j, j < N → defaultValue (ty j) = vp_V fs j) (hce : ce + 1 ≤ rm.cells) (hsl : sl + N ≤ rm.slots) (hd : decode cc pc = .ok (.new index, 3)) (e : pc + 3 = q)
    (kk : ∀ (t : Nat) (a' : bAd) (c' : bC), a' n = t → (∀ i, i < n → a' i = a i) → (∀ i, i < n → c' i = c i) → c' n = .inr (ci, fs) → VN x D B nL Q q ls (.ref t :: st) (n + 1) a' c' (ce + 1) (sl + N)) : VN x D B nL Q pc ls st n a c ce sl := by
  subst e
  obtain ⟨c0, hts⟩ := id h.2.2.1
  exact fun H lo l hP hD hS hL => va_new (Ts := c0 :: bGood) h.1 h.2.1 hts (fun q hq => List.mem_cons_of_mem _ (hc.1 q hq)) ty hc.2.2.1 h.ow (h.ok hcl) (h.ok hin) (h.ok hini) h.kn.1 hP hD hS h.hA hc.2.1 hfs (by rw [h.rq]; exact hce) (by rw [h.rq]; exact hsl) hd
    (fun t H1 hP1 hD1 hS1 => kk t _ _ xP_s (fun i hi => xP_n (by omega)) (fun i hi => xP_n (by omega)) xP_s H1 lo l (by rw [← nW_push]; exact hP1) (by rw [← nW_push]; exact hD1) hS1 hL)
/-- two classes of one name are one -/
theorem bKN.k0 {s : State} (h : bKN D kd ad B s) {tys : List (ClassId × FieldType)} {cA : ClassId} {i : Nat} (hK : va_K D vwCl tys s) (hi : tys[i]? = some (cA, .int)) : cA = kd 0 := by
  have h1 : s.vm.findClass _ = some cA := (hK.2 i _ hi).2
  have h2 : s.vm.findClass _ = some (kd 0) := (h.1.2 0 _ rfl).2
  exact Option.some.inj (h1.symm.trans h2)
theorem n_newa (h : Cn x D kd ad B cc own nL rm) {z : Int32} {N : Nat} (harr : Cond.arrayClass .int ∈ bGood) (hn : ¬ z < 0) (hN : z.toNatClampNeg = N) (hb : N * 4 ≤ 536870912) (hce : ce + 1 ≤ rm.cells) (hsl : sl + N ≤ rm.slots) (hd : decode cc pc = .ok (.newarray .int, 2)) (e : pc + 2 = q)
    (kk : ∀ (t : Nat) (a' : bAd) (c' : bC), a' n = t → (∀ i, i < n → a' i = a i) → (∀ i, i < n → c' i = c i) → c' n = .inl (kd 0, N, .inl (fun _ => 0)) → VN x D B nL Q q ls (.ref t :: st) (n + 1) a' c' (ce + 1) (sl + N)) : VN x D B nL Q pc ls (.int z :: st) n a c ce sl := by
  subst e
  exact fun H lo l hP hD hS hL => va_newa (atype := .int) (ty := .int) (a0 := (N, .inl (fun _ => 0))) h.1 h.2.1 (h.ok harr) rfl h.kn.1 hP hD hS h.hA (fun cA => vp_cell_i _ _ _) hn hN hb (by rw [h.rq]; exact hce) (by rw [h.rq]; exact hsl) hd
    (fun t cA H1 hK1 hP1 hD1 hS1 => by
      have ec : cA = kd 0 := h.kn.k0 (i := 4) hK1 rfl
      subst ec
      exact kk t _ _ xP_s (fun i hi => xP_n (by omega)) (fun i hi => xP_n (by omega)) xP_s H1 lo l (by rw [← nW_push]; exact hP1) (by rw [← nW_push]; exact hD1) hS1 hL)
/-- a field of an object that is made: for a final one only in its own constructor -/
theorem n_put (h : Cn x D kd ad B cc own nL rm) {C : String} {T : u_T} {N ci j k index t : Nat} {ty : Nat → FieldType} {fs : List Value} {v : Value} (hc : b_cls ci C T N ty) (hj : j < n) (ht : a j = t) (hcj : c j = .inr (ci, fs)) (hk : k < N) (hl : Cond.fieldLink own index (T k).1 (T k).2.1 (T k).2.2.1 ∈ bGood) (hf : (T k).2.2.2 = false) (hn : narrow (ty k) v = v ∧ fits (ty k) v = true) (hlen : k < fs.length) (hd : decode cc pc = .ok (.putfield index, 3)) (e : pc + 3 = q)
    (kk : ∀ c' : bC, (∀ i, i ≠ j → c' i = c i) → c' j = .inr (ci, fs.set k v) → VN x D B nL Q q ls st n a c' ce sl) : VN x D B nL Q pc ls (v :: .ref t :: st) n a c ce sl := by
  subst e
  subst ht
  obtain ⟨c0, hts⟩ := id h.2.2.1
  exact fun H lo l hP hD hS hL => va_put (Ts := c0 :: bGood) h.1 h.2.1 hts (fun q hq => List.mem_cons_of_mem _ (hc.1 q hq)) ty hc.2.2.1 hc.2.2.2 h.ow h.kn.1 hP hD hS j (by rw [nW_get hj, hcj]) hc.2.1 k hk (h.ok hl) (fun _ h9 => h9) hf (hc.2.2.1 k hk) hn.1 hn.2 hlen hd
    (fun H1 lo1 hP1 hD1 hS1 => kk _ (fun i hi => xP_n hi) xP_s H1 lo1 l (by rw [← nW_set hj]; exact hP1) (by rw [← nW_set hj]; exact hD1) hS1 hL)
theorem n_putF (h : Cn x D kd ad B cc own nL rm) (hin : x.2.2.2.2.2.2.2.2.1.name = "<init>") {C : String} {T : u_T} {N ci j k index t : Nat} {ty : Nat → FieldType} {fs : List Value} {v : Value} (hc : b_cls ci C T N ty) (hj : j < n) (ht : a j = t) (hcj : c j = .inr (ci, fs)) (hk : k < N) (hl : Cond.fieldLink own index (T k).1 (T k).2.1 (T k).2.2.1 ∈ bGood) (hf : (T k).2.2.2 = true) (ho : (T k).1 = own) (hn : narrow (ty k) v = v ∧ fits (ty k) v = true) (hlen : k < fs.length) (hd : decode cc pc = .ok (.putfield index, 3)) (e : pc + 3 = q)
    (kk : ∀ c' : bC, (∀ i, i ≠ j → c' i = c i) → c' j = .inr (ci, fs.set k v) → VN x D B nL Q q ls st n a c' ce sl) : VN x D B nL Q pc ls (v :: .ref t :: st) n a c ce sl := by
  subst e
  subst ht
  obtain ⟨c0, hts⟩ := id h.2.2.1
  exact fun H lo l hP hD hS hL => va_putF (Ts := c0 :: bGood) h.1 h.2.1 hts (fun q hq => List.mem_cons_of_mem _ (hc.1 q hq)) ty hc.2.2.1 hc.2.2.2 h.ow h.kn.1 hP hD hS j (by rw [nW_get hj, hcj]) hc.2.1 k hk (h.ok hl) (fun _ h9 => h9) hf hin ho (hc.2.2.1 k hk) hn.1 hn.2 hlen hd
    (fun H1 lo1 hP1 hD1 hS1 => kk _ (fun i hi => xP_n hi) xP_s H1 lo1 l (by rw [← nW_set hj]; exact hP1) (by rw [← nW_set hj]; exact hD1) hS1 hL)
theorem n_get (h : Cn x D kd ad B cc own nL rm) {C : String} {T : u_T} {N ci j k index t : Nat} {ty : Nat → FieldType} {fs : List Value} {v : Value} (hc : b_cls ci C T N ty) (hj : j < n) (ht : a j = t) (hcj : c j = .inr (ci, fs)) (hk : k < N) (hl : Cond.fieldLink own index (T k).1 (T k).2.1 (T k).2.2.1 ∈ bGood) (hv : fs[k]? = some v) (hd : decode cc pc = .ok (.getfield index, 3)) (e : pc + 3 = q)
    (kk : VN x D B nL Q q ls (v :: st) n a c ce sl) : VN x D B nL Q pc ls (.ref t :: st) n a c ce sl := by
  subst e
  subst ht
  obtain ⟨c0, hts⟩ := id h.2.2.1
  exact fun H lo l hP hD hS hL => va_get (Ts := c0 :: bGood) h.1 h.2.1 hts (fun q hq => List.mem_cons_of_mem _ (hc.1 q hq)) h.ow h.kn.1 hP j (by rw [nW_get hj, hcj]) hc.2.1 k hk (h.ok hl) (fun _ h9 => h9) hv hd (kk H lo l hP hD hS hL)
theorem n_iast (h : Cn x D kd ad B cc own nL rm) {j N t : Nat} {f : Nat → Int32} {i v : Int32} (hj : j < n) (ht : a j = t) (hcj : c j = .inl (kd 0, N, .inl f)) (hin : vp_in i N) (hd : decode cc pc = .ok (.iastore, 1)) (e : pc + 1 = q)
    (kk : ∀ c' : bC, (∀ i, i ≠ j → c' i = c i) → c' j = .inl (kd 0, N, .inl (upd f i.toNatClampNeg v)) → VN x D B nL Q q ls st n a c' ce sl) : VN x D B nL Q pc ls (.int v :: .int i :: .ref t :: st) n a c ce sl := by
  subst e
  subst ht
  exact fun H lo l hP hD hS hL => va_iast h.1 h.2.1 h.kn.1 hP hD hS j 0 (by rw [nW_get hj, hcj]) rfl hin hd
    (fun H1 lo1 hP1 hD1 hS1 => kk _ (fun i hi => xP_n hi) xP_s H1 lo1 l (by rw [← nW_set hj]; exact hP1) (by rw [← nW_set hj]; exact hD1) hS1 hL)
end NR
