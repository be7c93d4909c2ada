/-! the walk over a fixed world: all cells of a system stand in a list by their numbers, every method keeps the whole list -/
def bGood : List Cond := lw_tbl.filter goodWord
def bNest : Cond → Bool
  | .fieldLinkNest .. => true
  | .methodLinkNest .. => true
  | _ => false
def bNl : List Cond := lw_tbl.filter bNest
theorem bGoodIn {c : Cond} (hc : goodWord c = true) {c0 : Cond} (h : c ∈ bGood) : GoodIn (c0 :: bGood) (c :: bGood) := by
  intro q hq
  rcases List.mem_cons.mp hq with rfl | h2
  · exact ⟨List.mem_cons_of_mem _ h, good_of_word hc⟩
  · exact ⟨List.mem_cons_of_mem _ h2, good_of_word (List.mem_filter.mp h2).2⟩
abbrev bX : Type := Program × Launch × Env × Room × State × MethodId × Array Value × List Frame × Method × Code
abbrev bS : Type := (Nat ⊕ (Nat × Nat × (Nat → Option Nat))) ⊕ (Nat × Nat × (Nat → Option Nat))
abbrev bw : Type := va_G × (Nat → ClassId) × (Nat → Nat) × (Nat → bS) × Nat
abbrev bSt : Type := Nat → Nat → Int32
def b_ad (w : bw) : Nat → Nat := w.2.2.1
def b_sh (w : bw) : Nat → bS := w.2.2.2.1
def b_K (w : bw) : Nat := w.2.2.2.2
def b_ty (w : bw) : List (ClassId × FieldType) := [(w.2.1 0, .int), (w.2.1 1, .object "LagoonOpera$Sheet"), (w.2.1 2, .array .int), (w.2.1 3, .object "java/lang/String")]
def b_val (w : bw) (r : Nat → Option Nat) (f : Nat → Int32) (k : Nat) : Value := match r k with
  | none => .int (f k)
  | some j => .ref (b_ad w j)
def b_vals (w : bw) (N : Nat) (r : Nat → Option Nat) (f : Nat → Int32) : List Value := (List.range N).map (b_val w r f)
def b_ref (w : bw) (r : Nat → Option Nat) : Nat → Option Nat := fun i => (r i).map (b_ad w)
def b_of (w : bw) (f : Nat → Int32) : bS → va_E
  | .inl (.inl n) => .inl (w.2.1 0, n, .inl f)
  | .inl (.inr (t, n, r)) => .inl (w.2.1 t, n, .inr (.inr (.inr (.inr (b_ref w r)))))
  | .inr (ci, N, r) => .inr (ci, b_vals w N r f)
def b_cell (w : bw) (j : Nat) (f : Nat → Int32) : va_E := b_of w f (b_sh w j)
def b_wl (w : bw) (σ : bSt) : va_W := (List.range (b_K w)).map (fun j => (b_ad w j, b_cell w j (σ j)))
def b_set (σ : bSt) (j : Nat) (f : Nat → Int32) : bSt := fun a => if a = j then f else σ a
def b_up (σ : bSt) (j k : Nat) (v : Int32) : bSt := b_set σ j (upd (σ j) k v)
theorem b_set_s {σ : bSt} {j : Nat} {f : Nat → Int32} : b_set σ j f j = f := if_pos rfl
theorem b_set_n {σ : bSt} {j a : Nat} {f : Nat → Int32} (h : a ≠ j) : b_set σ j f a = σ a := if_neg h
theorem b_up_s {σ : bSt} {j k : Nat} {v : Int32} : b_up σ j k v j = upd (σ j) k v := if_pos rfl
theorem b_up_n {σ : bSt} {j a k : Nat} {v : Int32} (h : a ≠ j) : b_up σ j k v a = σ a := if_neg h
def b_A (w : bw) : Nat → Prop := fun q => ∃ j, j < b_K w ∧ q = b_ad w j
def b_inj (w : bw) : Prop := ∀ i j, i < b_K w → j < b_K w → b_ad w i = b_ad w j → i = j
theorem b_wl_get {w : bw} {σ : bSt} {j : Nat} (hj : j < b_K w) : (b_wl w σ)[j]? = some (b_ad w j, b_cell w j (σ j)) := by
  unfold b_wl
  rw [List.getElem?_map, List.getElem?_range hj]
  rfl
theorem b_wl_inv {w : bw} {σ : bSt} {j : Nat} {q : Nat × va_E} (h : (b_wl w σ)[j]? = some q) : j < b_K w ∧ q = (b_ad w j, b_cell w j (σ j)) := by
  have hj : j < b_K w := by
    have := (List.getElem?_eq_some_iff.mp h).1
    simpa [b_wl] using this
  exact ⟨hj, Option.some.inj (h.symm.trans (b_wl_get hj))⟩
theorem b_wl_set {w : bw} {σ : bSt} {j : Nat} {f : Nat → Int32} : (b_wl w σ).set j (b_ad w j, b_cell w j f) = b_wl w (b_set σ j f) := by
  apply List.ext_getElem?
  intro k
  by_cases hk : k < b_K w
  · rw [b_wl_get hk]
    by_cases e : k = j
    · subst e
      rw [List.getElem?_set_self (by simpa [b_wl] using hk), b_set_s]
    · rw [List.getElem?_set_ne (Ne.symm e), b_wl_get hk, b_set_n e]
  · rw [List.getElem?_eq_none (by simpa [b_wl] using hk), List.getElem?_eq_none (by simpa [b_wl] using hk)]
theorem b_wl_D {w : bw} {σ : bSt} (hi : b_inj w) : va_D (b_A w) (b_wl w σ) := by
  refine ⟨fun i j p q h1 h2 h3 => ?_, fun k q h => ?_⟩
  · obtain ⟨a1, rfl⟩ := b_wl_inv h1
    obtain ⟨a2, rfl⟩ := b_wl_inv h2
    exact hi i j a1 a2 h3
  · obtain ⟨a1, rfl⟩ := b_wl_inv h
    exact ⟨k, a1, rfl⟩
def b_tKA : Nat → Int32 := fun j => [(-1 : Int32), 0, 0, 0, 1, 2, 3].getD j 0
def b_tBO : Nat → Int32 := fun j => [(10 : Int32), 11, 12, 13, 0, 20, 0, 0, 30, 0, 0, 0, 0, 0, 40, 0, 0, 50, 0, 0, 0, 0, 0, 60, 0, 0, 70, 71].getD j 0
def b_tNA : Nat → Int32 := fun j => [(100 : Int32), 115, 116, 110, 105, 116].getD j 0
/-- what is never written: statics, static rows, texts -/
def b_stat (w : bw) (U : State) : Prop :=
  va_Z "LagoonOpera" "KIND_ABOVE" "[I" (.ref (b_ad w 1000)) (b_A w) U U.heap ∧ va_T .int (b_ad w 1000) 7 (fun j => .int (b_tKA j)) (b_A w) U U.heap ∧
  va_Z "LagoonOpera$Voices" "BODIES" "[I" (.ref (b_ad w 1001)) (b_A w) U U.heap ∧ va_T .int (b_ad w 1001) 28 (fun j => .int (b_tBO j)) (b_A w) U U.heap ∧
  va_Z "LagoonOpera$Reader" "NAMES" "[C" (.ref (b_ad w 1002)) (b_A w) U U.heap ∧ va_T .char (b_ad w 1002) 6 (fun j => .int (b_tNA j)) (b_A w) U U.heap ∧
  va_Z "java/lang/String" "COMPACT_STRINGS" "Z" (.int 1) (b_A w) U U.heap ∧ va_Zq "jdk/internal/util/Preconditions" "SIOOBE_FORMATTER" "Ljava/util/function/BiFunction;" (b_A w) U U.heap ∧
  vk_S 2 [3, 3] [[100, 115, 116], [110, 105, 116]] (fun i => b_ad w (1010 + i)) (fun i => b_ad w (1020 + i)) (b_A w) U U.heap
def b_EV (w : bw) (U : State) : Prop := va_K w.1 vwCl (b_ty w) U ∧ (∀ q ∈ bNl, va_Nw q U) ∧ b_inj w ∧ b_stat w U
theorem b_stat_mv {w : bw} {s U : State} (hvm : s.vm.Alike U.vm) (hq : ∀ a : Nat, a < s.heap.size → ¬ b_A w a → U.heap[a]? = s.heap[a]?) (h : b_stat w s) : b_stat w U := by
  obtain ⟨h1, h2, h3, h4, h5, h6, h7, h8, h9⟩ := h
  exact ⟨(h1.kept hq).moved hvm, (h2.kept hq).moved hvm, (h3.kept hq).moved hvm, (h4.kept hq).moved hvm, (h5.kept hq).moved hvm, (h6.kept hq).moved hvm, (h7.kept hq).moved hvm, (h8.kept hq).moved hvm, (h9.kept hq).moved hvm⟩
theorem b_nest_mv {s U : State} (hW : s.WarmedH U.vm) {q : Cond} (hq : bNest q = true) (h : va_Nw q s) : va_Nw q U := by
  cases q <;> first | exact va_Nw.warmF hW h | exact va_Nw.warmM hW h | exact absurd hq (by simp [bNest])
theorem b_EV_mv {w : bw} {s U : State} (hW : s.WarmedH U.vm) (hq : ∀ a : Nat, a < s.heap.size → ¬ b_A w a → U.heap[a]? = s.heap[a]?) (h : b_EV w s) : b_EV w U := by
  obtain ⟨h1, h2, h3, h4⟩ := h
  exact ⟨va_K.moved hW.alike h1, fun q hq => b_nest_mv hW (List.mem_filter.mp hq).2 (h2 q hq), h3, b_stat_mv hW.alike hq h4⟩
theorem b_EV_call {w : bw} {U : State} {g : JFrame} {mk : MethodId} {a : Array Value} (h : b_EV w U) : b_EV w (U.calling g mk a) := by
  obtain ⟨h1, h2, h3, h4⟩ := h
  exact ⟨va_K.moved (u := U) (U := U.calling g mk a) (Vm.Alike.refl U.vm) h1, fun q hq => va_Nw.same (u := U) (U := U.calling g mk a) (by
    have hb := (List.mem_filter.mp hq).2
    cases q <;> first | rfl | exact absurd hb (by simp [bNest])) rfl (h2 q hq), h3, b_stat_mv (s := U) (U := U.calling g mk a) (Vm.Alike.refl U.vm) (fun _ _ _ => rfl) h4⟩
/-- a method's start and end over the whole world -/
def PV (w : bw) (av : List Value) (σ : bSt) : Array Value → State → Prop := va_Pc av (fun U => va_P w.1 vwCl (b_wl w σ) U.heap ∧ b_EV w U)
def QV (w : bw) (post : Option Value → bSt → Prop) : Array Value → State → Outcome → State → Prop := fun _ st oc t => (∃ (v : Option Value) (σ' : bSt), oc = .returned v ∧ post v σ' ∧ va_P w.1 vwCl (b_wl w σ') t.heap) ∧ va_F (b_A w) st t
def MV (y : MethodName) (cc : ByteArray) (nL : Nat) (ret : Option FieldType) (rm : Room) (w : bw) (av : List Value) (σ : bSt) (post : Option Value → bSt → Prop) : Prop :=
  ∀ l : Launch, Met l y (Cond.code y cc nL ret :: bGood) rm (PV w av σ) (QV w post) 0 0 (b_A w)
theorem PV_blind {w : bw} {av : List Value} {σ : bSt} : FrameBlind (PV w av σ) := fun a U g mk h => ⟨h.1, h.2.1, b_EV_call h.2.2⟩
abbrev rmm (f lo : Nat) : Room := { frames := f, cells := 0, slots := 0, locals := lo }
/-- what holds all the while a method runs -/
def Cx (x : bX) (w : bw) (cc : ByteArray) (own : String) (nL : Nat) (ret : Option FieldType) (rm : Room) : Prop :=
  x.1.tables.exec = Jvm.exec ∧ x.2.2.2.2.2.2.2.2.2.code = cc ∧ x.2.2.2.2.2.2.2.2.1.sig.returnType = ret ∧ (∃ c0 : Cond, ∀ q ∈ c0 :: bGood, q.before x.2.2.2.2.2.2.1 x.2.2.2.2.1 = true) ∧ x.2.2.2.2.1.vm.findClass own = some x.2.2.2.2.2.1.cls ∧ x.2.2.2.2.2.2.2.2.2.maxLocals = nL ∧ x.2.2.2.2.2.2.2.2.1.locks = false ∧ x.2.2.2.1 = rm ∧ b_EV w x.2.2.2.2.1
def V (x : bX) (w : bw) (nL : Nat) (post : Option Value → bSt → Prop) (pc : Nat) (ls : List (Nat × Value)) (st : List Value) (σ : bSt) : Prop :=
  ∀ (H : Heap) (locs : List Loc) (a : Array Slot), va_P w.1 vwCl (b_wl w σ) H → va_S (b_A w) x.2.2.2.2.1.heap H locs → lv_has a nL ls →
    W x.1 x.2.1 x.2.2.1 x.2.2.2.1 x.2.2.2.2.1 x.2.2.2.2.2.1 x.2.2.2.2.2.2.1 x.2.2.2.2.2.2.2.1 x.2.2.2.2.2.2.2.2.1 x.2.2.2.2.2.2.2.2.2 H locs 0 0 (MQ x.2.2.2.2.2.2.2.1 (QV w post) x.2.2.2.2.2.2.1 x.2.2.2.2.1 0 0 (b_A w)) (F0 x.2.2.2.2.2.1 pc a st)
theorem b_met {y : MethodName} {cc : ByteArray} {nL : Nat} {ret : Option FieldType} {rm : Room} {w : bw} {av : List Value} {σ : bSt} {post : Option Value → bSt → Prop} {ls : List (Nat × Value)} (hy : plainName y.cls = true) (hlen : (lg_sl av).length ≤ nL) (hls : lv_args 0 av = ls)
    (body : ∀ x : bX, Cx x w cc y.cls nL ret rm → V x w nL post 0 ls [] σ) : MV y cc nL ret rm w av σ post := by
  intro l
  refine Met.ofW (cc := cc) (maxL := nL) (ret := ret) hy rfl ?_
  intro p e s m args below meth c s₁ B hml hv
  obtain ⟨rfl, hP, hE⟩ := hv
  have hts := atoms_spec (ws := Cond.code y cc nL ret :: bGood) B.pre
  have hown : s.vm.findClass y.cls = some m.cls := findClass_of_methodNamed B.named
  have hl := lv_entry av (n := nL) hlen
  rw [lg_entry_eq]
  subst hls
  have key := body (p, l, e, rm, s, m, av.toArray, below, meth, c) ⟨B.exec, B.bytes, B.returns, ⟨_, hts⟩, hown, hml, B.notSynchronized, rfl, hE⟩
  exact key s.heap [] _ hP va_S.rf hl
section BV
variable {x : bX} {w : bw} {cc : ByteArray} {own : String} {nL : Nat} {ret : Option FieldType} {rm : Room} {post : Option Value → bSt → Prop} {pc q : Nat} {ls : List (Nat × Value)} {st : List Value} {σ : bSt}
theorem v_iconst (h : Cx x w cc own nL ret rm) {n : Int} {v : Int32} (hd : decode cc pc = .ok (.iconst n, 1)) (e : pc + 1 = q) (hv : Int32.ofInt n = v) (k : V x w nL post q ls (.int v :: st) σ) : V x w nL post pc ls (st) σ := by
  subst e
  exact fun H lo a hP hS hL => lv_iconst h.1 h.2.1 hd hv (k H lo a hP hS hL)
theorem v_bipush (h : Cx x w cc own nL ret rm) {n : Int} {v : Int32} (hd : decode cc pc = .ok (.bipush n, 2)) (e : pc + 2 = q) (hv : (Int8.ofInt n).toInt32 = v) (k : V x w nL post q ls (.int v :: st) σ) : V x w nL post pc ls (st) σ := by
  subst e
  exact fun H lo a hP hS hL => lv_bipush h.1 h.2.1 hd hv (k H lo a hP hS hL)
theorem v_sipush (h : Cx x w cc own nL ret rm) {n : Int} {v : Int32} (hd : decode cc pc = .ok (.sipush n, 3)) (e : pc + 3 = q) (hv : (Int16.ofInt n).toInt32 = v) (k : V x w nL post q ls (.int v :: st) σ) : V x w nL post pc ls (st) σ := by
  subst e
  exact fun H lo a hP hS hL => lv_sipush h.1 h.2.1 hd hv (k H lo a hP hS hL)
theorem v_lconst (h : Cx x w cc own nL ret rm) {n : Fin 2} {v : Int64} (hd : decode cc pc = .ok (.lconst n, 1)) (e : pc + 1 = q) (hv : Int64.ofNat (n : Nat) = v) (k : V x w nL post q ls (.long v :: st) σ) : V x w nL post pc ls (st) σ := by
  subst e
  exact fun H lo a hP hS hL => lv_lconst h.1 h.2.1 hd hv (k H lo a hP hS hL)
theorem v_iload_n (h : Cx x w cc own nL ret rm) {k : Fin 4} {i : Nat} {v : Int32} (hd : decode cc pc = .ok (.iload_n k, 1)) (e : pc + 1 = q) (hi : (k : Nat) = i) (p : Nat) (hl : ls[p]? = some (i, .int v)) (kk : V x w nL post q ls (.int v :: st) σ) : V x w nL post pc ls st σ := by
  subst e
  exact fun H lo a hP hS hL => lv_iload_n h.1 h.2.1 hd hi (lv_at hL p hl) (kk H lo a hP hS hL)
theorem v_iload (h : Cx x w cc own nL ret rm) {i : Nat} {v : Int32} (hd : decode cc pc = .ok (.iload i, 2)) (e : pc + 2 = q) (p : Nat) (hl : ls[p]? = some (i, .int v)) (kk : V x w nL post q ls (.int v :: st) σ) : V x w nL post pc ls st σ := by
  subst e
  exact fun H lo a hP hS hL => lv_iload h.1 h.2.1 hd (lv_at hL p hl) (kk H lo a hP hS hL)
theorem v_lload_n (h : Cx x w cc own nL ret rm) {k : Fin 4} {i : Nat} {v : Int64} (hd : decode cc pc = .ok (.lload_n k, 1)) (e : pc + 1 = q) (hi : (k : Nat) = i) (p : Nat) (hl : ls[p]? = some (i, .long v)) (kk : V x w nL post q ls (.long v :: st) σ) : V x w nL post pc ls st σ := by
  subst e
  exact fun H lo a hP hS hL => lv_lload_n h.1 h.2.1 hd hi (lv_at hL p hl) (kk H lo a hP hS hL)
theorem v_lload (h : Cx x w cc own nL ret rm) {i : Nat} {v : Int64} (hd : decode cc pc = .ok (.lload i, 2)) (e : pc + 2 = q) (p : Nat) (hl : ls[p]? = some (i, .long v)) (kk : V x w nL post q ls (.long v :: st) σ) : V x w nL post pc ls st σ := by
  subst e
  exact fun H lo a hP hS hL => lv_lload h.1 h.2.1 hd (lv_at hL p hl) (kk H lo a hP hS hL)
theorem v_aload_n (h : Cx x w cc own nL ret rm) {k : Fin 4} {i : Nat} {v : Nat} (hd : decode cc pc = .ok (.aload_n k, 1)) (e : pc + 1 = q) (hi : (k : Nat) = i) (p : Nat) (hl : ls[p]? = some (i, .ref v)) (kk : V x w nL post q ls (.ref v :: st) σ) : V x w nL post pc ls st σ := by
  subst e
  exact fun H lo a hP hS hL => lv_aload_n h.1 h.2.1 hd hi (lv_at hL p hl) (kk H lo a hP hS hL)
theorem v_aload (h : Cx x w cc own nL ret rm) {i : Nat} {v : Nat} (hd : decode cc pc = .ok (.aload i, 2)) (e : pc + 2 = q) (p : Nat) (hl : ls[p]? = some (i, .ref v)) (kk : V x w nL post q ls (.ref v :: st) σ) : V x w nL post pc ls st σ := by
  subst e
  exact fun H lo a hP hS hL => lv_aload h.1 h.2.1 hd (lv_at hL p hl) (kk H lo a hP hS hL)
theorem v_istore_n (h : Cx x w cc own nL ret rm) {k : Fin 4} {i : Nat} {v : Int32} {ls1 : List (Nat × Value)} (hd : decode cc pc = .ok (.istore_n k, 1)) (e : pc + 1 = q) (hi : (k : Nat) = i) (hn : i < nL) (hl : (i, Value.int v) :: ls.filter (fun q => !(q.1 == i) && !(q.1 + 1 == i && q.2.category == 2)) = ls1) (kk : V x w nL post q ls1 st σ) : V x w nL post pc ls (.int v :: st) σ := by
  subst e
  exact fun H lo a hP hS hL => lv_istore_n h.1 h.2.1 hd hi hL hn hl (fun a2 hL2 => kk H lo a2 hP hS hL2)
theorem v_istore (h : Cx x w cc own nL ret rm) {i : Nat} {v : Int32} {ls1 : List (Nat × Value)} (hd : decode cc pc = .ok (.istore i, 2)) (e : pc + 2 = q) (hn : i < nL) (hl : (i, Value.int v) :: ls.filter (fun q => !(q.1 == i) && !(q.1 + 1 == i && q.2.category == 2)) = ls1) (kk : V x w nL post q ls1 st σ) : V x w nL post pc ls (.int v :: st) σ := by
  subst e
  exact fun H lo a hP hS hL => lv_istore h.1 h.2.1 hd hL hn hl (fun a2 hL2 => kk H lo a2 hP hS hL2)
theorem v_astore_n (h : Cx x w cc own nL ret rm) {k : Fin 4} {i : Nat} {v : Nat} {ls1 : List (Nat × Value)} (hd : decode cc pc = .ok (.astore_n k, 1)) (e : pc + 1 = q) (hi : (k : Nat) = i) (hn : i < nL) (hl : (i, Value.ref v) :: ls.filter (fun q => !(q.1 == i) && !(q.1 + 1 == i && q.2.category == 2)) = ls1) (kk : V x w nL post q ls1 st σ) : V x w nL post pc ls (.ref v :: st) σ := by
  subst e
  exact fun H lo a hP hS hL => lv_astore_n h.1 h.2.1 hd hi hL hn hl (fun a2 hL2 => kk H lo a2 hP hS hL2)
theorem v_astore (h : Cx x w cc own nL ret rm) {i : Nat} {v : Nat} {ls1 : List (Nat × Value)} (hd : decode cc pc = .ok (.astore i, 2)) (e : pc + 2 = q) (hn : i < nL) (hl : (i, Value.ref v) :: ls.filter (fun q => !(q.1 == i) && !(q.1 + 1 == i && q.2.category == 2)) = ls1) (kk : V x w nL post q ls1 st σ) : V x w nL post pc ls (.ref v :: st) σ := by
  subst e
  exact fun H lo a hP hS hL => lv_astore h.1 h.2.1 hd hL hn hl (fun a2 hL2 => kk H lo a2 hP hS hL2)
theorem v_lstore_n (h : Cx x w cc own nL ret rm) {k : Fin 4} {i : Nat} {v : Int64} {ls1 : List (Nat × Value)} (hd : decode cc pc = .ok (.lstore_n k, 1)) (e : pc + 1 = q) (hi : (k : Nat) = i) (hn : i + 1 < nL) (hl : (i, Value.long v) :: ls.filter (fun q => !(q.1 == i) && (!(q.1 == i + 1) && !(q.1 + 1 == i && q.2.category == 2))) = ls1) (kk : V x w nL post q ls1 st σ) : V x w nL post pc ls (.long v :: st) σ := by
  subst e
  exact fun H lo a hP hS hL => lv_lstore_n h.1 h.2.1 hd hi hL hn hl (fun a2 hL2 => kk H lo a2 hP hS hL2)
theorem v_lstore (h : Cx x w cc own nL ret rm) {i : Nat} {v : Int64} {ls1 : List (Nat × Value)} (hd : decode cc pc = .ok (.lstore i, 2)) (e : pc + 2 = q) (hn : i + 1 < nL) (hl : (i, Value.long v) :: ls.filter (fun q => !(q.1 == i) && (!(q.1 == i + 1) && !(q.1 + 1 == i && q.2.category == 2))) = ls1) (kk : V x w nL post q ls1 st σ) : V x w nL post pc ls (.long v :: st) σ := by
  subst e
  exact fun H lo a hP hS hL => lv_lstore h.1 h.2.1 hd hL hn hl (fun a2 hL2 => kk H lo a2 hP hS hL2)
theorem v_iinc (h : Cx x w cc own nL ret rm) {i p : Nat} {n : Int} {v u : Int32} {ls1 : List (Nat × Value)} (hd : decode cc pc = .ok (.iinc i n, 3)) (e : pc + 3 = q) (hk : ls[p]? = some (i, .int v)) (hv : v + Int32.ofInt n = u) (hn : i < nL) (hl : (i, Value.int u) :: ls.filter (fun q => !(q.1 == i) && !(q.1 + 1 == i && q.2.category == 2)) = ls1) (kk : V x w nL post q ls1 st σ) : V x w nL post pc ls st σ := by
  subst e
  exact fun H lo a hP hS hL => lv_iinc h.1 h.2.1 hd hL hk hv hn hl (fun a2 hL2 => kk H lo a2 hP hS hL2)
theorem v_iadd (h : Cx x w cc own nL ret rm) {a b : Int32} (hd : decode cc pc = .ok (.iadd, 1)) (e : pc + 1 = q)  (k : V x w nL post q ls (.int (a + b) :: st) σ) : V x w nL post pc ls (.int b :: .int a :: st) σ := by
  subst e
  exact fun H lo a hP hS hL => lv_iadd h.1 h.2.1 hd  (k H lo a hP hS hL)
theorem v_isub (h : Cx x w cc own nL ret rm) {a b : Int32} (hd : decode cc pc = .ok (.isub, 1)) (e : pc + 1 = q)  (k : V x w nL post q ls (.int (a - b) :: st) σ) : V x w nL post pc ls (.int b :: .int a :: st) σ := by
  subst e
  exact fun H lo a hP hS hL => lv_isub h.1 h.2.1 hd  (k H lo a hP hS hL)
theorem v_imul (h : Cx x w cc own nL ret rm) {a b : Int32} (hd : decode cc pc = .ok (.imul, 1)) (e : pc + 1 = q)  (k : V x w nL post q ls (.int (a * b) :: st) σ) : V x w nL post pc ls (.int b :: .int a :: st) σ := by
  subst e
  exact fun H lo a hP hS hL => lv_imul h.1 h.2.1 hd  (k H lo a hP hS hL)
theorem v_iand (h : Cx x w cc own nL ret rm) {a b : Int32} (hd : decode cc pc = .ok (.iand, 1)) (e : pc + 1 = q)  (k : V x w nL post q ls (.int (a &&& b) :: st) σ) : V x w nL post pc ls (.int b :: .int a :: st) σ := by
  subst e
  exact fun H lo a hP hS hL => lv_iand h.1 h.2.1 hd  (k H lo a hP hS hL)
theorem v_ior (h : Cx x w cc own nL ret rm) {a b : Int32} (hd : decode cc pc = .ok (.ior, 1)) (e : pc + 1 = q)  (k : V x w nL post q ls (.int (a ||| b) :: st) σ) : V x w nL post pc ls (.int b :: .int a :: st) σ := by
  subst e
  exact fun H lo a hP hS hL => lv_ior h.1 h.2.1 hd  (k H lo a hP hS hL)
theorem v_ixor (h : Cx x w cc own nL ret rm) {a b : Int32} (hd : decode cc pc = .ok (.ixor, 1)) (e : pc + 1 = q)  (k : V x w nL post q ls (.int (a ^^^ b) :: st) σ) : V x w nL post pc ls (.int b :: .int a :: st) σ := by
  subst e
  exact fun H lo a hP hS hL => lv_ixor h.1 h.2.1 hd  (k H lo a hP hS hL)
theorem v_ishl (h : Cx x w cc own nL ret rm) {a b : Int32} (hd : decode cc pc = .ok (.ishl, 1)) (e : pc + 1 = q)  (k : V x w nL post q ls (.int (a <<< (b &&& 31)) :: st) σ) : V x w nL post pc ls (.int b :: .int a :: st) σ := by
  subst e
  exact fun H lo a hP hS hL => lv_ishl h.1 h.2.1 hd  (k H lo a hP hS hL)
theorem v_ishr (h : Cx x w cc own nL ret rm) {a b : Int32} (hd : decode cc pc = .ok (.ishr, 1)) (e : pc + 1 = q)  (k : V x w nL post q ls (.int (a >>> (b &&& 31)) :: st) σ) : V x w nL post pc ls (.int b :: .int a :: st) σ := by
  subst e
  exact fun H lo a hP hS hL => lv_ishr h.1 h.2.1 hd  (k H lo a hP hS hL)
theorem v_iushr (h : Cx x w cc own nL ret rm) {a b v : Int32} (hd : decode cc pc = .ok (.iushr, 1)) (e : pc + 1 = q) (hv : (a.toUInt32 >>> (b.toUInt32 &&& 31)).toInt32 = v) (k : V x w nL post q ls (.int v :: st) σ) : V x w nL post pc ls (.int b :: .int a :: st) σ := by
  subst e
  exact fun H lo a hP hS hL => lv_iushr h.1 h.2.1 hd hv (k H lo a hP hS hL)
theorem v_idiv (h : Cx x w cc own nL ret rm) {a b : Int32} (hd : decode cc pc = .ok (.idiv, 1)) (e : pc + 1 = q) (hne : ¬ b = 0) (k : V x w nL post q ls (.int (a / b) :: st) σ) : V x w nL post pc ls (.int b :: .int a :: st) σ := by
  subst e
  exact fun H lo a hP hS hL => lv_idiv h.1 h.2.1 hd hne (k H lo a hP hS hL)
theorem v_irem (h : Cx x w cc own nL ret rm) {a b : Int32} (hd : decode cc pc = .ok (.irem, 1)) (e : pc + 1 = q) (hne : ¬ b = 0) (k : V x w nL post q ls (.int (a - a / b * b) :: st) σ) : V x w nL post pc ls (.int b :: .int a :: st) σ := by
  subst e
  exact fun H lo a hP hS hL => lv_irem h.1 h.2.1 hd hne (k H lo a hP hS hL)
theorem v_ineg (h : Cx x w cc own nL ret rm) {a : Int32} (hd : decode cc pc = .ok (.ineg, 1)) (e : pc + 1 = q)  (k : V x w nL post q ls (.int (-a) :: st) σ) : V x w nL post pc ls (.int a :: st) σ := by
  subst e
  exact fun H lo a hP hS hL => lv_ineg h.1 h.2.1 hd  (k H lo a hP hS hL)
theorem v_ladd (h : Cx x w cc own nL ret rm) {a b : Int64} (hd : decode cc pc = .ok (.ladd, 1)) (e : pc + 1 = q)  (k : V x w nL post q ls (.long (a + b) :: st) σ) : V x w nL post pc ls (.long b :: .long a :: st) σ := by
  subst e
  exact fun H lo a hP hS hL => lv_ladd h.1 h.2.1 hd  (k H lo a hP hS hL)
theorem v_land (h : Cx x w cc own nL ret rm) {a b : Int64} (hd : decode cc pc = .ok (.land, 1)) (e : pc + 1 = q)  (k : V x w nL post q ls (.long (a &&& b) :: st) σ) : V x w nL post pc ls (.long b :: .long a :: st) σ := by
  subst e
  exact fun H lo a hP hS hL => lv_land h.1 h.2.1 hd  (k H lo a hP hS hL)
theorem v_lor (h : Cx x w cc own nL ret rm) {a b : Int64} (hd : decode cc pc = .ok (.lor, 1)) (e : pc + 1 = q)  (k : V x w nL post q ls (.long (a ||| b) :: st) σ) : V x w nL post pc ls (.long b :: .long a :: st) σ := by
  subst e
  exact fun H lo a hP hS hL => lv_lor h.1 h.2.1 hd  (k H lo a hP hS hL)
theorem v_lshl (h : Cx x w cc own nL ret rm) {a v : Int64} {b : Int32} (hd : decode cc pc = .ok (.lshl, 1)) (e : pc + 1 = q) (hv : a <<< (b.toInt64 &&& 63) = v) (k : V x w nL post q ls (.long v :: st) σ) : V x w nL post pc ls (.int b :: .long a :: st) σ := by
  subst e
  exact fun H lo a hP hS hL => lv_lshl h.1 h.2.1 hd hv (k H lo a hP hS hL)
theorem v_lshr (h : Cx x w cc own nL ret rm) {a v : Int64} {b : Int32} (hd : decode cc pc = .ok (.lshr, 1)) (e : pc + 1 = q) (hv : a >>> (b.toInt64 &&& 63) = v) (k : V x w nL post q ls (.long v :: st) σ) : V x w nL post pc ls (.int b :: .long a :: st) σ := by
  subst e
  exact fun H lo a hP hS hL => lv_lshr h.1 h.2.1 hd hv (k H lo a hP hS hL)
theorem v_lushr (h : Cx x w cc own nL ret rm) {a v : Int64} {b : Int32} (hd : decode cc pc = .ok (.lushr, 1)) (e : pc + 1 = q) (hv : (a.toUInt64 >>> (b.toInt64.toUInt64 &&& Int64.toUInt64 63)).toInt64 = v) (k : V x w nL post q ls (.long v :: st) σ) : V x w nL post pc ls (.int b :: .long a :: st) σ := by
  subst e
  exact fun H lo a hP hS hL => lv_lushr h.1 h.2.1 hd hv (k H lo a hP hS hL)
theorem v_i2l (h : Cx x w cc own nL ret rm) {a : Int32} {v : Int64} (hd : decode cc pc = .ok (.i2l, 1)) (e : pc + 1 = q) (hv : a.toInt64 = v) (k : V x w nL post q ls (.long v :: st) σ) : V x w nL post pc ls (.int a :: st) σ := by
  subst e
  exact fun H lo a hP hS hL => lv_i2l h.1 h.2.1 hd hv (k H lo a hP hS hL)
theorem v_l2i (h : Cx x w cc own nL ret rm) {a : Int64} {v : Int32} (hd : decode cc pc = .ok (.l2i, 1)) (e : pc + 1 = q) (hv : a.toInt32 = v) (k : V x w nL post q ls (.int v :: st) σ) : V x w nL post pc ls (.long a :: st) σ := by
  subst e
  exact fun H lo a hP hS hL => lv_l2i h.1 h.2.1 hd hv (k H lo a hP hS hL)
theorem v_i2b (h : Cx x w cc own nL ret rm) {a v : Int32} (hd : decode cc pc = .ok (.i2b, 1)) (e : pc + 1 = q) (hv : a.toInt8.toInt32 = v) (k : V x w nL post q ls (.int v :: st) σ) : V x w nL post pc ls (.int a :: st) σ := by
  subst e
  exact fun H lo a hP hS hL => lv_i2b h.1 h.2.1 hd hv (k H lo a hP hS hL)
theorem v_i2s (h : Cx x w cc own nL ret rm) {a v : Int32} (hd : decode cc pc = .ok (.i2s, 1)) (e : pc + 1 = q) (hv : a.toInt16.toInt32 = v) (k : V x w nL post q ls (.int v :: st) σ) : V x w nL post pc ls (.int a :: st) σ := by
  subst e
  exact fun H lo a hP hS hL => lv_i2s h.1 h.2.1 hd hv (k H lo a hP hS hL)
theorem v_lcmp (h : Cx x w cc own nL ret rm) {a b : Int64} (hd : decode cc pc = .ok (.lcmp, 1)) (e : pc + 1 = q)  (k : V x w nL post q ls (.int (lg_cmp a b) :: st) σ) : V x w nL post pc ls (.long b :: .long a :: st) σ := by
  subst e
  exact fun H lo a hP hS hL => W.lcmp h.1 h.2.1 hd  (k H lo a hP hS hL)
theorem v_dup (h : Cx x w cc own nL ret rm) {v : Value} (hd : decode cc pc = .ok (.dup, 1)) (e : pc + 1 = q) (hc : v.category = 1) (k : V x w nL post q ls (v :: v :: st) σ) : V x w nL post pc ls (v :: st) σ := by
  subst e
  exact fun H lo a hP hS hL => lv_dup h.1 h.2.1 hd hc (k H lo a hP hS hL)
theorem v_dup2 (h : Cx x w cc own nL ret rm) {v u : Value} (hd : decode cc pc = .ok (.dup2, 1)) (e : pc + 1 = q) (hc : v.category = 1) (hc2 : u.category = 1) (k : V x w nL post q ls (v :: u :: v :: u :: st) σ) : V x w nL post pc ls (v :: u :: st) σ := by
  subst e
  exact fun H lo a hP hS hL => lv_dup2_11 h.1 h.2.1 hd hc hc2 (k H lo a hP hS hL)
theorem v_pop (h : Cx x w cc own nL ret rm) {v : Value} (hd : decode cc pc = .ok (.pop, 1)) (e : pc + 1 = q) (hc : v.category = 1) (k : V x w nL post q ls (st) σ) : V x w nL post pc ls (v :: st) σ := by
  subst e
  exact fun H lo a hP hS hL => lv_pop h.1 h.2.1 hd hc (k H lo a hP hS hL)
theorem v_null (h : Cx x w cc own nL ret rm)  (hd : decode cc pc = .ok (.aconst_null, 1)) (e : pc + 1 = q)  (k : V x w nL post q ls (.null :: st) σ) : V x w nL post pc ls (st) σ := by
  subst e
  exact fun H lo a hP hS hL => lv_null h.1 h.2.1 hd  (k H lo a hP hS hL)
theorem v_if_eq (h : Cx x w cc own nL ret rm) {a : Int32} {off : Int} {t : Nat} (hd : decode cc pc = .ok (.ifCond .eq off, 3)) (ht : (pc : Int) + off = (t : Int)) (e : pc + 3 = q) (kt : a = 0 → V x w nL post t ls st σ) (kf : ¬ a = 0 → V x w nL post q ls st σ) : V x w nL post pc ls (.int a :: st) σ := by
  subst e
  exact fun H lo a hP hS hL => lv_if_eq h.1 h.2.1 hd ht (fun c => kt c H lo a hP hS hL) (fun c => kf c H lo a hP hS hL)
theorem v_icmp_eq (h : Cx x w cc own nL ret rm) {a b : Int32} {off : Int} {t : Nat} (hd : decode cc pc = .ok (.if_icmp .eq off, 3)) (ht : (pc : Int) + off = (t : Int)) (e : pc + 3 = q) (kt : a = b → V x w nL post t ls st σ) (kf : ¬ a = b → V x w nL post q ls st σ) : V x w nL post pc ls (.int b :: .int a :: st) σ := by
  subst e
  exact fun H lo a hP hS hL => lv_icmp_eq h.1 h.2.1 hd ht (fun c => kt c H lo a hP hS hL) (fun c => kf c H lo a hP hS hL)
theorem v_if_ne (h : Cx x w cc own nL ret rm) {a : Int32} {off : Int} {t : Nat} (hd : decode cc pc = .ok (.ifCond .ne off, 3)) (ht : (pc : Int) + off = (t : Int)) (e : pc + 3 = q) (kt : ¬ a = 0 → V x w nL post t ls st σ) (kf : a = 0 → V x w nL post q ls st σ) : V x w nL post pc ls (.int a :: st) σ := by
  subst e
  exact fun H lo a hP hS hL => lv_if_ne h.1 h.2.1 hd ht (fun c => kt c H lo a hP hS hL) (fun c => kf c H lo a hP hS hL)
theorem v_icmp_ne (h : Cx x w cc own nL ret rm) {a b : Int32} {off : Int} {t : Nat} (hd : decode cc pc = .ok (.if_icmp .ne off, 3)) (ht : (pc : Int) + off = (t : Int)) (e : pc + 3 = q) (kt : ¬ a = b → V x w nL post t ls st σ) (kf : a = b → V x w nL post q ls st σ) : V x w nL post pc ls (.int b :: .int a :: st) σ := by
  subst e
  exact fun H lo a hP hS hL => lv_icmp_ne h.1 h.2.1 hd ht (fun c => kt c H lo a hP hS hL) (fun c => kf c H lo a hP hS hL)
theorem v_if_lt (h : Cx x w cc own nL ret rm) {a : Int32} {off : Int} {t : Nat} (hd : decode cc pc = .ok (.ifCond .lt off, 3)) (ht : (pc : Int) + off = (t : Int)) (e : pc + 3 = q) (kt : a < 0 → V x w nL post t ls st σ) (kf : ¬ a < 0 → V x w nL post q ls st σ) : V x w nL post pc ls (.int a :: st) σ := by
  subst e
  exact fun H lo a hP hS hL => lv_if_lt h.1 h.2.1 hd ht (fun c => kt c H lo a hP hS hL) (fun c => kf c H lo a hP hS hL)
theorem v_icmp_lt (h : Cx x w cc own nL ret rm) {a b : Int32} {off : Int} {t : Nat} (hd : decode cc pc = .ok (.if_icmp .lt off, 3)) (ht : (pc : Int) + off = (t : Int)) (e : pc + 3 = q) (kt : a < b → V x w nL post t ls st σ) (kf : ¬ a < b → V x w nL post q ls st σ) : V x w nL post pc ls (.int b :: .int a :: st) σ := by
  subst e
  exact fun H lo a hP hS hL => lv_icmp_lt h.1 h.2.1 hd ht (fun c => kt c H lo a hP hS hL) (fun c => kf c H lo a hP hS hL)
theorem v_if_ge (h : Cx x w cc own nL ret rm) {a : Int32} {off : Int} {t : Nat} (hd : decode cc pc = .ok (.ifCond .ge off, 3)) (ht : (pc : Int) + off = (t : Int)) (e : pc + 3 = q) (kt : 0 ≤ a → V x w nL post t ls st σ) (kf : ¬ 0 ≤ a → V x w nL post q ls st σ) : V x w nL post pc ls (.int a :: st) σ := by
  subst e
  exact fun H lo a hP hS hL => lv_if_ge h.1 h.2.1 hd ht (fun c => kt c H lo a hP hS hL) (fun c => kf c H lo a hP hS hL)
theorem v_icmp_ge (h : Cx x w cc own nL ret rm) {a b : Int32} {off : Int} {t : Nat} (hd : decode cc pc = .ok (.if_icmp .ge off, 3)) (ht : (pc : Int) + off = (t : Int)) (e : pc + 3 = q) (kt : b ≤ a → V x w nL post t ls st σ) (kf : ¬ b ≤ a → V x w nL post q ls st σ) : V x w nL post pc ls (.int b :: .int a :: st) σ := by
  subst e
  exact fun H lo a hP hS hL => lv_icmp_ge h.1 h.2.1 hd ht (fun c => kt c H lo a hP hS hL) (fun c => kf c H lo a hP hS hL)
theorem v_if_gt (h : Cx x w cc own nL ret rm) {a : Int32} {off : Int} {t : Nat} (hd : decode cc pc = .ok (.ifCond .gt off, 3)) (ht : (pc : Int) + off = (t : Int)) (e : pc + 3 = q) (kt : 0 < a → V x w nL post t ls st σ) (kf : ¬ 0 < a → V x w nL post q ls st σ) : V x w nL post pc ls (.int a :: st) σ := by
  subst e
  exact fun H lo a hP hS hL => lv_if_gt h.1 h.2.1 hd ht (fun c => kt c H lo a hP hS hL) (fun c => kf c H lo a hP hS hL)
theorem v_icmp_gt (h : Cx x w cc own nL ret rm) {a b : Int32} {off : Int} {t : Nat} (hd : decode cc pc = .ok (.if_icmp .gt off, 3)) (ht : (pc : Int) + off = (t : Int)) (e : pc + 3 = q) (kt : b < a → V x w nL post t ls st σ) (kf : ¬ b < a → V x w nL post q ls st σ) : V x w nL post pc ls (.int b :: .int a :: st) σ := by
  subst e
  exact fun H lo a hP hS hL => lv_icmp_gt h.1 h.2.1 hd ht (fun c => kt c H lo a hP hS hL) (fun c => kf c H lo a hP hS hL)
theorem v_if_le (h : Cx x w cc own nL ret rm) {a : Int32} {off : Int} {t : Nat} (hd : decode cc pc = .ok (.ifCond .le off, 3)) (ht : (pc : Int) + off = (t : Int)) (e : pc + 3 = q) (kt : a ≤ 0 → V x w nL post t ls st σ) (kf : ¬ a ≤ 0 → V x w nL post q ls st σ) : V x w nL post pc ls (.int a :: st) σ := by
  subst e
  exact fun H lo a hP hS hL => lv_if_le h.1 h.2.1 hd ht (fun c => kt c H lo a hP hS hL) (fun c => kf c H lo a hP hS hL)
theorem v_icmp_le (h : Cx x w cc own nL ret rm) {a b : Int32} {off : Int} {t : Nat} (hd : decode cc pc = .ok (.if_icmp .le off, 3)) (ht : (pc : Int) + off = (t : Int)) (e : pc + 3 = q) (kt : a ≤ b → V x w nL post t ls st σ) (kf : ¬ a ≤ b → V x w nL post q ls st σ) : V x w nL post pc ls (.int b :: .int a :: st) σ := by
  subst e
  exact fun H lo a hP hS hL => lv_icmp_le h.1 h.2.1 hd ht (fun c => kt c H lo a hP hS hL) (fun c => kf c H lo a hP hS hL)
theorem v_goto (h : Cx x w cc own nL ret rm) {off : Int} {t : Nat} (hd : decode cc pc = .ok (.goto off, 3)) (ht : (pc : Int) + off = (t : Int)) (k : V x w nL post t ls st σ) : V x w nL post pc ls st σ := fun H lo a hP hS hL => lv_goto h.1 h.2.1 hd ht (k H lo a hP hS hL)
theorem v_ifnullR (h : Cx x w cc own nL ret rm) {v : Nat} {off : Int} (hd : decode cc pc = .ok (.ifnull off, 3)) (e : pc + 3 = q) (k : V x w nL post q ls st σ) : V x w nL post pc ls (.ref v :: st) σ := by
  subst e
  exact fun H lo a hP hS hL => lv_ifnull h.1 h.2.1 hd (k H lo a hP hS hL)
theorem v_ifnullN (h : Cx x w cc own nL ret rm) {off : Int} {t : Nat} (hd : decode cc pc = .ok (.ifnull off, 3)) (ht : (pc : Int) + off = (t : Int)) (k : V x w nL post t ls st σ) : V x w nL post pc ls (.null :: st) σ := fun H lo a hP hS hL => lv_ifnullN h.1 h.2.1 hd ht (k H lo a hP hS hL)
theorem v_ifnonnullR (h : Cx x w cc own nL ret rm) {v : Nat} {off : Int} {t : Nat} (hd : decode cc pc = .ok (.ifnonnull off, 3)) (ht : (pc : Int) + off = (t : Int)) (k : V x w nL post t ls st σ) : V x w nL post pc ls (.ref v :: st) σ := fun H lo a hP hS hL => lv_ifnonnull h.1 h.2.1 hd ht (k H lo a hP hS hL)
theorem v_ifnonnullN (h : Cx x w cc own nL ret rm) {off : Int} (hd : decode cc pc = .ok (.ifnonnull off, 3)) (e : pc + 3 = q) (k : V x w nL post q ls st σ) : V x w nL post pc ls (.null :: st) σ := by
  subst e
  exact fun H lo a hP hS hL => lv_ifnonnullN h.1 h.2.1 hd (k H lo a hP hS hL)
theorem v_aload_nN (h : Cx x w cc own nL ret rm) {k : Fin 4} {i : Nat} (hd : decode cc pc = .ok (.aload_n k, 1)) (e : pc + 1 = q) (hi : (k : Nat) = i) (p : Nat) (hl : ls[p]? = some (i, .null)) (kk : V x w nL post q ls (.null :: st) σ) : V x w nL post pc ls st σ := by
  subst e
  exact fun H lo a hP hS hL => lv_aload_nN h.1 h.2.1 hd hi (lv_at hL p hl) (kk H lo a hP hS hL)
theorem v_aloadN (h : Cx x w cc own nL ret rm) {i : Nat} (hd : decode cc pc = .ok (.aload i, 2)) (e : pc + 2 = q) (p : Nat) (hl : ls[p]? = some (i, .null)) (kk : V x w nL post q ls (.null :: st) σ) : V x w nL post pc ls st σ := by
  subst e
  exact fun H lo a hP hS hL => lv_aloadN h.1 h.2.1 hd (lv_at hL p hl) (kk H lo a hP hS hL)
theorem v_astore_nN (h : Cx x w cc own nL ret rm) {k : Fin 4} {i : Nat} {ls1 : List (Nat × Value)} (hd : decode cc pc = .ok (.astore_n k, 1)) (e : pc + 1 = q) (hi : (k : Nat) = i) (hn : i < nL) (hl : (i, Value.null) :: ls.filter (fun q => !(q.1 == i) && !(q.1 + 1 == i && q.2.category == 2)) = ls1) (kk : V x w nL post q ls1 st σ) : V x w nL post pc ls (.null :: st) σ := by
  subst e
  exact fun H lo a hP hS hL => lv_astore_nN h.1 h.2.1 hd hi hL hn hl (fun a2 hL2 => kk H lo a2 hP hS hL2)
theorem v_astoreN (h : Cx x w cc own nL ret rm) {i : Nat} {ls1 : List (Nat × Value)} (hd : decode cc pc = .ok (.astore i, 2)) (e : pc + 2 = q) (hn : i < nL) (hl : (i, Value.null) :: ls.filter (fun q => !(q.1 == i) && !(q.1 + 1 == i && q.2.category == 2)) = ls1) (kk : V x w nL post q ls1 st σ) : V x w nL post pc ls (.null :: st) σ := by
  subst e
  exact fun H lo a hP hS hL => lv_astoreN h.1 h.2.1 hd hL hn hl (fun a2 hL2 => kk H lo a2 hP hS hL2)
theorem v_lookup (h : Cx x w cc own nL ret rm) {dflt : Int} {ps : Array (Int × Int)} {len : Nat} {a : Int32} {off : Int} {t : Nat} (hd : decode cc pc = .ok (.lookupswitch dflt ps, len)) (hp : (ps.toList.zip (ps.toList.drop 1)).all (fun (a, next) => a.1 < next.1) = true) (ho : Op.lookupswitch.offset ps.toList dflt a.toInt = off) (ht : (pc : Int) + off = (t : Int)) (k : V x w nL post t ls st σ) : V x w nL post pc ls (.int a :: st) σ :=
  fun H lo a hP hS hL => lv_lookup h.1 h.2.1 hd hp ho ht (k H lo a hP hS hL)
theorem v_tableOut (h : Cx x w cc own nL ret rm) {dflt lo hi : Int} {offs : Array Int} {len : Nat} {a : Int32} {t : Nat} (hd : decode cc pc = .ok (.tableswitch dflt lo hi offs, len)) (ho : a.toInt < lo ∨ hi < a.toInt) (ht : (pc : Int) + dflt = (t : Int)) (k : V x w nL post t ls st σ) : V x w nL post pc ls (.int a :: st) σ :=
  fun H lo a hP hS hL => lv_tableOut h.1 h.2.1 hd ho ht (k H lo a hP hS hL)
theorem v_tableIn (h : Cx x w cc own nL ret rm) {dflt lo hi : Int} {offs : Array Int} {len : Nat} {a : Int32} {off : Int} {t : Nat} (hd : decode cc pc = .ok (.tableswitch dflt lo hi offs, len)) (h1 : ¬ a.toInt < lo) (h2 : ¬ hi < a.toInt) (ho : offs[(a.toInt - lo).toNat]? = some off) (ht : (pc : Int) + off = (t : Int)) (k : V x w nL post t ls st σ) : V x w nL post pc ls (.int a :: st) σ :=
  fun H lo a hP hS hL => lv_tableIn h.1 h.2.1 hd h1 h2 ho ht (k H lo a hP hS hL)
theorem Cx.ok (h : Cx x w cc own nL ret rm) {c : Cond} (hc : c ∈ bGood) : c.before x.2.2.2.2.2.2.1 x.2.2.2.2.1 = true := by
  obtain ⟨c0, hts⟩ := h.2.2.2.1
  exact hts c (List.mem_cons_of_mem _ hc)
theorem Cx.ow (h : Cx x w cc own nL ret rm) : x.2.2.2.2.1.vm.findClass own = some x.2.2.2.2.2.1.cls := h.2.2.2.2.1
theorem Cx.ev (h : Cx x w cc own nL ret rm) : b_EV w x.2.2.2.2.1 := h.2.2.2.2.2.2.2.2
theorem Cx.ml (h : Cx x w cc own nL ret rm) : x.2.2.2.2.2.2.2.2.2.maxLocals = nL := h.2.2.2.2.2.1
theorem Cx.rmq (h : Cx x w cc own nL ret rm) : x.2.2.2.1 = rm := h.2.2.2.2.2.2.2.1
theorem Cx.nest (h : Cx x w cc own nL ret rm) {c : Cond} (hc : c ∈ bNl) : va_Nw c x.2.2.2.2.1 := h.ev.2.1 c hc
theorem v_ldc (h : Cx x w cc own nL ret rm) {index : Nat} {v : Int32} (hw : Jvm.Cond.constant own index v ∈ bGood) (hd : decode cc pc = .ok (.ldc index, 2)) (e : pc + 2 = q) (k : V x w nL post q ls (.int v :: st) σ) : V x w nL post pc ls st σ := by
  subst e
  exact fun H lo a hP hS hL => lv_ldc h.1 h.2.1 h.ow (h.ok hw) hd (k H lo a hP hS hL)
theorem v_ldcw (h : Cx x w cc own nL ret rm) {index : Nat} {v : Int32} (hw : Jvm.Cond.constant own index v ∈ bGood) (hd : decode cc pc = .ok (.ldc_w index, 3)) (e : pc + 3 = q) (k : V x w nL post q ls (.int v :: st) σ) : V x w nL post pc ls st σ := by
  subst e
  exact fun H lo a hP hS hL => lv_ldcw h.1 h.2.1 h.ow (h.ok hw) hd (k H lo a hP hS hL)
theorem v_ldc2 (h : Cx x w cc own nL ret rm) {index : Nat} {v : Int64} (hw : Jvm.Cond.constantLong own index v ∈ bGood) (hd : decode cc pc = .ok (.ldc2_w index, 3)) (e : pc + 3 = q) (k : V x w nL post q ls (.long v :: st) σ) : V x w nL post pc ls st σ := by
  subst e
  exact fun H lo a hP hS hL => lv_ldc2 h.1 h.2.1 h.ow (h.ok hw) hd (k H lo a hP hS hL)
/-- the ends -/
theorem v_zret {ty0 : FieldType} (h : Cx x w cc own nL (some ty0) rm) {v : Int32} (hn : narrow ty0 (.int v) = .int v) (hd : decode cc pc = .ok (.ireturn, 1)) (hp : post (some (.int v)) σ) : V x w nL post pc ls [.int v] σ :=
  fun H lo a hP hS hL => W.zret h.1 h.2.1 h.2.2.1 hn (fun t ht hW => ⟨⟨some (.int v), σ, rfl, hp, by rw [ht]; exact hP⟩, hS.F ht⟩) hS.2.2 hd h.2.2.2.2.2.2.1
theorem v_iret (h : Cx x w cc own nL (some .int) rm) {v : Int32} (hd : decode cc pc = .ok (.ireturn, 1)) (hp : post (some (.int v)) σ) : V x w nL post pc ls [.int v] σ := v_zret h rfl hd hp
theorem v_vret (h : Cx x w cc own nL none rm) (hd : decode cc pc = .ok (.return_, 1)) (hp : post none σ) : V x w nL post pc ls [] σ :=
  fun H lo a hP hS hL => W.vret h.1 h.2.1 h.2.2.1 (fun t ht hW => ⟨⟨none, σ, rfl, hp, by rw [ht]; exact hP⟩, hS.F ht⟩) hS.2.2 hd h.2.2.2.2.2.2.1
theorem v_lret (h : Cx x w cc own nL (some .long) rm) {v : Int64} (hd : decode cc pc = .ok (.lreturn, 1)) (hp : post (some (.long v)) σ) : V x w nL post pc ls [.long v] σ :=
  fun H lo a hP hS hL => W.lret h.1 h.2.1 h.2.2.1 (fun t ht hW => ⟨⟨some (.long v), σ, rfl, hp, by rw [ht]; exact hP⟩, hS.F ht⟩) hS.2.2 hd h.2.2.2.2.2.2.1
theorem v_aret {rt : FieldType} (h : Cx x w cc own nL (some rt) rm) {v : Value} (hrt : (∃ n, rt = .object n) ∨ ∃ t, rt = .array t) (hv : v = .null ∨ ∃ a, v = .ref a) (hd : decode cc pc = .ok (.areturn, 1)) (hp : post (some v) σ) : V x w nL post pc ls [v] σ :=
  fun H lo a hP hS hL => W.aret h.1 h.2.1 h.2.2.1 hrt hv (fun t ht hW => ⟨⟨some v, σ, rfl, hp, by rw [ht]; exact hP⟩, hS.F ht⟩) hS.2.2 hd h.2.2.2.2.2.2.1
/-- fields: a class by its place in vwCl -/
def b_cls (ci : Nat) (C : String) (T : u_T) (N : Nat) (ty : Nat → FieldType) : Prop := (∀ q ∈ u_ws C T N, q ∈ bGood) ∧ vwCl[ci]? = some (C, T, N) ∧ (∀ k, k < N → parseFieldDescriptor (T k).2.2.1 = some (ty k)) ∧ (∀ a, a < N → ∀ b, b < N → a ≠ b → (T a).2.1 ≠ (T b).2.1)
theorem b_cell_o {w : bw} {j ci N : Nat} {r : Nat → Option Nat} {f : Nat → Int32} (h : b_sh w j = .inr (ci, N, r)) : b_cell w j f = .inr (ci, b_vals w N r f) := by
  unfold b_cell; rw [h]; rfl
theorem b_cell_i {w : bw} {j n : Nat} {f : Nat → Int32} (h : b_sh w j = .inl (.inl n)) : b_cell w j f = .inl (w.2.1 0, n, .inl f) := by
  unfold b_cell; rw [h]; rfl
theorem b_cell_r {w : bw} {j t n : Nat} {r : Nat → Option Nat} {f : Nat → Int32} (h : b_sh w j = .inl (.inr (t, n, r))) : b_cell w j f = .inl (w.2.1 t, n, .inr (.inr (.inr (.inr (b_ref w r))))) := by
  unfold b_cell; rw [h]; rfl
theorem b_vals_get {w : bw} {N : Nat} {r : Nat → Option Nat} {f : Nat → Int32} {k : Nat} (hk : k < N) : (b_vals w N r f)[k]? = some (b_val w r f k) := by
  unfold b_vals; rw [List.getElem?_map, List.getElem?_range hk]; rfl
theorem b_vals_set {w : bw} {N : Nat} {r : Nat → Option Nat} {f : Nat → Int32} {k : Nat} {v : Int32} (hr : r k = none) : (b_vals w N r f).set k (.int v) = b_vals w N r (upd f k v) := by
  apply List.ext_getElem?
  intro i
  by_cases hi : i < N
  · by_cases e : i = k
    · subst e
      rw [List.getElem?_set_self (by simpa [b_vals] using hi), b_vals_get hi]
      simp [b_val, hr, upd]
    · rw [List.getElem?_set_ne (Ne.symm e), b_vals_get hi, b_vals_get hi]
      unfold b_val
      cases r i <;> simp [upd, e]
  · rw [List.getElem?_eq_none (by simpa [b_vals] using hi), List.getElem?_eq_none (by simpa [b_vals] using hi)]
theorem v_get (h : Cx x w cc own nL ret rm) {C : String} {T : u_T} {N ci j k index : Nat} {ty : Nat → FieldType} {r : Nat → Option Nat} {v : Value} (hc : b_cls ci C T N ty) (hj : j < b_K w) (hsh : b_sh w j = .inr (ci, N, r)) (hk : k < N) (hl : Cond.fieldLink own index (T k).1 (T k).2.1 (T k).2.2.1 ∈ bGood) (hv : b_val w r (σ j) k = v) (hd : decode cc pc = .ok (.getfield index, 3)) (e : pc + 3 = q)
    (kk : V x w nL post q ls (v :: st) σ) : V x w nL post pc ls (.ref (b_ad w j) :: st) σ := by
  subst e
  obtain ⟨c0, hts⟩ := h.2.2.2.1
  exact fun H lo a hP hS hL => va_get (Ts := c0 :: bGood) h.1 h.2.1 hts (fun q hq => List.mem_cons_of_mem _ (hc.1 q hq)) h.ow h.ev.1 hP j (by rw [b_wl_get hj, b_cell_o hsh]) hc.2.1 k hk (h.ok hl) (fun _ h9 => h9) (by rw [b_vals_get hk, hv]) hd (kk H lo a hP hS hL)
theorem v_getN (h : Cx x w cc own nL ret rm) {C host : String} {T : u_T} {N ci j k index : Nat} {ty : Nat → FieldType} {r : Nat → Option Nat} {v : Value} (hc : b_cls ci C T N ty) (hj : j < b_K w) (hsh : b_sh w j = .inr (ci, N, r)) (hk : k < N) (hl : Cond.fieldLinkNest own index (T k).1 (T k).2.1 (T k).2.2.1 host ∈ bNl) (hv : b_val w r (σ j) k = v) (hd : decode cc pc = .ok (.getfield index, 3)) (e : pc + 3 = q)
    (kk : V x w nL post q ls (v :: st) σ) : V x w nL post pc ls (.ref (b_ad w j) :: st) σ := by
  subst e
  obtain ⟨c0, hts⟩ := h.2.2.2.1
  exact fun H lo a hP hS hL => va_getN (Ts := c0 :: bGood) h.1 h.2.1 hts (fun q hq => List.mem_cons_of_mem _ (hc.1 q hq)) h.ow h.ev.1 hP j (by rw [b_wl_get hj, b_cell_o hsh]) hc.2.1 k hk (va_Nw.use rfl (h.nest hl)) (fun _ h9 => h9) (by rw [b_vals_get hk, hv]) hd (kk H lo a hP hS hL)
theorem b_put_w {w : bw} {σ : bSt} {j k ci N : Nat} {r : Nat → Option Nat} {v : Int32} (hsh : b_sh w j = .inr (ci, N, r)) (hr : r k = none) : (b_wl w σ).set j (b_ad w j, .inr (ci, (b_vals w N r (σ j)).set k (.int v))) = b_wl w (b_up σ j k v) := by
  rw [b_vals_set hr, ← b_cell_o hsh, b_wl_set]; rfl
theorem v_put (h : Cx x w cc own nL ret rm) {C : String} {T : u_T} {N ci j k index : Nat} {ty : Nat → FieldType} {r : Nat → Option Nat} {v : Int32} (hc : b_cls ci C T N ty) (hj : j < b_K w) (hsh : b_sh w j = .inr (ci, N, r)) (hk : k < N) (hr : r k = none) (hl : Cond.fieldLink own index (T k).1 (T k).2.1 (T k).2.2.1 ∈ bGood) (hf : (T k).2.2.2 = false) (hn : narrow (ty k) (.int v) = .int v ∧ fits (ty k) (.int v) = true) (hd : decode cc pc = .ok (.putfield index, 3)) (e : pc + 3 = q)
    (kk : V x w nL post q ls st (b_up σ j k v)) : V x w nL post pc ls (.int v :: .ref (b_ad w j) :: st) σ := by
  subst e
  obtain ⟨c0, hts⟩ := h.2.2.2.1
  exact fun H lo a hP hS hL => va_put (Ts := c0 :: bGood) h.1 h.2.1 hts (fun q hq => List.mem_cons_of_mem _ (hc.1 q hq)) ty hc.2.2.1 hc.2.2.2 h.ow h.ev.1 hP (b_wl_D h.ev.2.2.1) hS j (by rw [b_wl_get hj, b_cell_o hsh]) hc.2.1 k hk (h.ok hl) (fun _ h9 => h9) hf (hc.2.2.1 k hk) hn.1 hn.2 (by simpa [b_vals] using hk) hd (fun H1 lo1 hP1 _ hS1 => kk H1 lo1 a (by rw [← b_put_w hsh hr]; exact hP1) hS1 hL)
theorem v_putN (h : Cx x w cc own nL ret rm) {C host : String} {T : u_T} {N ci j k index : Nat} {ty : Nat → FieldType} {r : Nat → Option Nat} {v : Int32} (hc : b_cls ci C T N ty) (hj : j < b_K w) (hsh : b_sh w j = .inr (ci, N, r)) (hk : k < N) (hr : r k = none) (hl : Cond.fieldLinkNest own index (T k).1 (T k).2.1 (T k).2.2.1 host ∈ bNl) (hf : (T k).2.2.2 = false) (hn : narrow (ty k) (.int v) = .int v ∧ fits (ty k) (.int v) = true) (hd : decode cc pc = .ok (.putfield index, 3)) (e : pc + 3 = q)
    (kk : V x w nL post q ls st (b_up σ j k v)) : V x w nL post pc ls (.int v :: .ref (b_ad w j) :: st) σ := by
  subst e
  obtain ⟨c0, hts⟩ := h.2.2.2.1
  exact fun H lo a hP hS hL => va_putN (Ts := c0 :: bGood) h.1 h.2.1 hts (fun q hq => List.mem_cons_of_mem _ (hc.1 q hq)) ty hc.2.2.1 hc.2.2.2 h.ow h.ev.1 hP (b_wl_D h.ev.2.2.1) hS j (by rw [b_wl_get hj, b_cell_o hsh]) hc.2.1 k hk (va_Nw.use rfl (h.nest hl)) (fun _ h9 => h9) hf (hc.2.2.1 k hk) hn.1 hn.2 (by simpa [b_vals] using hk) hd (fun H1 lo1 hP1 _ hS1 => kk H1 lo1 a (by rw [← b_put_w hsh hr]; exact hP1) hS1 hL)
theorem v_iald (h : Cx x w cc own nL ret rm) {j n k : Nat} {i : Int32} (hj : j < b_K w) (hsh : b_sh w j = .inl (.inl n)) (hin : vp_in i n) (hk : i.toNatClampNeg = k) (hd : decode cc pc = .ok (.iaload, 1)) (e : pc + 1 = q)
    (kk : V x w nL post q ls (.int (σ j k) :: st) σ) : V x w nL post pc ls (.int i :: .ref (b_ad w j) :: st) σ := by
  subst e
  subst hk
  exact fun H lo a hP hS hL => va_iald h.1 h.2.1 h.ev.1 hP j 0 (by rw [b_wl_get hj, b_cell_i hsh]) rfl hin hd (kk H lo a hP hS hL)
theorem v_iast (h : Cx x w cc own nL ret rm) {j n k : Nat} {i v : Int32} (hj : j < b_K w) (hsh : b_sh w j = .inl (.inl n)) (hin : vp_in i n) (hk : i.toNatClampNeg = k) (hd : decode cc pc = .ok (.iastore, 1)) (e : pc + 1 = q)
    (kk : V x w nL post q ls st (b_up σ j k v)) : V x w nL post pc ls (.int v :: .int i :: .ref (b_ad w j) :: st) σ := by
  subst e
  subst hk
  exact fun H lo a hP hS hL => va_iast h.1 h.2.1 h.ev.1 hP (b_wl_D h.ev.2.2.1) hS j 0 (by rw [b_wl_get hj, b_cell_i hsh]) rfl hin hd (fun H1 lo1 hP1 _ hS1 => kk H1 lo1 a (by unfold b_up; rw [← b_wl_set, b_cell_i hsh]; exact hP1) hS1 hL)
theorem v_aald (h : Cx x w cc own nL ret rm) {j t n j2 : Nat} {r : Nat → Option Nat} {ty : FieldType} {cA : ClassId} {i : Int32} (hj : j < b_K w) (hsh : b_sh w j = .inl (.inr (t, n, r))) (ht : (b_ty w)[t]? = some (w.2.1 t, ty)) (hty : ty.isReference = true) (hin : vp_in i n) (hr : r i.toNatClampNeg = some j2) (hd : decode cc pc = .ok (.aaload, 1)) (e : pc + 1 = q)
    (kk : V x w nL post q ls (.ref (b_ad w j2) :: st) σ) : V x w nL post pc ls (.int i :: .ref (b_ad w j) :: st) σ := by
  subst e
  have hlt : i.toNatClampNeg < n := Nat.not_le.mp fun q => hin (Or.inr q)
  exact fun H lo a hP hS hL => W.aald (v := .ref (b_ad w j2)) (ty := ty) h.1 h.2.1 (show H[b_ad w j]? = some (vp_cell (w.2.1 t) (n, .inr (.inr (.inr (.inr (b_ref w r)))))) from hP j (b_ad w j, .inl (w.2.1 t, n, .inr (.inr (.inr (.inr (b_ref w r)))))) (by rw [b_wl_get hj, b_cell_r hsh])) ((h.ev.1.2 t _ ht).1 n (fun k => va_rf (b_ref w r k))) hty (fun q => by cases q) (by show ¬ (i < 0 ∨ (arrV _ _ _).slots.size ≤ _); rw [arrV_size]; exact hin) (by show (arrV _ _ _).slots[_]? = _; rw [arrV_read _ _ hlt]; simp [b_ref, hr, va_rf]) rfl rfl hd (kk H lo a hP hS hL)
theorem v_aleni (h : Cx x w cc own nL ret rm) {j n : Nat} {v : Int32} (hj : j < b_K w) (hsh : b_sh w j = .inl (.inl n)) (hv : Int32.ofNat n = v) (hd : decode cc pc = .ok (.arraylength, 1)) (e : pc + 1 = q)
    (kk : V x w nL post q ls (.int v :: st) σ) : V x w nL post pc ls (.ref (b_ad w j) :: st) σ := by
  subst e
  exact fun H lo a hP hS hL => va_alen h.1 h.2.1 h.ev.1 hP j 0 (by rw [b_wl_get hj, b_cell_i hsh]) rfl hv hd (kk H lo a hP hS hL)
theorem v_alenr (h : Cx x w cc own nL ret rm) {j t n : Nat} {r : Nat → Option Nat} {ty : FieldType} {v : Int32} (hj : j < b_K w) (hsh : b_sh w j = .inl (.inr (t, n, r))) (ht : (b_ty w)[t]? = some (w.2.1 t, ty)) (hv : Int32.ofNat n = v) (hd : decode cc pc = .ok (.arraylength, 1)) (e : pc + 1 = q)
    (kk : V x w nL post q ls (.int v :: st) σ) : V x w nL post pc ls (.ref (b_ad w j) :: st) σ := by
  subst e
  exact fun H lo a hP hS hL => va_alen h.1 h.2.1 h.ev.1 hP j t (by rw [b_wl_get hj, b_cell_r hsh]) ht hv hd (kk H lo a hP hS hL)
/-- what a method owes to its callers: the words of it -/
def b_Cal (y : MethodName) (bytes : ByteArray) (maxL : Nat) (ret : Option FieldType) (n : Nat) : Prop := Cond.code y bytes maxL ret ∈ bGood ∧ Cond.initialized y.cls ∈ bGood ∧ (y.cls ≠ "java/lang/invoke/MethodHandle" ∧ y.cls ≠ "java/lang/invoke/VarHandle" ∧ (parseMethodDescriptor y.desc).map (fun d => d.parameters.length) = some n)
def b_CalV (y : MethodName) : Prop := Cond.instanceMethod y ∈ bGood ∧ Cond.selects y.cls y y ∈ bGood
def b_fit (rm' : Room) (maxL : Nat) (rm : Room) : Prop := rm'.cells = 0 ∧ rm'.slots = 0 ∧ rm'.frames + 1 ≤ rm.frames ∧ 8 + (maxL + 11) + rm'.locals ≤ rm.locals
theorem b_goes {p : Program} {l : Launch} {e : Env} {R : Room} {s : State} {m : MethodId} {args : Array Value} {below : List Frame} {meth : Method} {c : Code} {H : Heap} {locs : List Loc} {w : bw} {a : Array Slot} {aa : Array Value} {st0 rest : List Value} {pc nL : Nat} {post' : Option Value → bSt → Prop} {Q : State → Prop} {ls : List (Nat × Value)}
    (hr : va_Run p l e R s m args below meth c H locs 0 0 0 0 (F0 m pc a st0) rest (QV w post' aa) (b_A w)) (hS : va_S (b_A w) s.heap H locs) (hL : lv_has a nL ls)
    (kk : ∀ (v : Option Value) (σ' : bSt), post' v σ' → ∀ (H : Heap) (locs : List Loc) (a : Array Slot), va_P w.1 vwCl (b_wl w σ') H → va_S (b_A w) s.heap H locs → lv_has a nL ls → W p l e R s m args below meth c H locs 0 0 Q (F0 m (pc + 3) a (v.toList ++ rest))) : W p l e R s m args below meth c H locs 0 0 Q (F0 m pc a st0) := by
  intro T hT X
  obtain ⟨v, st₀, t, T', L, h0, X', hf, e1, e2, ⟨⟨v', σ', hv, hp, hb⟩, hz, hk⟩, st⟩ := hr T hT X
  cases hv
  rw [h0] at hz hk
  obtain ⟨t2, a1, b1⟩ := kk v σ' hp T'.heap (locs ++ L) a (by rw [e1]; exact hb)
    ⟨Nat.le_trans hS.1 (by rw [e1]; exact hz), fun q h1 h2 => by rw [e1, hk q (Nat.lt_of_lt_of_le h1 hS.1) h2]; exact hS.2.1 q h1 h2, fun q hq => by
      rcases List.mem_append.mp hq with h | h
      · exact hS.2.2 q h
      · exact hf _ h⟩ hL T' rfl X'
  exact ⟨t2, st t2 a1, b1⟩
theorem Cx.pre (h : Cx x w cc own nL ret rm) {As : List Value} {H : Heap} {lo : List Loc} (hP : va_P w.1 vwCl (b_wl w σ) H) (hS : va_S (b_A w) x.2.2.2.2.1.heap H lo) : ∀ U : State, U.heap = H → x.2.2.2.2.1.WarmedH U.vm → PV w As σ As.toArray U := fun U hU hW => ⟨rfl, by rw [hU]; exact hP, b_EV_mv hW (fun a h1 h2 => by rw [hU]; exact hS.2.1 a h1 h2) h.ev⟩
theorem Cx.calB (h : Cx x w cc own nL ret rm) {y : MethodName} {bytes : ByteArray} {maxL n index : Nat} {ret' : Option FieldType} {rm' : Room} (hc : b_Cal y bytes maxL ret' n) (hl : Cond.methodLink own index y ∈ bGood) (hr : b_fit rm' maxL rm) : CallB x.2.2.2.1 x.2.2.2.2.1 x.2.2.2.2.2.2.1 own index y bytes maxL ret' (Cond.code y bytes maxL ret' :: bGood) rm' 0 0 n := by
  obtain ⟨c0, hts⟩ := h.2.2.2.1
  exact callB_of (Ts := c0 :: bGood) n hts (bGoodIn (List.mem_filter.mp hc.1).2 hc.1) rfl hr.1 hr.2.1 (h.ok hc.2.1) (h.ok hl) hc.2.2 (by rw [h.rmq]; exact hr.2.2)
theorem Cx.calN (h : Cx x w cc own nL ret rm) {y : MethodName} {host : String} {bytes : ByteArray} {maxL n index : Nat} {ret' : Option FieldType} {rm' : Room} (hc : b_Cal y bytes maxL ret' n) (hl : Cond.methodLinkNest own index y host ∈ bNl) (hr : b_fit rm' maxL rm) : va_CN x.2.2.2.1 x.2.2.2.2.1 x.2.2.2.2.2.2.1 own index y host bytes maxL ret' (Cond.code y bytes maxL ret' :: bGood) rm' 0 0 n := by
  obtain ⟨c0, hts⟩ := h.2.2.2.1
  exact va_cnB (Ts := c0 :: bGood) n hts (bGoodIn (List.mem_filter.mp hc.1).2 hc.1) rfl hr.1 hr.2.1 (h.nest hl) (h.ok hc.2.1) hc.2.2 (by rw [h.rmq]; exact hr.2.2)
theorem v_callV (h : Cx x w cc own nL ret rm) {y : MethodName} {bytes : ByteArray} {maxL n j ci N index : Nat} {ret' : Option FieldType} {rm' : Room} {post' : Option Value → bSt → Prop} {As rest st0 : List Value} {r : Nat → Option Nat}
    (hM : MV y bytes maxL ret' rm' w (.ref (b_ad w j) :: As) σ post') (hc : b_Cal y bytes maxL ret' n) (hcv : b_CalV y) (hl : Cond.methodLink own index y ∈ bGood) (hr : b_fit rm' maxL rm) (hn : As.length = n) (hj : j < b_K w) (hsh : b_sh w j = .inr (ci, N, r)) (hcl : ∃ T N', vwCl[ci]? = some (y.cls, T, N'))
    (hst : st0 = As.reverse ++ .ref (b_ad w j) :: rest) (hcat : (rest.map fun v => v.category).sum ≤ 8) (hd : decode cc pc = .ok (.invokevirtual index, 3)) (e : pc + 3 = q)
    (kk : ∀ (v : Option Value) (σ' : bSt), post' v σ' → V x w nL post q ls (v.toList ++ rest) σ') : V x w nL post pc ls st0 σ := by
  subst e
  obtain ⟨T, N', hcl⟩ := hcl
  obtain ⟨c0, hts⟩ := id h.2.2.2.1
  exact fun H lo a hP hS hL => b_goes (va_runV (As := As) (rest := rest) (Ts := c0 :: bGood) ⟨h.1, h.2.1, h.ml, h.ow, hts⟩ (hM _) ⟨h.calB hc hl hr, h.ok hcv.1, h.ok hcv.2⟩ ⟨PV_blind, va_recv h.ev.1 hP (ci := ci) (q0 := j) hcl (by rw [b_wl_get hj, b_cell_o hsh]), h.pre hP hS⟩ rfl hn hL.1 hst (lv_room hcat) hd ⟨Nat.zero_le _, Nat.zero_le _⟩) hS hL (fun v σ' hp => kk v σ' hp)
theorem v_callVN (h : Cx x w cc own nL ret rm) {y : MethodName} {host : String} {bytes : ByteArray} {maxL n j ci N index : Nat} {ret' : Option FieldType} {rm' : Room} {post' : Option Value → bSt → Prop} {As rest st0 : List Value} {r : Nat → Option Nat}
    (hM : MV y bytes maxL ret' rm' w (.ref (b_ad w j) :: As) σ post') (hc : b_Cal y bytes maxL ret' n) (hcv : b_CalV y) (hl : Cond.methodLinkNest own index y host ∈ bNl) (hr : b_fit rm' maxL rm) (hn : As.length = n) (hj : j < b_K w) (hsh : b_sh w j = .inr (ci, N, r)) (hcl : ∃ T N', vwCl[ci]? = some (y.cls, T, N'))
    (hst : st0 = As.reverse ++ .ref (b_ad w j) :: rest) (hcat : (rest.map fun v => v.category).sum ≤ 8) (hd : decode cc pc = .ok (.invokevirtual index, 3)) (e : pc + 3 = q)
    (kk : ∀ (v : Option Value) (σ' : bSt), post' v σ' → V x w nL post q ls (v.toList ++ rest) σ') : V x w nL post pc ls st0 σ := by
  subst e
  obtain ⟨T, N', hcl⟩ := hcl
  obtain ⟨c0, hts⟩ := id h.2.2.2.1
  exact fun H lo a hP hS hL => b_goes (va_runVN (As := As) (rest := rest) (Ts := c0 :: bGood) ⟨h.1, h.2.1, h.ml, h.ow, hts⟩ (hM _) ⟨h.calN hc hl hr, h.ok hcv.1, h.ok hcv.2⟩ ⟨PV_blind, va_recv h.ev.1 hP (ci := ci) (q0 := j) hcl (by rw [b_wl_get hj, b_cell_o hsh]), h.pre hP hS⟩ rfl hn hL.1 hst (lv_room hcat) hd ⟨Nat.zero_le _, Nat.zero_le _⟩) hS hL (fun v σ' hp => kk v σ' hp)
theorem v_callS (h : Cx x w cc own nL ret rm) {y : MethodName} {bytes : ByteArray} {maxL n index : Nat} {ret' : Option FieldType} {rm' : Room} {post' : Option Value → bSt → Prop} {As rest st0 : List Value}
    (hM : MV y bytes maxL ret' rm' w As σ post') (hc : b_Cal y bytes maxL ret' n) (hcs : Cond.static y ∈ bGood) (hl : Cond.methodLink own index y ∈ bGood) (hr : b_fit rm' maxL rm) (hn : As.length = n)
    (hst : st0 = As.reverse ++ rest) (hcat : (rest.map fun v => v.category).sum ≤ 8) (hd : decode cc pc = .ok (.invokestatic index, 3)) (e : pc + 3 = q)
    (kk : ∀ (v : Option Value) (σ' : bSt), post' v σ' → V x w nL post q ls (v.toList ++ rest) σ') : V x w nL post pc ls st0 σ := by
  subst e
  obtain ⟨c0, hts⟩ := id h.2.2.2.1
  exact fun H lo a hP hS hL => b_goes (va_runS (As := As) (rest := rest) (Ts := c0 :: bGood) ⟨h.1, h.2.1, h.ml, h.ow, hts⟩ (hM _) ⟨h.calB hc hl hr, h.ok hcs⟩ ⟨PV_blind, h.pre hP hS⟩ rfl hn hL.1 hst (lv_room hcat) hd ⟨Nat.zero_le _, Nat.zero_le _⟩) hS hL (fun v σ' hp => kk v σ' hp)
theorem v_callSN (h : Cx x w cc own nL ret rm) {y : MethodName} {host : String} {bytes : ByteArray} {maxL n index : Nat} {ret' : Option FieldType} {rm' : Room} {post' : Option Value → bSt → Prop} {As rest st0 : List Value}
    (hM : MV y bytes maxL ret' rm' w As σ post') (hc : b_Cal y bytes maxL ret' n) (hcs : Cond.static y ∈ bGood) (hl : Cond.methodLinkNest own index y host ∈ bNl) (hr : b_fit rm' maxL rm) (hn : As.length = n)
    (hst : st0 = As.reverse ++ rest) (hcat : (rest.map fun v => v.category).sum ≤ 8) (hd : decode cc pc = .ok (.invokestatic index, 3)) (e : pc + 3 = q)
    (kk : ∀ (v : Option Value) (σ' : bSt), post' v σ' → V x w nL post q ls (v.toList ++ rest) σ') : V x w nL post pc ls st0 σ := by
  subst e
  obtain ⟨c0, hts⟩ := id h.2.2.2.1
  exact fun H lo a hP hS hL => b_goes (va_runSN (As := As) (rest := rest) (Ts := c0 :: bGood) ⟨h.1, h.2.1, h.ml, h.ow, hts⟩ (hM _) ⟨h.calN hc hl hr, h.ok hcs, trivial⟩ ⟨PV_blind, h.pre hP hS⟩ rfl hn hL.1 hst (lv_room hcat) hd ⟨Nat.zero_le _, Nat.zero_le _⟩) hS hL (fun v σ' hp => kk v σ' hp)
end BV
