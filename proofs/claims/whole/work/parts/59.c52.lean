/-! a row of rows is made: the outer one first, then each inner one is made and laid into it -/
def grO (c : ClassId) (N h i : Nat) : Cell := arrV c N (fun j => va_rf (if j < i then some (h + 1 + j) else none))
def grI (d : ClassId) (M : Nat) : Cell := arrV d M (fun _ => .int 0)
theorem grO_0 {c : ClassId} {N h : Nat} : ({ cls := c, slots := Array.replicate N .null, vm := .none } : Cell) = grO c N h 0 := by
  rw [arrV_new]
  unfold grO
  refine congrArg (arrV c N) (funext fun j => ?_)
  rw [if_neg (Nat.not_lt_zero j)]
  rfl
theorem grO_s {c : ClassId} {N h i : Nat} : (grO c N h i).setSlot i (.ref (h + 1 + i)) = grO c N h (i + 1) := by
  unfold grO
  rw [arrV_store]
  refine congrArg (arrV c N) (funext fun j => ?_)
  unfold updV
  by_cases e : j = i
  · rw [if_pos e, e, if_pos (Nat.lt_succ_self i)]
    rfl
  · rw [if_neg e]
    by_cases h2 : j < i
    · show va_rf (if j < i then some (h + 1 + j) else none) = _
      rw [if_pos h2, if_pos (Nat.lt_succ_of_lt h2)]
    · show va_rf (if j < i then some (h + 1 + j) else none) = _
      rw [if_neg h2, if_neg (by omega)]
theorem grO_z {c : ClassId} {N h i : Nat} : (grO c N h i).slots.size = N := arrV_size _ _ _
theorem grI_z {d : ClassId} {M : Nat} : (grI d M).slots.size = M := arrV_size _ _ _
/-- i inner rows are made -/
def grS (s : State) (c d : ClassId) (N M : Nat) : Nat → State
  | 0 => s.pushCell (grO c N s.heap.size 0)
  | i + 1 => ((grS s c d N M i).pushCell (grI d M)).setCell s.heap.size ((grO c N s.heap.size i).setSlot i (.ref (s.heap.size + 1 + i)))
theorem gx_all (s : State) (c d : ClassId) (N M : Nat) : ∀ i, (grS s c d N M i).heap.size = s.heap.size + 1 + i ∧ (grS s c d N M i).heap[s.heap.size]? = some (grO c N s.heap.size i) ∧ (grS s c d N M i).vm = s.vm ∧ (grS s c d N M i).slotsUsed = s.slotsUsed + N + i * M ∧
    (∀ a, a < s.heap.size → (grS s c d N M i).heap[a]? = s.heap[a]?) ∧ ∀ j, j < i → (grS s c d N M i).heap[s.heap.size + 1 + j]? = some (grI d M)
  | 0 => by
    refine ⟨by simp [grS], by simp [grS], rfl, ?_, fun a ha => State.heap_pushCell_of_lt _ _ ha, fun j hj => absurd hj (Nat.not_lt_zero j)⟩
    simp [grS, grO_z]
  | i + 1 => by
    obtain ⟨h1, h2, h3, h4, h5, h6⟩ := gx_all s c d N M i
    have hlt : s.heap.size < (grS s c d N M i).heap.size := by omega
    have hc : ((grS s c d N M i).pushCell (grI d M)).heap[s.heap.size]? = some (grO c N s.heap.size i) := by rw [State.heap_pushCell_of_lt (h := hlt)]; exact h2
    have hne : ∀ a, a ≠ s.heap.size → (grS s c d N M (i + 1)).heap[a]? = ((grS s c d N M i).pushCell (grI d M)).heap[a]? := fun a ha => State.heap_setCell_other (Ne.symm ha)
    refine ⟨?_, ?_, by simp [grS, h3], ?_, fun a ha => ?_, fun j hj => ?_⟩
    · show (((grS s c d N M i).pushCell (grI d M)).setCell _ _).heap.size = _
      simp [State.setCell, h1]
      omega
    · have := State.heap_setCell_self (x := (grO c N s.heap.size i).setSlot i (.ref (s.heap.size + 1 + i))) hc
      rw [grO_s] at this
      show (((grS s c d N M i).pushCell (grI d M)).setCell s.heap.size ((grO c N s.heap.size i).setSlot i (.ref (s.heap.size + 1 + i)))).heap[s.heap.size]? = _
      rw [grO_s]
      exact this
    · simp [grS, h4, grI_z, Nat.succ_mul]
      omega
    · rw [hne a (Nat.ne_of_lt ha), State.heap_pushCell_of_lt (h := Nat.lt_trans ha hlt)]
      exact h5 a ha
    · rw [hne _ (by omega)]
      rcases Nat.lt_or_ge j i with z | z
      · rw [State.heap_pushCell_of_lt (h := show s.heap.size + 1 + j < (grS s c d N M i).heap.size by omega)]
        exact h6 j z
      · have e : s.heap.size + 1 + j = (grS s c d N M i).heap.size := by omega
        rw [e]
        exact State.heap_pushCell_size _ _
theorem gx_top (s : State) (f : JFrame) (c d : ClassId) (N M : Nat) : ∀ i, grS (s.setTop f) c d N M i = (grS s c d N M i).setTop f
  | 0 => rfl
  | i + 1 => by
    show ((grS (s.setTop f) c d N M i).pushCell _).setCell (s.setTop f).heap.size _ = _
    rw [gx_top s f c d N M i]
    rfl
section GRW
variable {E : CtlPost} {e : Env} {b : Bool} {acts : List Action} {s : State}
theorem gx_fit {t : FieldType} {v : Value} (ht : t.isReference = true) (hv : v = .null ∨ ∃ a, v = .ref a) : fits t v = true := by
  rcases hv with rfl | ⟨a, rfl⟩ <;> cases t <;> first | rfl | exact absurd ht (by decide)
/-- an array of which every slot is the type's own zero -/
theorem gx_new {c comp : ClassId} {k : Class} {ty : FieldType} {len : Nat} {v : Value} (hk : s.vm.classes[c]? = some k) (hkd : k.kind = .array comp ty) (h1 : len ≤ e.platform.arrayLengthLimit) (h2 : len * componentBytes ty ≤ e.platform.maxHeapBytes) (hf : fits ty v = true) (hd : v.isDefault = true)
    (hc : s.heap.size < e.platform.maxCells) (hs : s.slotsUsed + len ≤ e.platform.maxSlots) {Q : Addr → Pre} (hq : Q s.heap.size b acts (s.pushCell { cls := c, slots := Array.replicate len v, vm := .none })) : wp (Jvm.newArray c len v) Q E e b acts s := by
  have hfit : ∀ i u, (Array.replicate len v)[i]? = some u → s.fitsSlot c .none i u = true := by
    intro i u hu
    rw [Array.getElem?_replicate] at hu
    split at hu
    · cases hu
      simp [State.fitsSlot, State.slotType?, hk, hkd, hf]
    · cases hu
  have hacts : allocActs (Array.replicate len v) s.heap.size acts = acts := by
    have hall : (Array.replicate len v).all (·.isDefault) = true := by
      rw [Array.all_replicate]
      split <;> simp [hd]
    unfold allocActs
    rw [if_pos hall]
  have n1 : ¬ len > e.platform.arrayLengthLimit := by omega
  have n2 : ¬ len * componentBytes ty > e.platform.maxHeapBytes := by omega
  simp only [Jvm.newArray, Jvm.arrayFits, wp_bind', W.ask, W.ite, n1, if_false, wp_pure', W.theClass, hk, hkd, n2, W.alloc, W.stop, Option.some.injEq, exists_eq_left', Array.size_replicate, hacts]
  rw [if_neg (by omega)]
  exact ⟨hc, hs, hfit, hq⟩
theorem gx_make {c d cc : ClassId} {kc kd : Class} {n m : Int32} {N M : Nat} (hkc : s.vm.classes[c]? = some kc) (hc : kc.kind = .array d (.array .int)) (hkd : s.vm.classes[d]? = some kd) (hd : kd.kind = .array cc .int) (hn : ¬ n < 0) (hm : ¬ m < 0) (hN : n.toNatClampNeg = N) (hM : m.toNatClampNeg = M)
    (l1 : N ≤ e.platform.arrayLengthLimit) (l2 : N * 4 ≤ e.platform.maxHeapBytes) (l3 : M ≤ e.platform.arrayLengthLimit) (l4 : M * 4 ≤ e.platform.maxHeapBytes) (r1 : s.heap.size + 1 + N ≤ e.platform.maxCells) (r2 : s.slotsUsed + N + N * M ≤ e.platform.maxSlots)
    {Q : Addr → Pre} (hq : ∀ b' acts', Q s.heap.size b' acts' (grS s c d N M N)) : wp (Op.multianewarray.make c [n, m]) Q E e b acts s := by
  subst hN
  subst hM
  have hfind : [m].find? (· < 0) = none := by simp [hm]
  rw [Op.multianewarray.make]
  simp only [wp_bind', W.ite, hn, if_false, wp_pure', W.theClass, hkc, hc, Option.some.injEq, exists_eq_left']
  refine gx_new hkc hc l1 l2 (gx_fit rfl (Or.inl rfl)) rfl (by omega) (by have := Nat.zero_le (n.toNatClampNeg * m.toNatClampNeg); omega) ?_
  rw [grO_0 (h := s.heap.size)]
  simp only [hfind]
  rw [ite_self, wp_bind', Std.Legacy.Range.forIn_eq_forIn_range', show ([:n.toNatClampNeg] : Std.Legacy.Range).size = n.toNatClampNeg by simp [Std.Legacy.Range.size]]
  show wp (forIn (List.range' 0 n.toNatClampNeg 1) PUnit.unit _) _ E e b acts _
  refine wp_forIn_inv (fun rest s' => ∃ i, i ≤ n.toNatClampNeg ∧ rest = List.range' i (n.toNatClampNeg - i) ∧ s' = grS s c d n.toNatClampNeg m.toNatClampNeg i) _ _ ⟨0, Nat.zero_le _, rfl, rfl⟩ ?_ ?_
  · rintro x rest s' b' acts' Q' ⟨i, hi, hl, rfl⟩ hgo
    have hil : i < n.toNatClampNeg := by
      rcases Nat.lt_or_ge i n.toNatClampNeg with z | z
      · exact z
      · rw [show n.toNatClampNeg - i = 0 by omega] at hl
        cases hl
    rw [show n.toNatClampNeg - i = (n.toNatClampNeg - (i + 1)) + 1 by omega, List.range'_succ] at hl
    obtain ⟨rfl, rfl⟩ := List.cons.inj hl
    obtain ⟨g1, g2, g3, g4, -, -⟩ := gx_all s c d n.toNatClampNeg m.toNatClampNeg x
    have hmul : (x + 1) * m.toNatClampNeg ≤ n.toNatClampNeg * m.toNatClampNeg := Nat.mul_le_mul_right _ hil
    rw [Nat.succ_mul] at hmul
    have hlt : s.heap.size < (grS s c d n.toNatClampNeg m.toNatClampNeg x).heap.size := by omega
    simp only [wp_bind']
    rw [Op.multianewarray.make]
    simp only [wp_bind', W.ite, hm, if_false, wp_pure', W.theClass, g3, hkd, hd, Option.some.injEq, exists_eq_left']
    refine gx_new (by rw [g3]; exact hkd) hd l3 l4 rfl rfl (by omega) (by omega) ?_
    rw [show ({ cls := d, slots := Array.replicate m.toNatClampNeg (defaultValue .int), vm := .none } : Cell) = grI d m.toNatClampNeg from arrV_new _ _ _]
    simp only [wp_bind', W.writeLoc, wp_pure']
    refine ⟨grO c n.toNatClampNeg s.heap.size x, by rw [State.heap_pushCell_of_lt (h := hlt)]; exact g2, (fun h => by cases h), by rw [grO_z]; exact hil, ?_, hgo _ _ _ ⟨x + 1, hil, rfl, ?_⟩⟩
    · show State.fitsSlot _ c .none x _ = true
      simp [State.fitsSlot, State.slotType?, g3, hkc, hc, gx_fit (t := .array .int) rfl (Or.inr ⟨_, rfl⟩)]
    · rw [g1]
      rfl
  · rintro s' b' acts' ⟨i, hi, hl, rfl⟩
    have e : i = n.toNatClampNeg := by
      rcases Nat.lt_or_ge i n.toNatClampNeg with z | z
      · rw [show n.toNatClampNeg - i = (n.toNatClampNeg - (i + 1)) + 1 by omega, List.range'_succ] at hl
        cases hl
      · omega
    subst e
    simp only [wp_pure']
    exact hq _ _
end GRW
section GRX
variable {p : Program} {l : Launch} {e : Env} {R : Room} {s : State} {m : MethodId} {args : Array Value} {below : List Frame} {meth : Method} {c : Code} {T : State} {locs : List Loc} {cells slots : Nat} {cc : ByteArray} {pc : Nat} {ls : Array Slot} {rest : List Value} {H : Heap} {Q : State → Prop}
theorem gx_stand (X : Stand p l e R s m args below meth c T locs cells slots) (cA d : ClassId) (N M : Nat) : ∀ i, Stand p l e R s m args below meth c (grS T cA d N M i) (locs ++ (List.range i).map fun j => ⟨T.heap.size, j⟩) (cells + 1 + i) (slots + N + i * M)
  | 0 => by
    have h := X.pushed (grO cA N T.heap.size 0)
    rw [grO_z] at h
    simpa [grS] using h
  | i + 1 => by
    have Xi := gx_stand X cA d N M i
    obtain ⟨g1, g2, -, -, -, -⟩ := gx_all T cA d N M i
    have hlt : T.heap.size < (grS T cA d N M i).heap.size := by omega
    have h := (Xi.pushed (grI d M)).stored (a := T.heap.size) (cell := grO cA N T.heap.size i) (by rw [State.heap_pushCell_of_lt (h := hlt)]; exact g2) i (.ref (T.heap.size + 1 + i))
    rw [grI_z] at h
    have e2 : (locs ++ (List.range (i + 1)).map fun j => (⟨T.heap.size, j⟩ : Loc)) = (locs ++ (List.range i).map fun j => (⟨T.heap.size, j⟩ : Loc)) ++ [⟨T.heap.size, i⟩] := by rw [List.range_succ, List.map_append, List.append_assoc]; rfl
    rw [e2, show slots + N + (i + 1) * M = slots + N + i * M + M by rw [Nat.succ_mul]; omega]
    exact h
/-- what the tables say of the class of rows of rows -/
def bRR (k0 k2 : ClassId) (U : State) : Prop := (∃ kA : Class, U.vm.findClass "[[I" = some k2 ∧ U.vm.classes[k2]? = some kA ∧ kA.kind = .array k0 (.array .int)) ∧ ∃ (kC : Class) (cc : ClassId), U.vm.classes[k0]? = some kC ∧ kC.kind = .array cc .int
theorem bRR.moved {k0 k2 : ClassId} {u U : State} (hvm : u.vm.Alike U.vm) (h : bRR k0 k2 u) : bRR k0 k2 U := by
  obtain ⟨⟨kA, h1, h2, h3⟩, kC, cc, h4, h5⟩ := h
  obtain ⟨kA', g2, eA⟩ := hvm.2.2 _ _ h2
  obtain ⟨kC', g4, eC⟩ := hvm.2.2 _ _ h4
  exact ⟨⟨kA', by rw [hvm.findClass]; exact h1, g2, by rw [eA]; exact h3⟩, kC', cc, g4, by rw [eC]; exact h5⟩
theorem W.grid (hexec : p.tables.exec = Jvm.exec) (hb : c.code = cc) {own : String} {index : Nat} {k0 k2 : ClassId} (hown : s.vm.findClass own = some m.cls) (hcl : (Cond.classLink own index "[[I").before args s = true) (hrr : bRR k0 k2 s) {n k : Int32} {N M : Nat} (hn : ¬ n < 0) (hk : ¬ k < 0) (hN : n.toNatClampNeg = N) (hM : k.toNatClampNeg = M)
    (l1 : N * 4 ≤ 536870912) (l2 : M * 4 ≤ 536870912) (hcells : cells + (1 + N) ≤ R.cells) (hslots : slots + (N + N * M) ≤ R.slots) (hdg : decode cc pc = .ok (.multianewarray index 2, 4))
    (kk : ∀ (H1 : Heap), H1.size = H.size + 1 + N → H1[H.size]? = some (grO k2 N H.size N) → (∀ a, a < H.size → H1[a]? = H[a]?) → (∀ j, j < N → H1[H.size + 1 + j]? = some (grI k0 M)) →
      W p l e R s m args below meth c H1 (locs ++ (List.range N).map fun j => ⟨H.size, j⟩) (cells + 1 + N) (slots + N + N * M) Q (F0 m (pc + 4) ls (.ref H.size :: rest))) : W p l e R s m args below meth c H locs cells slots Q (F0 m pc ls (.int k :: .int n :: rest)) := by
  intro T hT X
  subst hT
  obtain ⟨⟨kA, f1, f2, f3⟩, kC, cc', f4, f5⟩ := hrr
  have hpl : e.platform.magicAccessors = ({} : Platform).magicAccessors := by rw [X.admits.platform]
  obtain ⟨c0, hfc0, hc0⟩ := Cond.classLink_spec hown hcl e.platform hpl
  cases f1.symm.trans hfc0
  obtain ⟨hg1, hwarm, -⟩ := State.classEntry (e := e) X.warmed hc0
  generalize T.vm.noted m.cls index (.cls k2) = vm1 at hg1 hwarm
  obtain ⟨kA', g2, eA⟩ := hwarm.alike.2.2 _ _ f2
  obtain ⟨kC', g4, eC⟩ := hwarm.alike.2.2 _ _ f4
  have X1 := X.noted hwarm
  obtain ⟨r1, r2⟩ := X.roomAbove hcells hslots
  have XF := gx_stand X1 k2 k0 N M N
  obtain ⟨a1, a2, -, -, a5, a6⟩ := gx_all (T.setVm vm1) k2 k0 N M N
  obtain ⟨t, t1, t2⟩ := kk (grS (T.setVm vm1) k2 k0 N M N).heap a1 a2 a5 a6 _ rfl XF
  refine ⟨t, ?_, t2⟩
  have p1 : N ≤ e.platform.arrayLengthLimit := by rw [Launch.admits_arrayLengthLimit X.admits]; omega
  have p2 : N * 4 ≤ e.platform.maxHeapBytes := by rw [Launch.admits_maxHeapBytes X.admits]; exact l1
  have p3 : M ≤ e.platform.arrayLengthLimit := by rw [Launch.admits_arrayLengthLimit X.admits]; omega
  have p4 : M * 4 ≤ e.platform.maxHeapBytes := by rw [Launch.admits_maxHeapBytes X.admits]; exact l2
  have hdg' : decode c.code pc = .ok (.multianewarray index 2, 4) := by rw [hb]; exact hdg
  jvm_step X.here [hexec, hdg']
  simp only [Op.multianewarray.sem, wp_bind', W.resolveClassAt_links (State.method?_setTop (F0 m pc ls (.int k :: .int n :: rest)) X.here.top) hg1]
  rw [W.popN, if_neg (by decide)]
  refine ⟨F0 m pc ls (.int k :: .int n :: rest), State.topJava?_setTop' (s := T.setVm vm1) _ X.here.top, [.int n, .int k], rest, rfl, rfl, ?_⟩
  simp only [List.mapM_cons, List.mapM_nil, wp_bind', wp_pure']
  refine gx_make (N := N) (M := M) (kc := kA') (kd := kC') (d := k0) (cc := cc') g2 (by rw [eA]; exact f3) g4 (by rw [eC]; exact f5) hn hk hN hM p1 p2 p3 p4 (by show T.heap.size + 1 + N ≤ _; omega) (by show T.slotsUsed + N + N * M ≤ _; omega) (fun b' acts' => ?_)
  have eS : ((T.setTop (F0 m pc ls (.int k :: .int n :: rest))).setVm vm1).setTop (F0 m pc ls rest) = (T.setVm vm1).setTop (F0 m pc ls rest) := by
    show ((T.setVm vm1).setTop _).setTop _ = _
    rw [State.setTop_setTop]
  have eF : ({ F0 m pc ls (.int k :: .int n :: rest) with stack := rest } : JFrame) = F0 m pc ls rest := rfl
  rw [eF, eS, gx_top]
  simp only [wp_bind', W.mark, W.pushRef, State.topJava?_setTop' _ XF.here.top, Option.some.injEq, exists_eq_left', State.setTop_setTop, State.heap_setTop]
  intro acts
  simp [jvm, XF.here.top]
  exact t1
end GRX
