/-! what a method answers, in few words -/
def pB (P : Prop) (σ : bSt) : Option Value → bSt → Prop := fun v σ' => σ' = σ ∧ ((P ∧ v = some (.int 1)) ∨ (¬ P ∧ v = some (.int 0)))
def pI (f : Int32) (σ : bSt) : Option Value → bSt → Prop := fun v σ' => v = some (.int f) ∧ σ' = σ
def pL (f : Int64) (σ : bSt) : Option Value → bSt → Prop := fun v σ' => v = some (.long f) ∧ σ' = σ
def pU (σ : bSt) : Option Value → bSt → Prop := fun v σ' => v = none ∧ σ' = σ
def pR (P : Int32 → bSt → Prop) : Option Value → bSt → Prop := fun v σ' => ∃ r, v = some (.int r) ∧ P r σ'
def pRL (P : Int64 → bSt → Prop) : Option Value → bSt → Prop := fun v σ' => ∃ r, v = some (.long r) ∧ P r σ'
def pV (P : bSt → Prop) : Option Value → bSt → Prop := fun v σ' => v = none ∧ P σ'
def pZ (P : Prop) (Q : bSt → Prop) : Option Value → bSt → Prop := fun v σ' => Q σ' ∧ ((P ∧ v = some (.int 1)) ∨ (¬ P ∧ v = some (.int 0)))
section BK
variable {x : bX} {w : bw} {nL : Nat} {post : Option Value → bSt → Prop} {q : Nat} {ls : List (Nat × Value)} {rest : List Value} {σ σ1 : bSt}
theorem kB {P : Prop} (a : P → V x w nL post q ls (.int 1 :: rest) σ) (b : ¬ P → V x w nL post q ls (.int 0 :: rest) σ) : ∀ (v : Option Value) (σ' : bSt), pB P σ v σ' → V x w nL post q ls (v.toList ++ rest) σ' := by
  rintro v σ' ⟨rfl, ⟨h, rfl⟩ | ⟨h, rfl⟩⟩
  · exact a h
  · exact b h
theorem kI {f : Int32} (a : V x w nL post q ls (.int f :: rest) σ1) : ∀ (v : Option Value) (σ' : bSt), pI f σ1 v σ' → V x w nL post q ls (v.toList ++ rest) σ' := by
  rintro v σ' ⟨rfl, rfl⟩
  exact a
theorem kL {f : Int64} (a : V x w nL post q ls (.long f :: rest) σ1) : ∀ (v : Option Value) (σ' : bSt), pL f σ1 v σ' → V x w nL post q ls (v.toList ++ rest) σ' := by
  rintro v σ' ⟨rfl, rfl⟩
  exact a
theorem kU (a : V x w nL post q ls rest σ1) : ∀ (v : Option Value) (σ' : bSt), pU σ1 v σ' → V x w nL post q ls (v.toList ++ rest) σ' := by
  rintro v σ' ⟨rfl, rfl⟩
  exact a
theorem kR {P : Int32 → bSt → Prop} (a : ∀ r σ', P r σ' → V x w nL post q ls (.int r :: rest) σ') : ∀ (v : Option Value) (σ' : bSt), pR P v σ' → V x w nL post q ls (v.toList ++ rest) σ' := by
  rintro v σ' ⟨r, rfl, h⟩
  exact a r σ' h
theorem kRL {P : Int64 → bSt → Prop} (a : ∀ r σ', P r σ' → V x w nL post q ls (.long r :: rest) σ') : ∀ (v : Option Value) (σ' : bSt), pRL P v σ' → V x w nL post q ls (v.toList ++ rest) σ' := by
  rintro v σ' ⟨r, rfl, h⟩
  exact a r σ' h
theorem kV {P : bSt → Prop} (a : ∀ σ', P σ' → V x w nL post q ls rest σ') : ∀ (v : Option Value) (σ' : bSt), pV P v σ' → V x w nL post q ls (v.toList ++ rest) σ' := by
  rintro v σ' ⟨rfl, h⟩
  exact a σ' h
theorem kZ {P : Prop} {Q : bSt → Prop} (a : ∀ σ', Q σ' → P → V x w nL post q ls (.int 1 :: rest) σ') (b : ∀ σ', Q σ' → ¬ P → V x w nL post q ls (.int 0 :: rest) σ') : ∀ (v : Option Value) (σ' : bSt), pZ P Q v σ' → V x w nL post q ls (v.toList ++ rest) σ' := by
  rintro v σ' ⟨hq, ⟨h, rfl⟩ | ⟨h, rfl⟩⟩
  · exact a σ' hq h
  · exact b σ' hq h
theorem pB1 {P : Prop} (h : P) : pB P σ (some (.int 1)) σ := ⟨rfl, Or.inl ⟨h, rfl⟩⟩
theorem pB0 {P : Prop} (h : ¬ P) : pB P σ (some (.int 0)) σ := ⟨rfl, Or.inr ⟨h, rfl⟩⟩
theorem pZ1 {P : Prop} {Q : bSt → Prop} (hq : Q σ) (h : P) : pZ P Q (some (.int 1)) σ := ⟨hq, Or.inl ⟨h, rfl⟩⟩
theorem pZ0 {P : Prop} {Q : bSt → Prop} (hq : Q σ) (h : ¬ P) : pZ P Q (some (.int 0)) σ := ⟨hq, Or.inr ⟨h, rfl⟩⟩
end BK
/-! the cells of the two systems by their numbers -/
def sI (w : bw) (j n : Nat) : Prop := j < b_K w ∧ b_sh w j = .inl (.inl n)
def sO (w : bw) (j ci N : Nat) (r : Nat → Option Nat) : Prop := j < b_K w ∧ b_sh w j = .inr (ci, N, r)
def sQ (w : bw) (j t n : Nat) (r : Nat → Option Nat) : Prop := j < b_K w ∧ b_sh w j = .inl (.inr (t, n, r))
def rBoats (j : Nat) : Nat → Option Nat := fun k => match k with
  | 0 => none
  | 1 => some (j + 1)
  | 2 => some (j + 2)
  | 3 => some (j + 3)
  | _ => some (j + 4)
def sBoats (w : bw) (j : Nat) : Prop := sO w j 0 5 (rBoats j) ∧ sI w (j + 1) 9 ∧ sI w (j + 2) 9 ∧ sI w (j + 3) 9 ∧ sI w (j + 4) 9
def rDesk (j : Nat) : Nat → Option Nat := fun k => match k with
  | 0 => some (j + 1)
  | 1 => none
  | 2 => some (j + 2)
  | _ => none
def sDesk (w : bw) (j : Nat) : Prop := sO w j 1 4 (rDesk j) ∧ sI w (j + 1) 50 ∧ sI w (j + 2) 20
def rFormula (j : Nat) : Nat → Option Nat := fun k => match k with
  | 0 => none
  | 1 => some (j + 1)
  | _ => some (j + 2)
def sFormula (w : bw) (j : Nat) : Prop := sO w j 2 3 (rFormula j) ∧ sI w (j + 1) 50 ∧ sI w (j + 2) 50
def rLaws (j : Nat) : Nat → Option Nat := fun k => match k with
  | 0 => none
  | 1 => some (j + 1)
  | 2 => some (j + 2)
  | 3 => some (j + 5)
  | _ => some (j + 8)
def sLaws (w : bw) (j : Nat) : Prop := sO w j 3 5 (rLaws j) ∧ sI w (j + 1) 4 ∧ sFormula w (j + 2) ∧ sFormula w (j + 5) ∧ sI w (j + 8) 2304
def rOutlook (j : Nat) : Nat → Option Nat := fun k => match k with
  | 0 => some (j + 1)
  | 1 => none
  | 2 => none
  | 3 => some (j + 7)
  | _ => some (j + 6)
def rRows (j : Nat) : Nat → Option Nat := fun i => some (j + 8 + i)
def sOutlook (w : bw) (j : Nat) : Prop := sO w j 4 5 (rOutlook j) ∧ sBoats w (j + 1) ∧ sI w (j + 6) 129 ∧ sQ w (j + 7) 2 129 (rRows j) ∧ ∀ i, i < 129 → sI w (j + 8 + i) 9
def rReader (j : Nat) : Nat → Option Nat := fun k => match k with
  | 0 => some (j + 1)
  | 1 => some (j + 4)
  | _ => none
def sReader (w : bw) (j : Nat) : Prop := sO w j 5 5 (rReader j) ∧ sFormula w (j + 1) ∧ sI w (j + 4) 50
def rScene (j : Nat) : Nat → Option Nat := fun k => match k with
  | 0 => none
  | 1 => none
  | 2 => none
  | 3 => some (j + 1)
  | 4 => none
  | 5 => some (j + 6)
  | 6 => some (j + 7)
  | _ => some (j + 8)
def sScene (w : bw) (j : Nat) : Prop := sO w j 6 8 (rScene j) ∧ sBoats w (j + 1) ∧ sI w (j + 6) 6 ∧ sI w (j + 7) 6 ∧ sI w (j + 8) 6
def rSheet (j : Nat) : Nat → Option Nat := fun k => match k with
  | 0 => none
  | 1 => none
  | _ => some (j + 1)
def sSheet (w : bw) (j : Nat) : Prop := sO w j 7 3 (rSheet j) ∧ sI w (j + 1) 40
def rVoices (j : Nat) : Nat → Option Nat := fun k => match k with
  | 0 => some (j + 1)
  | _ => none
def sVoices (w : bw) (j : Nat) : Prop := sO w j 8 5 (rVoices j) ∧ sI w (j + 1) 40
def rOpera : Nat → Option Nat := fun k => match k with
  | 0 => some 1
  | 1 => some 10
  | 2 => some 19
  | 3 => some 22
  | 4 => some 31
  | 5 => some 40
  | 6 => none
  | 7 => some 43
  | 8 => some 52
  | 9 => some 54
  | 10 => some 55
  | 11 => some 60
  | 12 => some 69
  | _ => some 206
def rSheets : Nat → Option Nat := fun i => some (44 + 2 * i)
def sOpera (w : bw) : Prop := sO w 0 9 14 rOpera ∧ sLaws w 1 ∧ sScene w 10 ∧ sDesk w 19 ∧ sLaws w 22 ∧ sScene w 31 ∧ sDesk w 40 ∧ sQ w 43 1 4 rSheets ∧ (∀ i, i < 4 → sSheet w (44 + 2 * i)) ∧ sVoices w 52 ∧ sI w 54 6 ∧ sReader w 55 ∧ sScene w 60 ∧ sOutlook w 69 ∧ sI w 206 64
def rModel : Nat → Option Nat := fun k => match k with
  | 0 => some 1
  | 1 => some 2
  | 2 => some 3
  | 3 => none
  | 4 => some 4
  | 5 => some 5
  | 6 => some 6
  | 7 => none
  | 8 => none
  | 9 => none
  | 10 => none
  | 11 => some 7
  | 12 => none
  | 13 => some 8
  | 14 => some 9
  | 15 => some 10
  | 16 => some 11
  | 17 => none
  | 18 => none
  | 19 => some 12
  | 20 => some 13
  | 21 => some 14
  | _ => some 15
def rNamed : Nat → Option Nat := fun i => some (1010 + i)
def sModel (w : bw) : Prop := sO w 0 10 23 rModel ∧ sI w 1 240 ∧ sI w 2 240 ∧ sI w 3 240 ∧ sI w 4 6 ∧ sI w 5 2560 ∧ sQ w 6 3 2 rNamed ∧ sI w 7 60 ∧ sI w 8 4 ∧ sI w 9 60 ∧ sI w 10 64 ∧ sI w 11 40 ∧ sI w 12 4 ∧ sI w 13 4 ∧ sI w 14 160 ∧ sI w 15 40
def iabs (a : Int32) : Int32 := if 0 ≤ a then a else 0 - a
def imax (a b : Int32) : Int32 := if a < b then b else a
def imin (a b : Int32) : Int32 := if b < a then b else a
section BJ
variable {x : bX} {w : bw} {cc : ByteArray} {own : String} {nL : Nat} {ret : Option FieldType} {rm : Room} {post : Option Value → bSt → Prop} {pc q : Nat} {ls : List (Nat × Value)} {st : List Value} {σ : bSt}
theorem v_max (h : Cx x w cc own nL ret rm) {index : Nat} {a b : Int32} (hl : Cond.methodLink own index Lib.Math.max.name ∈ bGood) (hs : Cond.static Lib.Math.max.name ∈ bGood) (hi : Cond.initialized "java/lang/Math" ∈ bGood) (hc : Cond.code Lib.Math.max.name Lib.Math.max.code 2 (some .int) ∈ bGood) (hr : 1 ≤ rm.frames ∧ (st.map fun v => v.category).sum + 13 ≤ rm.locals) (hd : decode cc pc = .ok (.invokestatic index, 3)) (e : pc + 3 = q) (kk : V x w nL post q ls (.int (imax a b) :: st) σ) : V x w nL post pc ls (.int b :: .int a :: st) σ := by
  subst e
  exact fun H lo a hP hS hL => va_mmax h.1 h.2.1 (h.ml.trans hL.1.symm) h.ow (h.ok hl) (h.ok hs) (h.ok hi) (h.ok hc) (by rw [h.rmq]; exact hr.1) (by rw [h.rmq]; exact hr.2) (Nat.zero_le _) (Nat.zero_le _) hd (kk H lo a hP hS hL)
theorem v_min (h : Cx x w cc own nL ret rm) {index : Nat} {a b : Int32} (hl : Cond.methodLink own index Lib.Math.min.name ∈ bGood) (hs : Cond.static Lib.Math.min.name ∈ bGood) (hi : Cond.initialized "java/lang/Math" ∈ bGood) (hc : Cond.code Lib.Math.min.name Lib.Math.min.code 2 (some .int) ∈ bGood) (hr : 1 ≤ rm.frames ∧ (st.map fun v => v.category).sum + 13 ≤ rm.locals) (hd : decode cc pc = .ok (.invokestatic index, 3)) (e : pc + 3 = q) (kk : V x w nL post q ls (.int (imin a b) :: st) σ) : V x w nL post pc ls (.int b :: .int a :: st) σ := by
  subst e
  exact fun H lo a hP hS hL => va_mmin h.1 h.2.1 (h.ml.trans hL.1.symm) h.ow (h.ok hl) (h.ok hs) (h.ok hi) (h.ok hc) (by rw [h.rmq]; exact hr.1) (by rw [h.rmq]; exact hr.2) (Nat.zero_le _) (Nat.zero_le _) hd (kk H lo a hP hS hL)
theorem v_abs (h : Cx x w cc own nL ret rm) {index : Nat} {a : Int32} (hl : Cond.methodLink own index Lib.Math.abs.name ∈ bGood) (hs : Cond.static Lib.Math.abs.name ∈ bGood) (hi : Cond.initialized "java/lang/Math" ∈ bGood) (hc : Cond.code Lib.Math.abs.name Lib.Math.abs.code 1 (some .int) ∈ bGood) (hr : 1 ≤ rm.frames ∧ (st.map fun v => v.category).sum + 13 ≤ rm.locals) (hd : decode cc pc = .ok (.invokestatic index, 3)) (e : pc + 3 = q) (kk : V x w nL post q ls (.int (iabs a) :: st) σ) : V x w nL post pc ls (.int a :: st) σ := by
  subst e
  exact fun H lo a hP hS hL => va_mabs h.1 h.2.1 (h.ml.trans hL.1.symm) h.ow (h.ok hl) (h.ok hs) (h.ok hi) (h.ok hc) (by rw [h.rmq]; exact hr.1) (by rw [h.rmq]; exact hr.2) (Nat.zero_le _) (Nat.zero_le _) hd (kk H lo a hP hS hL)
theorem v_acopy (h : Cx x w cc own nL ret rm) {index j0 j1 n0 n1 : Nat} {sp dp n : Int32} (hj0 : sI w j0 n0) (hj1 : sI w j1 n1) (hl : Cond.methodLink own index arraycopyName ∈ bGood) (hnat : Cond.native arraycopyName ∈ bGood) (hs : Cond.static arraycopyName ∈ bGood) (hi : Cond.initialized "java/lang/System" ∈ bGood) (h1 : ¬ sp < 0) (h2 : ¬ dp < 0) (h3 : ¬ n < 0) (h4 : sp.toNatClampNeg + n.toNatClampNeg ≤ n0) (h5 : dp.toNatClampNeg + n.toNatClampNeg ≤ n1)
    (hr : 1 ≤ rm.frames ∧ (st.map fun v => v.category).sum + (nativeFrameWords "java/lang/System" "arraycopy" 5 + 11) ≤ rm.locals) (hd : decode cc pc = .ok (.invokestatic index, 3)) (e : pc + 3 = q) (kk : V x w nL post q ls st (b_set σ j1 (va_cpy (σ j0) (σ j1) sp.toNatClampNeg dp.toNatClampNeg n.toNatClampNeg))) : V x w nL post pc ls (.int n :: .int dp :: .ref (b_ad w j1) :: .int sp :: .ref (b_ad w j0) :: st) σ := by
  subst e
  exact fun H lo a hP hS hL => va_copyi h.1 h.2.1 (h.ml.trans hL.1.symm) h.ow (h.ok hl) (h.ok hnat) (h.ok hs) (h.ok hi) h.ev.1 hP (b_wl_D h.ev.2.2.1) hS j0 j1 0 0 (by rw [b_wl_get hj0.1, b_cell_i hj0.2]) (by rw [b_wl_get hj1.1, b_cell_i hj1.2]) rfl rfl rfl h1 h2 h3 h4 h5 (fun _ _ => rfl) (by rw [h.rmq]; exact hr.1) (by rw [h.rmq]; exact hr.2) hd (fun H1 lo1 hP1 _ hS1 => kk H1 lo1 a (by rw [← b_wl_set, b_cell_i hj1.2]; exact hP1) hS1 hL)
theorem b_stat1 {U : State} (h : b_EV w U) : va_Z "LagoonOpera" "KIND_ABOVE" "[I" (.ref (b_ad w 1000)) (b_A w) U U.heap ∧ va_T .int (b_ad w 1000) 7 (fun j => .int (b_tKA j)) (b_A w) U U.heap := ⟨h.2.2.2.1, h.2.2.2.2.1⟩
theorem b_stat2 {U : State} (h : b_EV w U) : va_Z "LagoonOpera$Voices" "BODIES" "[I" (.ref (b_ad w 1001)) (b_A w) U U.heap ∧ va_T .int (b_ad w 1001) 28 (fun j => .int (b_tBO j)) (b_A w) U U.heap := ⟨h.2.2.2.2.2.1, h.2.2.2.2.2.2.1⟩
theorem b_stat3 {U : State} (h : b_EV w U) : va_Z "LagoonOpera$Reader" "NAMES" "[C" (.ref (b_ad w 1002)) (b_A w) U U.heap ∧ va_T .char (b_ad w 1002) 6 (fun j => .int (b_tNA j)) (b_A w) U U.heap := ⟨h.2.2.2.2.2.2.2.1, h.2.2.2.2.2.2.2.2.1⟩
theorem v_gs (h : Cx x w cc own nL ret rm) {C n d : String} {v : Value} {index : Nat} (hZ : va_Z C n d v (b_A w) x.2.2.2.2.1 x.2.2.2.2.1.heap) (hl : Cond.fieldLink own index C n d ∈ bGood) (hd : decode cc pc = .ok (.getstatic index, 3)) (e : pc + 3 = q) (kk : V x w nL post q ls (v :: st) σ) : V x w nL post pc ls st σ := by
  subst e
  exact fun H lo a hP hS hL => va_gets h.1 h.2.1 hZ hS h.ow (h.ok hl) (fun _ h9 => h9) hd (kk H lo a hP hS hL)
theorem v_gsN (h : Cx x w cc own nL ret rm) {C n d host : String} {v : Value} {index : Nat} (hZ : va_Z C n d v (b_A w) x.2.2.2.2.1 x.2.2.2.2.1.heap) (hl : Cond.fieldLinkNest own index C n d host ∈ bNl) (hd : decode cc pc = .ok (.getstatic index, 3)) (e : pc + 3 = q) (kk : V x w nL post q ls (v :: st) σ) : V x w nL post pc ls st σ := by
  subst e
  exact fun H lo a hP hS hL => va_getsN h.1 h.2.1 hZ hS h.ow (va_Nw.use rfl (h.nest hl)) (fun _ h9 => h9) hd (kk H lo a hP hS hL)
theorem v_ti (h : Cx x w cc own nL ret rm) {t N k : Nat} {f : Nat → Int32} {i : Int32} (hT : va_T .int t N (fun j => .int (f j)) (b_A w) x.2.2.2.2.1 x.2.2.2.2.1.heap) (hin : vp_in i N) (hk : i.toNatClampNeg = k) (hd : decode cc pc = .ok (.iaload, 1)) (e : pc + 1 = q) (kk : V x w nL post q ls (.int (f k) :: st) σ) : V x w nL post pc ls (.int i :: .ref t :: st) σ := by
  subst e
  subst hk
  exact fun H lo a hP hS hL => va_ti h.1 h.2.1 hT hS hin rfl hd (kk H lo a hP hS hL)
theorem v_tc (h : Cx x w cc own nL ret rm) {t N k : Nat} {f : Nat → Int32} {i : Int32} (hT : va_T .char t N (fun j => .int (f j)) (b_A w) x.2.2.2.2.1 x.2.2.2.2.1.heap) (hin : vp_in i N) (hk : i.toNatClampNeg = k) (hd : decode cc pc = .ok (.caload, 1)) (e : pc + 1 = q) (kk : V x w nL post q ls (.int (f k) :: st) σ) : V x w nL post pc ls (.int i :: .ref t :: st) σ := by
  subst e
  subst hk
  exact fun H lo a hP hS hL => va_tc h.1 h.2.1 hT hS hin rfl hd (kk H lo a hP hS hL)
theorem v_tlen (h : Cx x w cc own nL ret rm) {t N : Nat} {ty : FieldType} {f : Nat → Value} {v : Int32} (hT : va_T ty t N f (b_A w) x.2.2.2.2.1 x.2.2.2.2.1.heap) (hv : Int32.ofNat N = v) (hd : decode cc pc = .ok (.arraylength, 1)) (e : pc + 1 = q) (kk : V x w nL post q ls (.int v :: st) σ) : V x w nL post pc ls (.ref t :: st) σ := by
  subst e
  exact fun H lo a hP hS hL => va_tlen h.1 h.2.1 hT hS hv hd (kk H lo a hP hS hL)
end BJ
/-- states that the heap can't tell apart -/
def bEq (w : bw) (σ1 σ2 : bSt) : Prop := ∀ j, j < b_K w → match b_sh w j with
  | .inl (.inl n) => ∀ k, k < n → σ1 j k = σ2 j k
  | .inl (.inr _) => True
  | .inr (_, N, r) => ∀ k, k < N → r k = none → σ1 j k = σ2 j k
theorem b_arrV_ext {c : ClassId} {n : Nat} {f g : Nat → Value} (h : ∀ k, k < n → f k = g k) : arrV c n f = arrV c n g := by
  unfold arrV
  congr 1
  apply congrArg
  funext j
  exact h j.1 j.2
theorem b_ext {w : bw} {σ1 σ2 : bSt} {H : Heap} (h : bEq w σ1 σ2) (hP : va_P w.1 vwCl (b_wl w σ1) H) : va_P w.1 vwCl (b_wl w σ2) H := by
  intro j q hq
  obtain ⟨hj, rfl⟩ := b_wl_inv hq
  have h1 := hP j _ (b_wl_get hj)
  have h2 := h j hj
  unfold b_cell at h1 ⊢
  generalize b_sh w j = s at h1 h2 ⊢
  rcases s with (n | ⟨t, n, r⟩) | ⟨ci, N, r⟩
  · show H[b_ad w j]? = some (vp_cell _ _)
    have h3 : H[b_ad w j]? = some (vp_cell _ _) := h1
    rw [h3, vp_cell_i, vp_cell_i, b_arrV_ext (fun k hk => by rw [h2 k hk])]
  · exact h1
  · have e : b_of w (σ1 j) (.inr (ci, N, r)) = b_of w (σ2 j) (.inr (ci, N, r)) := by
      show Sum.inr (ci, b_vals w N r (σ1 j)) = Sum.inr (ci, b_vals w N r (σ2 j))
      congr 2
      unfold b_vals
      apply List.map_congr_left
      intro k hk
      have hk := List.mem_range.mp hk
      have h4 := h2 k hk
      unfold b_val
      cases hr : r k with
      | none => simp [h4 hr]
      | some z => rfl
    rw [← e]
    exact h1
theorem bEq_o {w : bw} {σ1 σ2 : bSt} {j0 ci N : Nat} {r : Nat → Option Nat} (ho : ∀ j, j ≠ j0 → σ1 j = σ2 j) (hs : sO w j0 ci N r) (h : ∀ k, k < N → r k = none → σ1 j0 k = σ2 j0 k) : bEq w σ1 σ2 := by
  intro j hj
  by_cases e : j = j0
  · subst e
    rw [hs.2]
    exact h
  · rw [ho j e]
    generalize b_sh w j = s
    rcases s with (n | z) | ⟨ci, N, r⟩
    · exact fun _ _ => rfl
    · exact trivial
    · exact fun _ _ _ => rfl
theorem v_conv {x : bX} {w : bw} {nL : Nat} {post : Option Value → bSt → Prop} {pc : Nat} {ls : List (Nat × Value)} {st : List Value} {σ1 σ2 : bSt} (he : bEq w σ1 σ2) (k : V x w nL post pc ls st σ2) : V x w nL post pc ls st σ1 := fun H lo a hP hS hL => k H lo a (b_ext he hP) hS hL
theorem bEq_i {w : bw} {σ1 σ2 : bSt} {j0 n : Nat} (ho : ∀ j, j ≠ j0 → σ1 j = σ2 j) (hs : sI w j0 n) (h : ∀ k, k < n → σ1 j0 k = σ2 j0 k) : bEq w σ1 σ2 := by
  intro j hj
  by_cases e : j = j0
  · subst e
    rw [hs.2]
    exact h
  · rw [ho j e]
    generalize b_sh w j = s
    rcases s with (n | z) | ⟨ci, N, r⟩
    · exact fun _ _ => rfl
    · exact trivial
    · exact fun _ _ _ => rfl
theorem v_acopyF {x : bX} {w : bw} {cc : ByteArray} {own : String} {nL : Nat} {ret : Option FieldType} {rm : Room} {post : Option Value → bSt → Prop} {pc q : Nat} {ls : List (Nat × Value)} {st : List Value} {σ : bSt} (h : Cx x w cc own nL ret rm) {index j0 j1 n0 : Nat} {sp dp n : Int32} (hj0 : sI w j0 n0) (hj1 : sI w j1 n0) (hl : Cond.methodLink own index arraycopyName ∈ bGood) (hnat : Cond.native arraycopyName ∈ bGood) (hs : Cond.static arraycopyName ∈ bGood) (hi : Cond.initialized "java/lang/System" ∈ bGood) (h1 : sp = 0) (h2 : dp = 0) (h3 : ¬ n < 0) (h4 : n.toNatClampNeg = n0)
    (hr : 1 ≤ rm.frames ∧ (st.map fun v => v.category).sum + (nativeFrameWords "java/lang/System" "arraycopy" 5 + 11) ≤ rm.locals) (hd : decode cc pc = .ok (.invokestatic index, 3)) (e : pc + 3 = q) (kk : V x w nL post q ls st (b_set σ j1 (σ j0))) : V x w nL post pc ls (.int n :: .int dp :: .ref (b_ad w j1) :: .int sp :: .ref (b_ad w j0) :: st) σ := by
  subst h1
  subst h2
  refine v_acopy h hj0 hj1 hl hnat hs hi (by decide) (by decide) h3 (by rw [h4]; show 0 + n0 ≤ n0; omega) (by rw [h4]; show 0 + n0 ≤ n0; omega) hr hd e ?_
  refine v_conv (bEq_i (j0 := j1) (fun j hj => by rw [b_set_n hj, b_set_n hj]) hj1 (fun k hk => ?_)) kk
  rw [b_set_s, b_set_s, h4]
  show va_cpy (σ j0) (σ j1) 0 0 n0 k = σ j0 k
  simp [va_cpy, hk]
def blk (σ : bSt) (dst src n : Nat) : bSt := fun j => if dst ≤ j ∧ j < dst + n then σ (src + (j - dst)) else σ j
def ushr (a b : Int32) : Int32 := (a.toUInt32 >>> (b.toUInt32 &&& 31)).toInt32
theorem v_ls {x : bX} {w : bw} {nL : Nat} {post : Option Value → bSt → Prop} {pc : Nat} {ls ls2 : List (Nat × Value)} {st : List Value} {σ : bSt} (ks : List Nat) (hk : lv_pick ls ks = ls2) (k : V x w nL post pc ls2 st σ) : V x w nL post pc ls st σ := fun H lo a hP hS hL => k H lo a hP hS (lv_sub hL ks hk)
theorem b_ind {P : Nat → Prop} (h : ∀ n, (∀ m, m < n → P m) → P n) : ∀ n, P n := fun n => Nat.strongRecOn n (fun n ih => h n ih)
theorem v_lsub {x : bX} {w : bw} {cc : ByteArray} {own : String} {nL : Nat} {ret : Option FieldType} {rm : Room} {post : Option Value → bSt → Prop} {pc q : Nat} {ls : List (Nat × Value)} {st : List Value} {σ : bSt} (h : Cx x w cc own nL ret rm) {a b : Int64} (hd : decode cc pc = .ok (.lsub, 1)) (e : pc + 1 = q) (k : V x w nL post q ls (.long (a - b) :: st) σ) : V x w nL post pc ls (.long b :: .long a :: st) σ := by
  subst e
  exact fun H lo a hP hS hL => lv_lsub h.1 h.2.1 hd (k H lo a hP hS hL)
def ushrL (a : Int64) (b : Int32) : Int64 := (a.toUInt64 >>> (b.toInt64.toUInt64 &&& Int64.toUInt64 63)).toInt64
theorem blk_at {σ : bSt} {d s n k : Nat} (hk : k < n) : blk σ d s n (d + k) = σ (s + k) := by
  unfold blk
  rw [if_pos ⟨by omega, by omega⟩, Nat.add_sub_cancel_left]
theorem blk_0 {σ : bSt} {d s n : Nat} (hk : 0 < n) : blk σ d s n d = σ s := blk_at (k := 0) hk
theorem blk_out {σ : bSt} {d s n j : Nat} (h : j < d ∨ d + n ≤ j) : blk σ d s n j = σ j := by
  unfold blk
  rw [if_neg (by omega)]
theorem rF_n {j k : Nat} (hk : k < 3) (h : rFormula j k = none) : k = 0 := by
  match k, hk, h with
  | 0, _, _ => rfl
  | 1, _, h => cases h
  | 2, _, h => cases h
theorem rB_n {j k : Nat} (hk : k < 5) (h : rBoats j k = none) : k = 0 := by
  match k, hk, h with
  | 0, _, _ => rfl
  | 1, _, h => cases h
  | 2, _, h => cases h
  | 3, _, h => cases h
  | 4, _, h => cases h
theorem rL_n {j k : Nat} (hk : k < 5) (h : rLaws j k = none) : k = 0 := by
  match k, hk, h with
  | 0, _, _ => rfl
  | 1, _, h => cases h
  | 2, _, h => cases h
  | 3, _, h => cases h
  | 4, _, h => cases h
theorem rS_n {j k : Nat} (hk : k < 8) (h : rScene j k = none) : k = 0 ∨ k = 1 ∨ k = 2 ∨ k = 4 := by
  match k, hk, h with
  | 0, _, _ => exact Or.inl rfl
  | 1, _, _ => exact Or.inr (Or.inl rfl)
  | 2, _, _ => exact Or.inr (Or.inr (Or.inl rfl))
  | 4, _, _ => exact Or.inr (Or.inr (Or.inr rfl))
  | 3, _, h => cases h
  | 5, _, h => cases h
  | 6, _, h => cases h
  | 7, _, h => cases h
theorem rD_n {j k : Nat} (hk : k < 4) (h : rDesk j k = none) : k = 1 ∨ k = 3 := by
  match k, hk, h with
  | 1, _, _ => exact Or.inl rfl
  | 3, _, _ => exact Or.inr rfl
  | 0, _, h => cases h
  | 2, _, h => cases h
theorem upd_s {f : Nat → Int32} {k : Nat} {v : Int32} : upd f k v k = v := if_pos rfl
theorem upd_n {f : Nat → Int32} {k j : Nat} {v : Int32} (h : j ≠ k) : upd f k v j = f j := if_neg h
