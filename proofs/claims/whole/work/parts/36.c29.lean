/-! how many bits are set -/
def cn : Nat → Nat → Nat
  | 0, _ => 0
  | k + 1, n => n % 2 + cn k (n / 2)
/-- a byte so many times -/
def mk8 (b : Nat) : Nat → Nat
  | 0 => 0
  | k + 1 => b + 256 * mk8 b k
def q1 (k n : Nat) : Nat := n - (n / 2 &&& mk8 85 k)
def q2 (k n : Nat) : Nat := (n &&& mk8 51 k) + (n / 4 &&& mk8 51 k)
def q3 (k n : Nat) : Nat := (n + n / 16) &&& mk8 15 k
theorem land_256 (x y : Nat) : x &&& y = 256 * (x / 256 &&& y / 256) + (x % 256 &&& y % 256) := by
  have h1 : (x &&& y) / 2 ^ 8 = x / 2 ^ 8 &&& y / 2 ^ 8 := Nat.and_div_two_pow
  have h2 : (x &&& y) % 2 ^ 8 = (x % 2 ^ 8) &&& (y % 2 ^ 8) := Nat.and_mod_two_pow
  have h3 := Nat.div_add_mod (x &&& y) (2 ^ 8)
  rw [h1, h2] at h3
  exact h3.symm
theorem land_mk {x b : Nat} (k : Nat) (hb : b < 256) : x &&& mk8 b (k + 1) = 256 * (x / 256 &&& mk8 b k) + (x % 256 &&& b) := by
  rw [land_256, mk8, show (b + 256 * mk8 b k) / 256 = mk8 b k by omega, show (b + 256 * mk8 b k) % 256 = b by omega]
theorem tb_1 : ∀ a : Nat, a < 256 → ∀ r : Nat, r < 2 → (a / 2 + 128 * r) &&& 85 = a / 2 &&& 85 := by decide +kernel
theorem tb_2 : ∀ a : Nat, a < 256 → ∀ r : Nat, r < 4 → (a / 4 + 64 * r) &&& 51 = a / 4 &&& 51 := by decide +kernel
theorem tb_3 : ∀ a : Nat, a < 73 → ∀ r : Nat, r < 5 → (a + 16 * r) &&& 15 = a &&& 15 := by decide +kernel
def g1 (a : Nat) : Nat := a - (a / 2 &&& 85)
def g2 (a : Nat) : Nat := (a &&& 51) + (a / 4 &&& 51)
def g3 (a : Nat) : Nat := (a + a / 16) &&& 15
theorem tb_4 : ∀ a : Nat, a < 256 → g1 a < 256 ∧ g2 (g1 a) < 69 ∧ g2 (g1 a) % 16 < 5 ∧ g2 (g1 a) + g2 (g1 a) / 16 < 73 ∧ g3 (g2 (g1 a)) = cn 8 a ∧ cn 8 a ≤ 8 := by decide +kernel
theorem q1_s (k : Nat) {a m : Nat} (ha : a < 256) : q1 (k + 1) (a + 256 * m) = g1 a + 256 * q1 k m := by
  unfold q1 g1
  rw [land_mk k (by decide), show (a + 256 * m) / 2 / 256 = m / 2 by omega, show (a + 256 * m) / 2 % 256 = a / 2 + 128 * (m % 2) by omega, tb_1 a ha (m % 2) (by omega)]
  have h1 : (m / 2 &&& mk8 85 k) ≤ m / 2 := Nat.and_le_left
  have h2 : (a / 2 &&& 85) ≤ a / 2 := Nat.and_le_left
  omega
theorem q2_s (k : Nat) {a m : Nat} (ha : a < 256) : q2 (k + 1) (a + 256 * m) = g2 a + 256 * q2 k m := by
  unfold q2 g2
  rw [land_mk k (by decide), land_mk k (by decide), show (a + 256 * m) / 256 = m by omega, show (a + 256 * m) % 256 = a by omega, show (a + 256 * m) / 4 / 256 = m / 4 by omega, show (a + 256 * m) / 4 % 256 = a / 4 + 64 * (m % 4) by omega, tb_2 a ha (m % 4) (by omega)]
  omega
theorem q3_s (k : Nat) {a m : Nat} (ha : a + a / 16 < 73) (hm : m % 16 < 5) : q3 (k + 1) (a + 256 * m) = g3 a + 256 * q3 k m := by
  unfold q3 g3
  rw [land_mk k (by decide), show (a + 256 * m + (a + 256 * m) / 16) / 256 = m + m / 16 by omega, show (a + 256 * m + (a + 256 * m) / 16) % 256 = a + a / 16 + 16 * (m % 16) by omega, tb_3 _ ha (m % 16) hm]
  omega
def qs (k n : Nat) : Nat := q3 k (q2 k (q1 k n))
theorem q21_s (k : Nat) (n : Nat) : q2 (k + 1) (q1 (k + 1) n) = g2 (g1 (n % 256)) + 256 * q2 k (q1 k (n / 256)) := by
  have h := tb_4 (n % 256) (Nat.mod_lt _ (by decide))
  have e : n = n % 256 + 256 * (n / 256) := by omega
  have e1 : q1 (k + 1) n = g1 (n % 256) + 256 * q1 k (n / 256) := by
    have := q1_s k (a := n % 256) (m := n / 256) (Nat.mod_lt _ (by decide))
    rwa [← e] at this
  rw [e1, q2_s k h.1]
theorem q21_16 : ∀ k n : Nat, q2 k (q1 k n) % 16 < 5
  | 0, n => by
    unfold q2 mk8
    rw [Nat.and_zero, Nat.and_zero]
    decide
  | k + 1, n => by
    have h := tb_4 (n % 256) (Nat.mod_lt _ (by decide))
    rw [q21_s]
    omega
theorem qs_s (k n : Nat) : qs (k + 1) n = cn 8 (n % 256) + 256 * qs k (n / 256) := by
  have h := tb_4 (n % 256) (Nat.mod_lt _ (by decide))
  unfold qs
  rw [q21_s, q3_s k h.2.2.2.1 (q21_16 k _), h.2.2.2.2.1]
theorem qs_0 (n : Nat) : qs 0 n = 0 := by
  unfold qs q3 mk8
  rw [Nat.and_zero]
theorem cn_s (k n : Nat) : cn (8 + k) n = cn 8 (n % 256) + cn k (n / 256) := by
  rw [Nat.add_comm]
  simp only [cn]
  rw [show n / 2 / 2 / 2 / 2 / 2 / 2 / 2 / 2 = n / 256 by omega]
  omega
theorem cn_8 (n : Nat) : cn 8 (n % 256) ≤ 8 := (tb_4 (n % 256) (Nat.mod_lt _ (by decide))).2.2.2.2.2
theorem qs_4 (n : Nat) : ∃ a b c d : Nat, a ≤ 8 ∧ b ≤ 8 ∧ c ≤ 8 ∧ d ≤ 8 ∧ cn 32 n = a + b + c + d ∧ qs 4 n = a + 256 * (b + 256 * (c + 256 * d)) := by
  refine ⟨_, _, _, _, cn_8 n, cn_8 (n / 256), cn_8 (n / 256 / 256), cn_8 (n / 256 / 256 / 256), ?_, ?_⟩
  · rw [show (32 : Nat) = 8 + (8 + (8 + (8 + 0))) from rfl, cn_s, cn_s, cn_s, cn_s]
    show _ + (_ + (_ + (_ + 0))) = _
    omega
  · rw [qs_s, qs_s, qs_s, qs_s, qs_0, Nat.mul_zero, Nat.add_zero]
theorem qs_8 (n : Nat) : ∃ a b c d e f g h : Nat, a ≤ 8 ∧ b ≤ 8 ∧ c ≤ 8 ∧ d ≤ 8 ∧ e ≤ 8 ∧ f ≤ 8 ∧ g ≤ 8 ∧ h ≤ 8 ∧ cn 64 n = a + b + c + d + e + f + g + h ∧ qs 8 n = a + 256 * (b + 256 * (c + 256 * (d + 256 * (e + 256 * (f + 256 * (g + 256 * h)))))) := by
  refine ⟨_, _, _, _, _, _, _, _, cn_8 n, cn_8 (n / 256), cn_8 (n / 256 / 256), cn_8 (n / 256 / 256 / 256), cn_8 (n / 256 / 256 / 256 / 256), cn_8 (n / 256 / 256 / 256 / 256 / 256), cn_8 (n / 256 / 256 / 256 / 256 / 256 / 256), cn_8 (n / 256 / 256 / 256 / 256 / 256 / 256 / 256), ?_, ?_⟩
  · rw [show (64 : Nat) = 8 + (8 + (8 + (8 + (8 + (8 + (8 + (8 + 0))))))) from rfl, cn_s, cn_s, cn_s, cn_s, cn_s, cn_s, cn_s, cn_s]
    show _ + (_ + (_ + (_ + (_ + (_ + (_ + (_ + 0))))))) = _
    omega
  · rw [qs_s, qs_s, qs_s, qs_s, qs_s, qs_s, qs_s, qs_s, qs_0, Nat.mul_zero, Nat.add_zero]
theorem nI_bv (n : Nat) : (nI n).toBitVec = BitVec.ofNat 32 n := rfl
theorem lN_bv (n : Nat) : (lN n).toBitVec = BitVec.ofNat 64 n := rfl
theorem i_and (a b : Nat) : nI a &&& nI b = nI (a &&& b) := by
  apply Int32.toBitVec_inj.mp
  rw [Int32.toBitVec_and, nI_bv, nI_bv, nI_bv]
  apply BitVec.eq_of_toNat_eq
  rw [BitVec.toNat_and, BitVec.toNat_ofNat, BitVec.toNat_ofNat, BitVec.toNat_ofNat]
  exact Nat.and_mod_two_pow.symm
theorem l_and (a b : Nat) : lN a &&& lN b = lN (a &&& b) := by
  apply Int64.toBitVec_inj.mp
  rw [Int64.toBitVec_and, lN_bv, lN_bv, lN_bv]
  apply BitVec.eq_of_toNat_eq
  rw [BitVec.toNat_and, BitVec.toNat_ofNat, BitVec.toNat_ofNat, BitVec.toNat_ofNat]
  exact Nat.and_mod_two_pow.symm
theorem bv_ushr (x : Int32) {b : Nat} (hb : b < 32) : (ushr x (nI b)).toBitVec = x.toBitVec >>> b := by
  show (x.toUInt32 >>> ((nI b).toUInt32 &&& 31)).toBitVec = _
  rw [UInt32.toBitVec_shiftRight]
  show x.toBitVec >>> (((nI b).toUInt32 &&& 31).toBitVec % 32#32).toNat = _
  rw [bx_sh b hb]
theorem bx_shL : ∀ n : Nat, n < 64 → (((nI n).toInt64.toUInt64 &&& Int64.toUInt64 63).toBitVec % 64#64).toNat = n := by decide +kernel
theorem bv_ushrL (x : Int64) {b : Nat} (hb : b < 64) : (ushrL x (nI b)).toBitVec = x.toBitVec >>> b := by
  show (x.toUInt64 >>> ((nI b).toInt64.toUInt64 &&& Int64.toUInt64 63)).toBitVec = _
  rw [UInt64.toBitVec_shiftRight]
  show x.toBitVec >>> (((nI b).toInt64.toUInt64 &&& Int64.toUInt64 63).toBitVec % 64#64).toNat = _
  rw [bx_shL b hb]
theorem i_ushr {n k p : Nat} (hn : n < 4294967296) (hk : k < 32) (hp : 2 ^ k = p) : ushr (nI n) (nI k) = nI (n / p) := by
  apply Int32.toBitVec_inj.mp
  rw [bv_ushr _ hk, nI_bv, nI_bv]
  apply BitVec.eq_of_toNat_eq
  rw [BitVec.toNat_ushiftRight, BitVec.toNat_ofNat, BitVec.toNat_ofNat, Nat.mod_eq_of_lt hn, Nat.shiftRight_eq_div_pow, hp, Nat.mod_eq_of_lt (Nat.lt_of_le_of_lt (Nat.div_le_self _ _) hn)]
theorem l_ushr {n k p : Nat} (hn : n < 18446744073709551616) (hk : k < 64) (hp : 2 ^ k = p) : ushrL (lN n) (nI k) = lN (n / p) := by
  apply Int64.toBitVec_inj.mp
  rw [bv_ushrL _ hk, lN_bv, lN_bv]
  apply BitVec.eq_of_toNat_eq
  rw [BitVec.toNat_ushiftRight, BitVec.toNat_ofNat, BitVec.toNat_ofNat, Nat.mod_eq_of_lt hn, Nat.shiftRight_eq_div_pow, hp, Nat.mod_eq_of_lt (Nat.lt_of_le_of_lt (Nat.div_le_self _ _) hn)]
theorem l_add (a b : Nat) : lN a + lN b = lN (a + b) := (Int64.ofNat_add a b).symm
theorem l_sub {k : Nat} (j : Nat) (h : j ≤ k) : lN k - lN j = lN (k - j) := by
  obtain ⟨d, rfl⟩ := Nat.exists_eq_add_of_le h
  rw [Nat.add_sub_cancel_left, ← l_add, Int64.add_comm, Int64.add_sub_cancel]
theorem dv8 {a X : Nat} (h : a < 256) : (a + 256 * X) / 256 = X := by omega
theorem dv16 {a b X : Nat} (h : a + 256 * b < 65536) : (a + 256 * (b + 256 * X)) / 65536 = X := by omega
theorem dv32 {a b c d X : Nat} (h : a + 256 * (b + 256 * (c + 256 * d)) < 4294967296) : (a + 256 * (b + 256 * (c + 256 * (d + 256 * X)))) / 4294967296 = X := by omega
theorem md128 {t M : Nat} (h : t < 128) : (t + 128 * M) % 128 = t := by omega
theorem lk2 {a b c d e f g i : Nat} : (a + 256 * (b + 256 * (c + 256 * (d + 256 * (e + 256 * (f + 256 * (g + 256 * i))))))) + (b + 256 * (c + 256 * (d + 256 * (e + 256 * (f + 256 * (g + 256 * i)))))) = (a + b) + 256 * ((b + c) + 256 * ((c + d) + 256 * ((d + e) + 256 * ((e + f) + 256 * ((f + g) + 256 * ((g + i) + 256 * i)))))) := by omega
theorem lk4 {a b c d e f g i : Nat} : ((a + b) + 256 * ((b + c) + 256 * ((c + d) + 256 * ((d + e) + 256 * ((e + f) + 256 * ((f + g) + 256 * ((g + i) + 256 * i))))))) + ((c + d) + 256 * ((d + e) + 256 * ((e + f) + 256 * ((f + g) + 256 * ((g + i) + 256 * i))))) = (a + b + c + d) + 256 * ((b + c + d + e) + 256 * ((c + d + e + f) + 256 * ((d + e + f + g) + 256 * ((e + f + g + i) + 256 * ((f + g + i) + 256 * ((g + i) + 256 * i)))))) := by omega
theorem lk6 {a b c d e f g i : Nat} : ((a + b + c + d) + 256 * ((b + c + d + e) + 256 * ((c + d + e + f) + 256 * ((d + e + f + g) + 256 * ((e + f + g + i) + 256 * ((f + g + i) + 256 * ((g + i) + 256 * i))))))) + ((e + f + g + i) + 256 * ((f + g + i) + 256 * ((g + i) + 256 * i))) = (a + b + c + d + e + f + g + i) + 128 * (2 * ((b + c + d + e + f + g + i) + 256 * ((c + d + e + f + g + i) + 256 * ((d + e + f + g + i) + 256 * ((e + f + g + i) + 256 * ((f + g + i) + 256 * ((g + i) + 256 * i))))))) := by omega
theorem lm1 {a b c d e f g i : Nat} (ha : a ≤ 8) (hb : b ≤ 8) (hc : c ≤ 8) (hd : d ≤ 8) (he : e ≤ 8) (hf : f ≤ 8) (hg : g ≤ 8) (hi : i ≤ 8) : a + 256 * (b + 256 * (c + 256 * (d + 256 * (e + 256 * (f + 256 * (g + 256 * i)))))) < 18446744073709551616 := by omega
theorem lm2 {a b c d e f g i : Nat} (ha : a ≤ 8) (hb : b ≤ 8) (hc : c ≤ 8) (hd : d ≤ 8) (he : e ≤ 8) (hf : f ≤ 8) (hg : g ≤ 8) (hi : i ≤ 8) : (a + b) + 256 * ((b + c) + 256 * ((c + d) + 256 * ((d + e) + 256 * ((e + f) + 256 * ((f + g) + 256 * ((g + i) + 256 * i)))))) < 18446744073709551616 := by omega
theorem lm3 {a b c d e f g i : Nat} (ha : a ≤ 8) (hb : b ≤ 8) (hc : c ≤ 8) (hd : d ≤ 8) (he : e ≤ 8) (hf : f ≤ 8) (hg : g ≤ 8) (hi : i ≤ 8) : (a + b + c + d) + 256 * ((b + c + d + e) + 256 * ((c + d + e + f) + 256 * ((d + e + f + g) + 256 * ((e + f + g + i) + 256 * ((f + g + i) + 256 * ((g + i) + 256 * i)))))) < 18446744073709551616 := by omega
theorem bc_end {Q C : Nat} (h : Q < 4294967296) (h2 : Q + Q / 256 < 4294967296) (h3 : (Q + Q / 256 + (Q + Q / 256) / 65536) % 64 = C) : bc5 (bc4 (nI Q)) = nI C := by
  unfold bc5 bc4
  rw [show (8 : Int32) = nI 8 from rfl, show (16 : Int32) = nI 16 from rfl, show (63 : Int32) = nI (2 ^ 6 - 1) from rfl, i_ushr h (by decide) (p := 256) rfl, nI_add, i_ushr h2 (by decide) (p := 65536) rfl, nI_add, i_and, Nat.and_two_pow_sub_one_eq_mod, ← h3]
theorem l_toI (n : Nat) : (lN n).toInt32 = nI n := by
  apply Int32.toBitVec_inj.mp
  rw [Int64.toBitVec_toInt32, lN_bv, nI_bv]
  apply BitVec.eq_of_toNat_eq
  rw [BitVec.signExtend_eq_setWidth_of_le _ (by decide), BitVec.toNat_setWidth, BitVec.toNat_ofNat, BitVec.toNat_ofNat]
  omega
theorem bl_end {Q u v C : Nat} (h : Q < 18446744073709551616) (hu : Q + Q / 256 = u) (h2 : u < 18446744073709551616) (hv : u + u / 65536 = v) (h3 : v < 18446744073709551616) (h4 : (v + v / 4294967296) % 128 = C) : (bl6 (bl5 (bl4 (lN Q)))).toInt32 &&& 127 = nI C := by
  unfold bl6 bl5 bl4
  rw [show (8 : Int32) = nI 8 from rfl, show (16 : Int32) = nI 16 from rfl, show (32 : Int32) = nI 32 from rfl, show (127 : Int32) = nI (2 ^ 7 - 1) from rfl, l_ushr h (by decide) (p := 256) rfl, l_add, hu, l_ushr h2 (by decide) (p := 65536) rfl, l_add, hv, l_ushr h3 (by decide) (p := 4294967296) rfl, l_add, l_toI, i_and, Nat.and_two_pow_sub_one_eq_mod, ← h4]
theorem bc_cn {n : Nat} (hn : n < 4294967296) : bcJ (nI n) = nI (cn 32 n) := by
  have e1 : bc1 (nI n) = nI (q1 4 n) := by
    show nI n - (ushr (nI n) (nI 1) &&& nI (mk8 85 4)) = _
    rw [i_ushr hn (by decide) (p := 2) rfl, i_and, nI_sub _ (Nat.le_trans Nat.and_le_left (Nat.div_le_self _ _))]
    rfl
  have h1 : q1 4 n < 4294967296 := Nat.lt_of_le_of_lt (Nat.sub_le _ _) hn
  have e2 : bc2 (nI (q1 4 n)) = nI (q2 4 (q1 4 n)) := by
    show (nI (q1 4 n) &&& nI (mk8 51 4)) + (ushr (nI (q1 4 n)) (nI 2) &&& nI (mk8 51 4)) = _
    rw [i_ushr h1 (by decide) (p := 4) rfl, i_and, i_and, nI_add]
    rfl
  have h2 : q2 4 (q1 4 n) < 4294967296 := by
    have a1 : (q1 4 n &&& mk8 51 4) ≤ mk8 51 4 := Nat.and_le_right
    have a2 : (q1 4 n / 4 &&& mk8 51 4) ≤ mk8 51 4 := Nat.and_le_right
    have a3 : mk8 51 4 = 858993459 := rfl
    unfold q2
    omega
  have e3 : bc3 (nI (q2 4 (q1 4 n))) = nI (qs 4 n) := by
    show (nI (q2 4 (q1 4 n)) + ushr (nI (q2 4 (q1 4 n))) (nI 4)) &&& nI (mk8 15 4) = _
    rw [i_ushr h2 (by decide) (p := 16) rfl, nI_add, i_and]
    rfl
  obtain ⟨a, b, c, d, ha, hb, hc, hd, ec, es⟩ := qs_4 n
  unfold bcJ
  rw [e1, e2, e3]
  generalize cn 32 n = C at *
  generalize qs 4 n = Q at *
  have k1 : Q / 256 = b + 256 * (c + 256 * d) := by omega
  have k2 : (Q + Q / 256) / 65536 = (c + d) + 256 * d := by rw [k1, es]; omega
  have k3 : Q + Q / 256 + (Q + Q / 256) / 65536 = (a + b + c + d) + 64 * (4 * (b + c + d) + 1024 * (c + d) + 262144 * d) := by rw [k2, k1, es]; omega
  exact bc_end (by omega) (by omega) (by rw [k3]; omega)
theorem bcL_cn {n : Nat} (hn : n < 18446744073709551616) : bcL (lN n) = nI (cn 64 n) := by
  have e1 : bl1 (lN n) = lN (q1 8 n) := by
    show lN n - (ushrL (lN n) (nI 1) &&& lN (mk8 85 8)) = _
    rw [l_ushr hn (by decide) (p := 2) rfl, l_and, l_sub _ (Nat.le_trans Nat.and_le_left (Nat.div_le_self _ _))]
    rfl
  have h1 : q1 8 n < 18446744073709551616 := Nat.lt_of_le_of_lt (Nat.sub_le _ _) hn
  have e2 : bl2 (lN (q1 8 n)) = lN (q2 8 (q1 8 n)) := by
    show (lN (q1 8 n) &&& lN (mk8 51 8)) + (ushrL (lN (q1 8 n)) (nI 2) &&& lN (mk8 51 8)) = _
    rw [l_ushr h1 (by decide) (p := 4) rfl, l_and, l_and, l_add]
    rfl
  have h2 : q2 8 (q1 8 n) < 18446744073709551616 := by
    have a1 : (q1 8 n &&& mk8 51 8) ≤ mk8 51 8 := Nat.and_le_right
    have a2 : (q1 8 n / 4 &&& mk8 51 8) ≤ mk8 51 8 := Nat.and_le_right
    have a3 : mk8 51 8 = 3689348814741910323 := rfl
    unfold q2
    omega
  have e3 : bl3 (lN (q2 8 (q1 8 n))) = lN (qs 8 n) := by
    show (lN (q2 8 (q1 8 n)) + ushrL (lN (q2 8 (q1 8 n))) (nI 4)) &&& lN (mk8 15 8) = _
    rw [l_ushr h2 (by decide) (p := 16) rfl, l_add, l_and]
    rfl
  obtain ⟨a, b, c, d, e, f, g, i, ha, hb, hc, hd, he, hf, hg, hi, ec, es⟩ := qs_8 n
  unfold bcL
  rw [e1, e2, e3, ec]
  generalize qs 8 n = Q at es ⊢
  clear e1 h1 e2 h2 e3 ec hn
  have k1 : Q / 256 = b + 256 * (c + 256 * (d + 256 * (e + 256 * (f + 256 * (g + 256 * i))))) := by rw [es]; exact dv8 (Nat.lt_of_le_of_lt ha (by decide))
  obtain ⟨u, hu⟩ : ∃ u, Q + Q / 256 = u := ⟨_, rfl⟩
  have k2 : u = (a + b) + 256 * ((b + c) + 256 * ((c + d) + 256 * ((d + e) + 256 * ((e + f) + 256 * ((f + g) + 256 * ((g + i) + 256 * i)))))) := by rw [← hu, k1, es]; exact lk2
  have k3 : u / 65536 = (c + d) + 256 * ((d + e) + 256 * ((e + f) + 256 * ((f + g) + 256 * ((g + i) + 256 * i)))) := by rw [k2]; exact dv16 (by clear es k1 hu k2; omega)
  obtain ⟨v, hv⟩ : ∃ v, u + u / 65536 = v := ⟨_, rfl⟩
  have k4 : v = (a + b + c + d) + 256 * ((b + c + d + e) + 256 * ((c + d + e + f) + 256 * ((d + e + f + g) + 256 * ((e + f + g + i) + 256 * ((f + g + i) + 256 * ((g + i) + 256 * i)))))) := by rw [← hv, k3, k2]; exact lk4
  have k5 : v / 4294967296 = (e + f + g + i) + 256 * ((f + g + i) + 256 * ((g + i) + 256 * i)) := by rw [k4]; exact dv32 (by clear es k1 hu k2 k3 hv k4; omega)
  have k6 : v + v / 4294967296 = (a + b + c + d + e + f + g + i) + 128 * (2 * ((b + c + d + e + f + g + i) + 256 * ((c + d + e + f + g + i) + 256 * ((d + e + f + g + i) + 256 * ((e + f + g + i) + 256 * ((f + g + i) + 256 * ((g + i) + 256 * i))))))) := by rw [k5, k4]; exact lk6
  have m1 : Q < 18446744073709551616 := by rw [es]; exact lm1 ha hb hc hd he hf hg hi
  have m2 : u < 18446744073709551616 := by rw [k2]; exact lm2 ha hb hc hd he hf hg hi
  have m3 : v < 18446744073709551616 := by rw [k4]; exact lm3 ha hb hc hd he hf hg hi
  exact bl_end m1 hu m2 hv m3 (by rw [k6]; exact md128 (by clear es k1 hu k2 k3 hv k4 k5 k6 m1 m2 m3; omega))
/-- how many of the first n have it -/
def ctP (p : Nat → Bool) : Nat → Nat
  | 0 => 0
  | n + 1 => if p n = true then ctP p n + 1 else ctP p n
theorem cn_up : ∀ k n : Nat, cn (k + 1) n = cn k n + (if n.testBit k = true then 1 else 0)
  | 0, n => by
    show n % 2 + 0 = 0 + _
    rw [Nat.testBit_zero]
    rcases Nat.mod_two_eq_zero_or_one n with e | e
    · rw [e]; rfl
    · rw [e]; rfl
  | k + 1, n => by
    have ih := cn_up k (n / 2)
    rw [show cn (k + 1 + 1) n = n % 2 + cn (k + 1) (n / 2) from rfl, ih, show cn (k + 1) n = n % 2 + cn k (n / 2) from rfl, Nat.testBit_succ]
    omega
theorem cn_ct {p : Nat → Bool} {n : Nat} : ∀ k, (∀ i, i < k → n.testBit i = p i) → cn k n = ctP p k
  | 0, _ => rfl
  | k + 1, h => by
    rw [cn_up, ctP, cn_ct k (fun i hi => h i (by omega)), h k (by omega)]
    split <;> omega
theorem bcJ_ct {x : Int32} {p : Nat → Bool} (h : ∀ i, i < 32 → x.toBitVec.getLsbD i = p i) : bcJ x = nI (ctP p 32) := by
  have e : x = nI x.toBitVec.toNat := Int32.toBitVec_inj.mp (by rw [nI_bv, BitVec.ofNat_toNat, BitVec.setWidth_eq])
  have hl : x.toBitVec.toNat < 4294967296 := x.toBitVec.isLt
  rw [e, bc_cn hl, cn_ct (p := p) 32 (fun i hi => by rw [← h i hi]; exact (BitVec.testBit_toNat _).symm ▸ rfl)]
theorem bcL_ct {x : Int64} {p : Nat → Bool} (h : ∀ i, i < 64 → x.toBitVec.getLsbD i = p i) : bcL x = nI (ctP p 64) := by
  have e : x = lN x.toBitVec.toNat := Int64.toBitVec_inj.mp (by rw [lN_bv, BitVec.ofNat_toNat, BitVec.setWidth_eq])
  have hl : x.toBitVec.toNat < 18446744073709551616 := x.toBitVec.isLt
  rw [e, bcL_cn hl, cn_ct (p := p) 64 (fun i hi => by rw [← h i hi]; exact (BitVec.testBit_toNat _).symm ▸ rfl)]
