theorem atE {D : va_G} {a : bAd} {c : bC} {H : Heap} {i : Nat} {E : va_E} (z : va_at D vwCl (a i, c i) H) (F : c i = E) : va_at D vwCl (a i, E) H := F ▸ z
theorem atQ {D : va_G} {H : Heap} {t N : Nat} {k : ClassId} {f g : Nat → Option Nat} (z : va_at D vwCl (t, xQ k N f) H) (h : ∀ i, i < N → f i = g i) : va_at D vwCl (t, xQ k N g) H := by
  show H[t]? = some (vp_cell _ _)
  have z : H[t]? = some (vp_cell k (N, .inr (.inr (.inr (.inr f))))) := z
  rw [z, vp_cell_q, vp_cell_q]
  exact congrArg some (b_arrV_ext (fun i hi => by rw [h i hi]))
set_option maxHeartbeats 4000000 in
set_option maxRecDepth 100000 in
theorem toW1 {D : va_G} {kd : Nat → ClassId} {a ad : bAd} {c : bC} {H : Heap} {n : Nat} (hn : 207 ≤ n) (hk : kOpera kd a 0 c) (hP : va_P D vwCl (nW n a c) H) : va_P D vwCl (b_wl (wo1 D kd a ad) s1z) H := by
  have at_ : ∀ i, i < 207 → va_at D vwCl (a i, c i) H := fun i hi => hP i _ (nW_get (by omega))
  obtain ⟨F1, ⟨F2, F3, ⟨F4, F5, F6⟩, ⟨F7, F8, F9⟩, F10⟩, ⟨F11, ⟨F12, F13, F14, F15, F16⟩, F17, F18, F19⟩, ⟨F20, F21, F22⟩, ⟨F23, F24, ⟨F25, F26, F27⟩, ⟨F28, F29, F30⟩, F31⟩, ⟨F32, ⟨F33, F34, F35, F36, F37⟩, F38, F39, F40⟩, ⟨F41, F42, F43⟩, F44, ⟨F45, F46⟩, ⟨F47, F48⟩, ⟨F49, F50⟩, ⟨F51, F52⟩, ⟨F53, F54⟩, F55, ⟨F56, ⟨F57, F58, F59⟩, F60⟩, ⟨F61, ⟨F62, F63, F64, F65, F66⟩, F67, F68, F69⟩, ⟨F70, ⟨F71, F72, F73, F74, F75⟩, F76, F77, F78⟩, F79⟩ := hk
  have G0 : va_at D vwCl (b_ad (wo1 D kd a ad) 0, b_cell (wo1 D kd a ad) 0 (s1z 0)) H := atE (i := 0) (at_ 0 (by decide)) F1
  have G1 : va_at D vwCl (b_ad (wo1 D kd a ad) 1, b_cell (wo1 D kd a ad) 1 (s1z 1)) H := atE (i := 1) (at_ 1 (by decide)) F2
  have G2 : va_at D vwCl (b_ad (wo1 D kd a ad) 2, b_cell (wo1 D kd a ad) 2 (s1z 2)) H := atE (i := 2) (at_ 2 (by decide)) F3
  have G3 : va_at D vwCl (b_ad (wo1 D kd a ad) 3, b_cell (wo1 D kd a ad) 3 (s1z 3)) H := atE (i := 3) (at_ 3 (by decide)) F4
  have G4 : va_at D vwCl (b_ad (wo1 D kd a ad) 4, b_cell (wo1 D kd a ad) 4 (s1z 4)) H := atE (i := 4) (at_ 4 (by decide)) F5
  have G5 : va_at D vwCl (b_ad (wo1 D kd a ad) 5, b_cell (wo1 D kd a ad) 5 (s1z 5)) H := atE (i := 5) (at_ 5 (by decide)) F6
  have G6 : va_at D vwCl (b_ad (wo1 D kd a ad) 6, b_cell (wo1 D kd a ad) 6 (s1z 6)) H := atE (i := 6) (at_ 6 (by decide)) F7
  have G7 : va_at D vwCl (b_ad (wo1 D kd a ad) 7, b_cell (wo1 D kd a ad) 7 (s1z 7)) H := atE (i := 7) (at_ 7 (by decide)) F8
  have G8 : va_at D vwCl (b_ad (wo1 D kd a ad) 8, b_cell (wo1 D kd a ad) 8 (s1z 8)) H := atE (i := 8) (at_ 8 (by decide)) F9
  have G9 : va_at D vwCl (b_ad (wo1 D kd a ad) 9, b_cell (wo1 D kd a ad) 9 (s1z 9)) H := atE (i := 9) (at_ 9 (by decide)) F10
  have G10 : va_at D vwCl (b_ad (wo1 D kd a ad) 10, b_cell (wo1 D kd a ad) 10 (s1z 10)) H := atE (i := 10) (at_ 10 (by decide)) F11
  have G11 : va_at D vwCl (b_ad (wo1 D kd a ad) 11, b_cell (wo1 D kd a ad) 11 (s1z 11)) H := atE (i := 11) (at_ 11 (by decide)) F12
  have G12 : va_at D vwCl (b_ad (wo1 D kd a ad) 12, b_cell (wo1 D kd a ad) 12 (s1z 12)) H := atE (i := 12) (at_ 12 (by decide)) F13
  have G13 : va_at D vwCl (b_ad (wo1 D kd a ad) 13, b_cell (wo1 D kd a ad) 13 (s1z 13)) H := atE (i := 13) (at_ 13 (by decide)) F14
  have G14 : va_at D vwCl (b_ad (wo1 D kd a ad) 14, b_cell (wo1 D kd a ad) 14 (s1z 14)) H := atE (i := 14) (at_ 14 (by decide)) F15
  have G15 : va_at D vwCl (b_ad (wo1 D kd a ad) 15, b_cell (wo1 D kd a ad) 15 (s1z 15)) H := atE (i := 15) (at_ 15 (by decide)) F16
  have G16 : va_at D vwCl (b_ad (wo1 D kd a ad) 16, b_cell (wo1 D kd a ad) 16 (s1z 16)) H := atE (i := 16) (at_ 16 (by decide)) F17
  have G17 : va_at D vwCl (b_ad (wo1 D kd a ad) 17, b_cell (wo1 D kd a ad) 17 (s1z 17)) H := atE (i := 17) (at_ 17 (by decide)) F18
  have G18 : va_at D vwCl (b_ad (wo1 D kd a ad) 18, b_cell (wo1 D kd a ad) 18 (s1z 18)) H := atE (i := 18) (at_ 18 (by decide)) F19
  have G19 : va_at D vwCl (b_ad (wo1 D kd a ad) 19, b_cell (wo1 D kd a ad) 19 (s1z 19)) H := atE (i := 19) (at_ 19 (by decide)) F20
  have G20 : va_at D vwCl (b_ad (wo1 D kd a ad) 20, b_cell (wo1 D kd a ad) 20 (s1z 20)) H := atE (i := 20) (at_ 20 (by decide)) F21
  have G21 : va_at D vwCl (b_ad (wo1 D kd a ad) 21, b_cell (wo1 D kd a ad) 21 (s1z 21)) H := atE (i := 21) (at_ 21 (by decide)) F22
  have G22 : va_at D vwCl (b_ad (wo1 D kd a ad) 22, b_cell (wo1 D kd a ad) 22 (s1z 22)) H := atE (i := 22) (at_ 22 (by decide)) F23
  have G23 : va_at D vwCl (b_ad (wo1 D kd a ad) 23, b_cell (wo1 D kd a ad) 23 (s1z 23)) H := atE (i := 23) (at_ 23 (by decide)) F24
  have G24 : va_at D vwCl (b_ad (wo1 D kd a ad) 24, b_cell (wo1 D kd a ad) 24 (s1z 24)) H := atE (i := 24) (at_ 24 (by decide)) F25
  have G25 : va_at D vwCl (b_ad (wo1 D kd a ad) 25, b_cell (wo1 D kd a ad) 25 (s1z 25)) H := atE (i := 25) (at_ 25 (by decide)) F26
  have G26 : va_at D vwCl (b_ad (wo1 D kd a ad) 26, b_cell (wo1 D kd a ad) 26 (s1z 26)) H := atE (i := 26) (at_ 26 (by decide)) F27
  have G27 : va_at D vwCl (b_ad (wo1 D kd a ad) 27, b_cell (wo1 D kd a ad) 27 (s1z 27)) H := atE (i := 27) (at_ 27 (by decide)) F28
  have G28 : va_at D vwCl (b_ad (wo1 D kd a ad) 28, b_cell (wo1 D kd a ad) 28 (s1z 28)) H := atE (i := 28) (at_ 28 (by decide)) F29
  have G29 : va_at D vwCl (b_ad (wo1 D kd a ad) 29, b_cell (wo1 D kd a ad) 29 (s1z 29)) H := atE (i := 29) (at_ 29 (by decide)) F30
  have G30 : va_at D vwCl (b_ad (wo1 D kd a ad) 30, b_cell (wo1 D kd a ad) 30 (s1z 30)) H := atE (i := 30) (at_ 30 (by decide)) F31
  have G31 : va_at D vwCl (b_ad (wo1 D kd a ad) 31, b_cell (wo1 D kd a ad) 31 (s1z 31)) H := atE (i := 31) (at_ 31 (by decide)) F32
  have G32 : va_at D vwCl (b_ad (wo1 D kd a ad) 32, b_cell (wo1 D kd a ad) 32 (s1z 32)) H := atE (i := 32) (at_ 32 (by decide)) F33
  have G33 : va_at D vwCl (b_ad (wo1 D kd a ad) 33, b_cell (wo1 D kd a ad) 33 (s1z 33)) H := atE (i := 33) (at_ 33 (by decide)) F34
  have G34 : va_at D vwCl (b_ad (wo1 D kd a ad) 34, b_cell (wo1 D kd a ad) 34 (s1z 34)) H := atE (i := 34) (at_ 34 (by decide)) F35
  have G35 : va_at D vwCl (b_ad (wo1 D kd a ad) 35, b_cell (wo1 D kd a ad) 35 (s1z 35)) H := atE (i := 35) (at_ 35 (by decide)) F36
  have G36 : va_at D vwCl (b_ad (wo1 D kd a ad) 36, b_cell (wo1 D kd a ad) 36 (s1z 36)) H := atE (i := 36) (at_ 36 (by decide)) F37
  have G37 : va_at D vwCl (b_ad (wo1 D kd a ad) 37, b_cell (wo1 D kd a ad) 37 (s1z 37)) H := atE (i := 37) (at_ 37 (by decide)) F38
  have G38 : va_at D vwCl (b_ad (wo1 D kd a ad) 38, b_cell (wo1 D kd a ad) 38 (s1z 38)) H := atE (i := 38) (at_ 38 (by decide)) F39
  have G39 : va_at D vwCl (b_ad (wo1 D kd a ad) 39, b_cell (wo1 D kd a ad) 39 (s1z 39)) H := atE (i := 39) (at_ 39 (by decide)) F40
  have G40 : va_at D vwCl (b_ad (wo1 D kd a ad) 40, b_cell (wo1 D kd a ad) 40 (s1z 40)) H := atE (i := 40) (at_ 40 (by decide)) F41
  have G41 : va_at D vwCl (b_ad (wo1 D kd a ad) 41, b_cell (wo1 D kd a ad) 41 (s1z 41)) H := atE (i := 41) (at_ 41 (by decide)) F42
  have G42 : va_at D vwCl (b_ad (wo1 D kd a ad) 42, b_cell (wo1 D kd a ad) 42 (s1z 42)) H := atE (i := 42) (at_ 42 (by decide)) F43
  have G43 : va_at D vwCl (b_ad (wo1 D kd a ad) 43, b_cell (wo1 D kd a ad) 43 (s1z 43)) H := atQ (atE (i := 43) (at_ 43 (by decide)) F44) (fun i hi => by rcases (show i = 0 ∨ i = 1 ∨ i = 2 ∨ i = 3 by omega) with rfl | rfl | rfl | rfl <;> rfl)
  have G44 : va_at D vwCl (b_ad (wo1 D kd a ad) 44, b_cell (wo1 D kd a ad) 44 (s1z 44)) H := atE (i := 44) (at_ 44 (by decide)) F45
  have G45 : va_at D vwCl (b_ad (wo1 D kd a ad) 45, b_cell (wo1 D kd a ad) 45 (s1z 45)) H := atE (i := 45) (at_ 45 (by decide)) F46
  have G46 : va_at D vwCl (b_ad (wo1 D kd a ad) 46, b_cell (wo1 D kd a ad) 46 (s1z 46)) H := atE (i := 46) (at_ 46 (by decide)) F47
  have G47 : va_at D vwCl (b_ad (wo1 D kd a ad) 47, b_cell (wo1 D kd a ad) 47 (s1z 47)) H := atE (i := 47) (at_ 47 (by decide)) F48
  have G48 : va_at D vwCl (b_ad (wo1 D kd a ad) 48, b_cell (wo1 D kd a ad) 48 (s1z 48)) H := atE (i := 48) (at_ 48 (by decide)) F49
  have G49 : va_at D vwCl (b_ad (wo1 D kd a ad) 49, b_cell (wo1 D kd a ad) 49 (s1z 49)) H := atE (i := 49) (at_ 49 (by decide)) F50
  have G50 : va_at D vwCl (b_ad (wo1 D kd a ad) 50, b_cell (wo1 D kd a ad) 50 (s1z 50)) H := atE (i := 50) (at_ 50 (by decide)) F51
  have G51 : va_at D vwCl (b_ad (wo1 D kd a ad) 51, b_cell (wo1 D kd a ad) 51 (s1z 51)) H := atE (i := 51) (at_ 51 (by decide)) F52
  have G52 : va_at D vwCl (b_ad (wo1 D kd a ad) 52, b_cell (wo1 D kd a ad) 52 (s1z 52)) H := atE (i := 52) (at_ 52 (by decide)) F53
  have G53 : va_at D vwCl (b_ad (wo1 D kd a ad) 53, b_cell (wo1 D kd a ad) 53 (s1z 53)) H := atE (i := 53) (at_ 53 (by decide)) F54
  have G54 : va_at D vwCl (b_ad (wo1 D kd a ad) 54, b_cell (wo1 D kd a ad) 54 (s1z 54)) H := atE (i := 54) (at_ 54 (by decide)) F55
  have G55 : va_at D vwCl (b_ad (wo1 D kd a ad) 55, b_cell (wo1 D kd a ad) 55 (s1z 55)) H := atE (i := 55) (at_ 55 (by decide)) F56
  have G56 : va_at D vwCl (b_ad (wo1 D kd a ad) 56, b_cell (wo1 D kd a ad) 56 (s1z 56)) H := atE (i := 56) (at_ 56 (by decide)) F57
  have G57 : va_at D vwCl (b_ad (wo1 D kd a ad) 57, b_cell (wo1 D kd a ad) 57 (s1z 57)) H := atE (i := 57) (at_ 57 (by decide)) F58
  have G58 : va_at D vwCl (b_ad (wo1 D kd a ad) 58, b_cell (wo1 D kd a ad) 58 (s1z 58)) H := atE (i := 58) (at_ 58 (by decide)) F59
  have G59 : va_at D vwCl (b_ad (wo1 D kd a ad) 59, b_cell (wo1 D kd a ad) 59 (s1z 59)) H := atE (i := 59) (at_ 59 (by decide)) F60
  have G60 : va_at D vwCl (b_ad (wo1 D kd a ad) 60, b_cell (wo1 D kd a ad) 60 (s1z 60)) H := atE (i := 60) (at_ 60 (by decide)) F61
  have G61 : va_at D vwCl (b_ad (wo1 D kd a ad) 61, b_cell (wo1 D kd a ad) 61 (s1z 61)) H := atE (i := 61) (at_ 61 (by decide)) F62
  have G62 : va_at D vwCl (b_ad (wo1 D kd a ad) 62, b_cell (wo1 D kd a ad) 62 (s1z 62)) H := atE (i := 62) (at_ 62 (by decide)) F63
  have G63 : va_at D vwCl (b_ad (wo1 D kd a ad) 63, b_cell (wo1 D kd a ad) 63 (s1z 63)) H := atE (i := 63) (at_ 63 (by decide)) F64
  have G64 : va_at D vwCl (b_ad (wo1 D kd a ad) 64, b_cell (wo1 D kd a ad) 64 (s1z 64)) H := atE (i := 64) (at_ 64 (by decide)) F65
  have G65 : va_at D vwCl (b_ad (wo1 D kd a ad) 65, b_cell (wo1 D kd a ad) 65 (s1z 65)) H := atE (i := 65) (at_ 65 (by decide)) F66
  have G66 : va_at D vwCl (b_ad (wo1 D kd a ad) 66, b_cell (wo1 D kd a ad) 66 (s1z 66)) H := atE (i := 66) (at_ 66 (by decide)) F67
  have G67 : va_at D vwCl (b_ad (wo1 D kd a ad) 67, b_cell (wo1 D kd a ad) 67 (s1z 67)) H := atE (i := 67) (at_ 67 (by decide)) F68
  have G68 : va_at D vwCl (b_ad (wo1 D kd a ad) 68, b_cell (wo1 D kd a ad) 68 (s1z 68)) H := atE (i := 68) (at_ 68 (by decide)) F69
  have G69 : va_at D vwCl (b_ad (wo1 D kd a ad) 69, b_cell (wo1 D kd a ad) 69 (s1z 69)) H := atE (i := 69) (at_ 69 (by decide)) F70
  have G70 : va_at D vwCl (b_ad (wo1 D kd a ad) 70, b_cell (wo1 D kd a ad) 70 (s1z 70)) H := atE (i := 70) (at_ 70 (by decide)) F71
  have G71 : va_at D vwCl (b_ad (wo1 D kd a ad) 71, b_cell (wo1 D kd a ad) 71 (s1z 71)) H := atE (i := 71) (at_ 71 (by decide)) F72
  have G72 : va_at D vwCl (b_ad (wo1 D kd a ad) 72, b_cell (wo1 D kd a ad) 72 (s1z 72)) H := atE (i := 72) (at_ 72 (by decide)) F73
  have G73 : va_at D vwCl (b_ad (wo1 D kd a ad) 73, b_cell (wo1 D kd a ad) 73 (s1z 73)) H := atE (i := 73) (at_ 73 (by decide)) F74
  have G74 : va_at D vwCl (b_ad (wo1 D kd a ad) 74, b_cell (wo1 D kd a ad) 74 (s1z 74)) H := atE (i := 74) (at_ 74 (by decide)) F75
  have G75 : va_at D vwCl (b_ad (wo1 D kd a ad) 75, b_cell (wo1 D kd a ad) 75 (s1z 75)) H := atE (i := 205) (at_ 205 (by decide)) F78
  have G76 : va_at D vwCl (b_ad (wo1 D kd a ad) 76, b_cell (wo1 D kd a ad) 76 (s1z 76)) H := atQ (atE (i := 75) (at_ 75 (by decide)) F76) (fun i hi => by
    show (if i < 129 then some (a (0 + 69 + 7 + i)) else none) = some (if 69 + 8 + i < 1000 then a (ord1 (69 + 8 + i)) else ad (69 + 8 + i))
    rw [if_pos hi, if_pos (by omega), show ord1 (69 + 8 + i) = 0 + 69 + 7 + i by unfold ord1; rw [if_neg (by omega), if_pos (by omega)]; omega])
  have G206 : va_at D vwCl (b_ad (wo1 D kd a ad) 206, b_cell (wo1 D kd a ad) 206 (s1z 206)) H := atE (i := 206) (at_ 206 (by decide)) F79
  have GR : ∀ i, i < 129 → va_at D vwCl (b_ad (wo1 D kd a ad) (77 + i), b_cell (wo1 D kd a ad) (77 + i) (s1z (77 + i))) H := fun i hi => by
    have z := atE (at_ (0 + 69 + 7 + i) (by omega)) (F77 i hi)
    have e1 : b_ad (wo1 D kd a ad) (77 + i) = a (0 + 69 + 7 + i) := by
      show (if 77 + i < 1000 then a (ord1 (77 + i)) else ad (77 + i)) = _
      rw [if_pos (by omega), show ord1 (77 + i) = 0 + 69 + 7 + i by unfold ord1; rw [if_neg (by omega), if_pos (by omega)]; omega]
    have e2 : b_cell (wo1 D kd a ad) (77 + i) (s1z (77 + i)) = .inl (kd 0, 9, .inl (fun _ => 0)) := by
      rw [b_cell_i (show b_sh (wo1 D kd a ad) (77 + i) = .inl (.inl 9) from sh1_row hi), show s1z (77 + i) = fun _ => 0 from funext fun k => s1z_0 (by omega) (by omega) (by omega)]
      rfl
    rw [e1, e2]
    exact z
  have key : ∀ j ∈ ([0, 1, 2, 3, 4, 5, 6, 7, 8, 9, 10, 11, 12, 13, 14, 15, 16, 17, 18, 19, 20, 21, 22, 23, 24, 25, 26, 27, 28, 29, 30, 31, 32, 33, 34, 35, 36, 37, 38, 39, 40, 41, 42, 43, 44, 45, 46, 47, 48, 49, 50, 51, 52, 53, 54, 55, 56, 57, 58, 59, 60, 61, 62, 63, 64, 65, 66, 67, 68, 69, 70, 71, 72, 73, 74, 75, 76] : List Nat), va_at D vwCl (b_ad (wo1 D kd a ad) j, b_cell (wo1 D kd a ad) j (s1z j)) H := List.forall_mem_cons.mpr ⟨G0, List.forall_mem_cons.mpr ⟨G1, List.forall_mem_cons.mpr ⟨G2, List.forall_mem_cons.mpr ⟨G3, List.forall_mem_cons.mpr ⟨G4, List.forall_mem_cons.mpr ⟨G5, List.forall_mem_cons.mpr ⟨G6, List.forall_mem_cons.mpr ⟨G7, List.forall_mem_cons.mpr ⟨G8, List.forall_mem_cons.mpr ⟨G9, List.forall_mem_cons.mpr ⟨G10, List.forall_mem_cons.mpr ⟨G11, List.forall_mem_cons.mpr ⟨G12, List.forall_mem_cons.mpr ⟨G13, List.forall_mem_cons.mpr ⟨G14, List.forall_mem_cons.mpr ⟨G15, List.forall_mem_cons.mpr ⟨G16, List.forall_mem_cons.mpr ⟨G17, List.forall_mem_cons.mpr ⟨G18, List.forall_mem_cons.mpr ⟨G19, List.forall_mem_cons.mpr ⟨G20, List.forall_mem_cons.mpr ⟨G21, List.forall_mem_cons.mpr ⟨G22, List.forall_mem_cons.mpr ⟨G23, List.forall_mem_cons.mpr ⟨G24, List.forall_mem_cons.mpr ⟨G25, List.forall_mem_cons.mpr ⟨G26, List.forall_mem_cons.mpr ⟨G27, List.forall_mem_cons.mpr ⟨G28, List.forall_mem_cons.mpr ⟨G29, List.forall_mem_cons.mpr ⟨G30, List.forall_mem_cons.mpr ⟨G31, List.forall_mem_cons.mpr ⟨G32, List.forall_mem_cons.mpr ⟨G33, List.forall_mem_cons.mpr ⟨G34, List.forall_mem_cons.mpr ⟨G35, List.forall_mem_cons.mpr ⟨G36, List.forall_mem_cons.mpr ⟨G37, List.forall_mem_cons.mpr ⟨G38, List.forall_mem_cons.mpr ⟨G39, List.forall_mem_cons.mpr ⟨G40, List.forall_mem_cons.mpr ⟨G41, List.forall_mem_cons.mpr ⟨G42, List.forall_mem_cons.mpr ⟨G43, List.forall_mem_cons.mpr ⟨G44, List.forall_mem_cons.mpr ⟨G45, List.forall_mem_cons.mpr ⟨G46, List.forall_mem_cons.mpr ⟨G47, List.forall_mem_cons.mpr ⟨G48, List.forall_mem_cons.mpr ⟨G49, List.forall_mem_cons.mpr ⟨G50, List.forall_mem_cons.mpr ⟨G51, List.forall_mem_cons.mpr ⟨G52, List.forall_mem_cons.mpr ⟨G53, List.forall_mem_cons.mpr ⟨G54, List.forall_mem_cons.mpr ⟨G55, List.forall_mem_cons.mpr ⟨G56, List.forall_mem_cons.mpr ⟨G57, List.forall_mem_cons.mpr ⟨G58, List.forall_mem_cons.mpr ⟨G59, List.forall_mem_cons.mpr ⟨G60, List.forall_mem_cons.mpr ⟨G61, List.forall_mem_cons.mpr ⟨G62, List.forall_mem_cons.mpr ⟨G63, List.forall_mem_cons.mpr ⟨G64, List.forall_mem_cons.mpr ⟨G65, List.forall_mem_cons.mpr ⟨G66, List.forall_mem_cons.mpr ⟨G67, List.forall_mem_cons.mpr ⟨G68, List.forall_mem_cons.mpr ⟨G69, List.forall_mem_cons.mpr ⟨G70, List.forall_mem_cons.mpr ⟨G71, List.forall_mem_cons.mpr ⟨G72, List.forall_mem_cons.mpr ⟨G73, List.forall_mem_cons.mpr ⟨G74, List.forall_mem_cons.mpr ⟨G75, List.forall_mem_cons.mpr ⟨G76, fun _ h => absurd h List.not_mem_nil⟩⟩⟩⟩⟩⟩⟩⟩⟩⟩⟩⟩⟩⟩⟩⟩⟩⟩⟩⟩⟩⟩⟩⟩⟩⟩⟩⟩⟩⟩⟩⟩⟩⟩⟩⟩⟩⟩⟩⟩⟩⟩⟩⟩⟩⟩⟩⟩⟩⟩⟩⟩⟩⟩⟩⟩⟩⟩⟩⟩⟩⟩⟩⟩⟩⟩⟩⟩⟩⟩⟩⟩⟩⟩⟩⟩⟩
  intro j q hq
  obtain ⟨hj, rfl⟩ := b_wl_inv hq
  have hj : j < 207 := hj
  by_cases c1 : j < 77
  · exact key j (by rw [show ([0, 1, 2, 3, 4, 5, 6, 7, 8, 9, 10, 11, 12, 13, 14, 15, 16, 17, 18, 19, 20, 21, 22, 23, 24, 25, 26, 27, 28, 29, 30, 31, 32, 33, 34, 35, 36, 37, 38, 39, 40, 41, 42, 43, 44, 45, 46, 47, 48, 49, 50, 51, 52, 53, 54, 55, 56, 57, 58, 59, 60, 61, 62, 63, 64, 65, 66, 67, 68, 69, 70, 71, 72, 73, 74, 75, 76] : List Nat) = List.range 77 by decide +kernel]; exact List.mem_range.mpr c1)
  · by_cases c2 : j = 206
    · subst c2; exact G206
    · have := GR (j - 77) (by omega)
      rw [show 77 + (j - 77) = j by omega] at this
      exact this
set_option maxHeartbeats 4000000 in
set_option maxRecDepth 100000 in
theorem toW2 {D : va_G} {kd : Nat → ClassId} {a ad : bAd} {c : bC} {H : Heap} (hk : kModel ad kd a 207 c) (hP : va_P D vwCl (nW 223 a c) H) : va_P D vwCl (b_wl (wo2 D kd a ad) s2z) H := by
  have at_ : ∀ i, i < 223 → va_at D vwCl (a i, c i) H := fun i hi => hP i _ (nW_get hi)
  obtain ⟨F1, F2, F3, F4, F5, F6, F7, F8, F9, F10, F11, F12, F13, F14, F15, F16⟩ := hk
  have G0 : va_at D vwCl (b_ad (wo2 D kd a ad) 0, b_cell (wo2 D kd a ad) 0 (s2z 0)) H := atE (i := 207) (at_ 207 (by decide)) F1
  have G1 : va_at D vwCl (b_ad (wo2 D kd a ad) 1, b_cell (wo2 D kd a ad) 1 (s2z 1)) H := by
    have z := atE (i := 208) (at_ 208 (by decide)) F2
    rw [show (upd (upd (fun _ => 0) 1 2) 11 1 : Nat → Int32) = s2z 1 from funext fun k => by
      unfold s2z upd
      by_cases c1 : k = 11
      · subst c1; rfl
      · rw [if_neg c1]
        by_cases c2 : k = 1
        · subst c2; rfl
        · rw [if_neg c2, if_neg (fun q => c2 q.2), if_neg (fun q => c1 q.2)]] at z
    exact z
  have G2 : va_at D vwCl (b_ad (wo2 D kd a ad) 2, b_cell (wo2 D kd a ad) 2 (s2z 2)) H := atE (i := 209) (at_ 209 (by decide)) F3
  have G3 : va_at D vwCl (b_ad (wo2 D kd a ad) 3, b_cell (wo2 D kd a ad) 3 (s2z 3)) H := atE (i := 210) (at_ 210 (by decide)) F4
  have G4 : va_at D vwCl (b_ad (wo2 D kd a ad) 4, b_cell (wo2 D kd a ad) 4 (s2z 4)) H := atE (i := 211) (at_ 211 (by decide)) F5
  have G5 : va_at D vwCl (b_ad (wo2 D kd a ad) 5, b_cell (wo2 D kd a ad) 5 (s2z 5)) H := atE (i := 212) (at_ 212 (by decide)) F6
  have G6 : va_at D vwCl (b_ad (wo2 D kd a ad) 6, b_cell (wo2 D kd a ad) 6 (s2z 6)) H := atQ (atE (i := 213) (at_ 213 (by decide)) F7) (fun i hi => by rcases (show i = 0 ∨ i = 1 by omega) with rfl | rfl <;> rfl)
  have G7 : va_at D vwCl (b_ad (wo2 D kd a ad) 7, b_cell (wo2 D kd a ad) 7 (s2z 7)) H := atE (i := 214) (at_ 214 (by decide)) F8
  have G8 : va_at D vwCl (b_ad (wo2 D kd a ad) 8, b_cell (wo2 D kd a ad) 8 (s2z 8)) H := atE (i := 215) (at_ 215 (by decide)) F9
  have G9 : va_at D vwCl (b_ad (wo2 D kd a ad) 9, b_cell (wo2 D kd a ad) 9 (s2z 9)) H := atE (i := 216) (at_ 216 (by decide)) F10
  have G10 : va_at D vwCl (b_ad (wo2 D kd a ad) 10, b_cell (wo2 D kd a ad) 10 (s2z 10)) H := atE (i := 217) (at_ 217 (by decide)) F11
  have G11 : va_at D vwCl (b_ad (wo2 D kd a ad) 11, b_cell (wo2 D kd a ad) 11 (s2z 11)) H := atE (i := 218) (at_ 218 (by decide)) F12
  have G12 : va_at D vwCl (b_ad (wo2 D kd a ad) 12, b_cell (wo2 D kd a ad) 12 (s2z 12)) H := atE (i := 219) (at_ 219 (by decide)) F13
  have G13 : va_at D vwCl (b_ad (wo2 D kd a ad) 13, b_cell (wo2 D kd a ad) 13 (s2z 13)) H := atE (i := 220) (at_ 220 (by decide)) F14
  have G14 : va_at D vwCl (b_ad (wo2 D kd a ad) 14, b_cell (wo2 D kd a ad) 14 (s2z 14)) H := atE (i := 221) (at_ 221 (by decide)) F15
  have G15 : va_at D vwCl (b_ad (wo2 D kd a ad) 15, b_cell (wo2 D kd a ad) 15 (s2z 15)) H := atE (i := 222) (at_ 222 (by decide)) F16
  have key : ∀ j ∈ ([0, 1, 2, 3, 4, 5, 6, 7, 8, 9, 10, 11, 12, 13, 14, 15] : List Nat), va_at D vwCl (b_ad (wo2 D kd a ad) j, b_cell (wo2 D kd a ad) j (s2z j)) H := List.forall_mem_cons.mpr ⟨G0, List.forall_mem_cons.mpr ⟨G1, List.forall_mem_cons.mpr ⟨G2, List.forall_mem_cons.mpr ⟨G3, List.forall_mem_cons.mpr ⟨G4, List.forall_mem_cons.mpr ⟨G5, List.forall_mem_cons.mpr ⟨G6, List.forall_mem_cons.mpr ⟨G7, List.forall_mem_cons.mpr ⟨G8, List.forall_mem_cons.mpr ⟨G9, List.forall_mem_cons.mpr ⟨G10, List.forall_mem_cons.mpr ⟨G11, List.forall_mem_cons.mpr ⟨G12, List.forall_mem_cons.mpr ⟨G13, List.forall_mem_cons.mpr ⟨G14, List.forall_mem_cons.mpr ⟨G15, fun _ h => absurd h List.not_mem_nil⟩⟩⟩⟩⟩⟩⟩⟩⟩⟩⟩⟩⟩⟩⟩⟩
  intro j q hq
  obtain ⟨hj, rfl⟩ := b_wl_inv hq
  have hj : j < 16 := hj
  exact key j (by rw [show ([0, 1, 2, 3, 4, 5, 6, 7, 8, 9, 10, 11, 12, 13, 14, 15] : List Nat) = List.range 16 by decide +kernel]; exact List.mem_range.mpr hj)
section WI
variable {D : va_G} {kd : Nat → ClassId} {a ad : bAd} {c : bC} {B : Nat}
theorem ord1_lt {j : Nat} (h : j < 207) : ord1 j < 207 := by
  unfold ord1
  by_cases c1 : j = 75
  · rw [if_pos c1]; decide
  · rw [if_neg c1]
    by_cases c2 : 76 ≤ j ∧ j ≤ 205
    · rw [if_pos c2]; omega
    · rw [if_neg c2]; exact h
theorem ord1_inj {i j : Nat} (hi : i < 207) (hj : j < 207) (h : ord1 i = ord1 j) : i = j := by
  unfold ord1 at h
  by_cases c1 : i = 75
  · rw [if_pos c1] at h
    by_cases d1 : j = 75
    · omega
    · rw [if_neg d1] at h
      by_cases d2 : 76 ≤ j ∧ j ≤ 205
      · rw [if_pos d2] at h; omega
      · rw [if_neg d2] at h; omega
  · rw [if_neg c1] at h
    by_cases c2 : 76 ≤ i ∧ i ≤ 205
    · rw [if_pos c2] at h
      by_cases d1 : j = 75
      · rw [if_pos d1] at h; omega
      · rw [if_neg d1] at h
        by_cases d2 : 76 ≤ j ∧ j ≤ 205
        · rw [if_pos d2] at h; omega
        · rw [if_neg d2] at h; omega
    · rw [if_neg c2] at h
      by_cases d1 : j = 75
      · rw [if_pos d1] at h; omega
      · rw [if_neg d1] at h
        by_cases d2 : 76 ≤ j ∧ j ≤ 205
        · rw [if_pos d2] at h; omega
        · rw [if_neg d2] at h; omega
theorem w1_ad {j : Nat} (h : j < 207) : b_ad (wo1 D kd a ad) j = a (ord1 j) := if_pos (show j < 1000 by omega)
theorem w2_ad {j : Nat} (h : j < 16) : b_ad (wo2 D kd a ad) j = a (207 + j) := if_pos (show j < 1000 by omega)
theorem nW_inj (hD : va_D (nA B) (nW 223 a c)) {i j : Nat} (hi : i < 223) (hj : j < 223) (h : a i = a j) : i = j := hD.1 i j _ _ (nW_get hi) (nW_get hj) h
theorem w1_inj (hD : va_D (nA B) (nW 223 a c)) : b_inj (wo1 D kd a ad) := fun i j hi hj h => by
  have hi : i < 207 := hi
  have hj : j < 207 := hj
  rw [w1_ad hi, w1_ad hj] at h
  exact ord1_inj hi hj (nW_inj hD (by have := ord1_lt hi; omega) (by have := ord1_lt hj; omega) h)
theorem w2_inj (hD : va_D (nA B) (nW 223 a c)) : b_inj (wo2 D kd a ad) := fun i j hi hj h => by
  have hi : i < 16 := hi
  have hj : j < 16 := hj
  rw [w2_ad hi, w2_ad hj] at h
  have := nW_inj hD (by omega) (by omega) h
  omega
theorem w1_A (hD : va_D (nA B) (nW 223 a c)) : ∀ q, b_A (wo1 D kd a ad) q → B ≤ q := fun q hq => by
  obtain ⟨j, hj, rfl⟩ := hq
  have hj : j < 207 := hj
  rw [w1_ad hj]
  exact hD.2 (ord1 j) _ (nW_get (by have := ord1_lt hj; omega))
theorem w2_A (hD : va_D (nA B) (nW 223 a c)) : ∀ q, b_A (wo2 D kd a ad) q → B ≤ q := fun q hq => by
  obtain ⟨j, hj, rfl⟩ := hq
  have hj : j < 16 := hj
  rw [w2_ad hj]
  exact hD.2 (207 + j) _ (nW_get (by omega))
theorem w12 (hD : va_D (nA B) (nW 223 a c)) : ∀ q, b_A (wo1 D kd a ad) q → ¬ b_A (wo2 D kd a ad) q := fun q h1 h2 => by
  obtain ⟨i, hi, rfl⟩ := h1
  obtain ⟨j, hj, e⟩ := h2
  have hi : i < 207 := hi
  have hj : j < 16 := hj
  rw [w1_ad hi, w2_ad hj] at e
  have := nW_inj hD (by have := ord1_lt hi; omega) (by omega) e
  have := ord1_lt hi
  omega
end WI
