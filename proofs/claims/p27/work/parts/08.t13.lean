def Lt_X8_value : WL := [(9, 2, 5), (9, 6, 8), (14, 0, 2000000)]
def LRt_X8_value : WL := []
set_option maxRecDepth 100000 in
set_option maxHeartbeats 4000000 in
theorem t_X8_value (l : Launch) (D : va_G) (cy : Nat → ClassId) (tx : (Nat → Nat) × (Nat → Nat)) (base Z : Nat) (K N : Nat → Nat) (Ma : MT) (Ra : RT) (Ja : JT) (hTy : Ty Z K N Ma Ra) (a0 : Nat) (hz_a0 : a0 < Z) (hk_a0 : K a0 = 9) (tb : Nat) (k_tb : Ra a0 0 = some tb) (ln : Int32) (k_ln : Ma a0 1 = ln) (h_ln : iv 0 400 ln) (pa : Int32) (k_pa : Ma a0 2 = pa) (h_pa : iv 0 420 pa) (fa : Int32) (k_fa : Ma a0 3 = fa) (h_fa : iv (-2147483648) 2147483647 fa) (hg : ¬ fa.toInt = 0 ∨ pa.toInt ≤ ln.toInt) : Met l yX8_value [Cond.code yX8_value cX8_value 3 none] (md_rm 7 0 0) (va_Pc [.ref (base + a0)] (md_U D cy tx base Z K N Ma Ra Ja)) (mQv D cy tx base (fun u => TP Z K N Lt_X8_value LRt_X8_value Ma Ra u ∧ ((∃ x0 x1 : Int32, u.2.2.2.1 a0 2 = x0 ∧ u.2.2.2.1 a0 3 = x1 ∧ iv 0 420 x0 ∧ iv (-2147483648) 2147483647 x1 ∧ ((x0.toInt ≤ ln.toInt ∨ x0.toInt ≤ pa.toInt) ∧ (¬ x1.toInt = 0 ∨ x0.toInt ≤ ln.toInt) ∧ (¬ x1.toInt = 0 ∨ fa.toInt = 0)))))) 0 0 (fun q => base ≤ q) := by
  refine tw_ofW (L := Lt_X8_value) (LR := LRt_X8_value) (by decide) (Nat.le_of_ble_eq_true rfl) hTy ?_
  intro p e s m args below meth c Q ls hx hb hr hlocks hown hml hW hK hT hS hQ hl
  have hl : lv_has ls 3 [(0, .ref (base + a0))] := hl
  obtain ⟨hz_tb, hk_tb, hn_tb⟩ := hTy.refn hz_a0 hk_a0 (show rtR 9 0 = (13, 400, 1) from rfl) k_tb
  have hn_tb := hn_tb (by decide)
  refine lv_aload_n hx hb dX8_value_0 rfl (lv_at hl 0 rfl) ?_
  refine tw_goi hS (md_runU (As := []) (rest := []) hx hb hml hown hW hK hT hS.1 (t_X10_hereBehindBlanks l D cy tx base Z K N Ma Ra Ja hS.2.1 a0 hz_a0 hk_a0 tb k_tb ln k_ln (iv_mono h_ln (by decide) (by decide)) pa k_pa (iv_mono h_pa (by decide) (by decide))) s_X8_26_X8 ⟨rfl, rfl, ⟨Nat.le_of_ble_eq_true rfl, Nat.le_of_ble_eq_true rfl⟩, ⟨Nat.le_of_ble_eq_true rfl, Nat.le_of_ble_eq_true rfl⟩⟩ hz_a0 hk_a0 (by decide) rfl rfl hl.1 rfl (Nat.le_of_ble_eq_true rfl) dX8_value_1) rfl rfl (fun x7 H locs M3 R4 J5 hS f1 g2 E6 => ?_)
  obtain ⟨h_x7, p8⟩ := E6
  obtain ⟨x10, k11, h9, q12⟩ := p8
  have k11 : M3 a0 2 = x10 := k11
  have h13 : iv 0 420 x10 := by
    have := (h_fa).1; have := (h_fa).2; have := (h_ln).1; have := (h_ln).2; have := (h_pa).1; have := (h_pa).2; have := (h9).1; have := (h9).2; exact ⟨by omega, by omega⟩
  refine lv_pop hx hb dX8_value_4 rfl ?_
  refine lv_aload_n hx hb dX8_value_5 rfl (lv_at hl 0 rfl) ?_
  refine tw_getk hx hb hW hown hK hS f_X8_36_8 hz_a0 hk_a0 (v := x10) k11 dX8_value_6 ?_
  refine lv_istore_n (lv' := [(1, .int x10), (0, .ref (base + a0))]) hx hb dX8_value_9 rfl hl (by decide) rfl (fun ls hl => ?_)
  refine lv_aload_n hx hb dX8_value_10 rfl (lv_at hl 1 rfl) ?_
  have k14 : R4 a0 0 = some tb := (Fr.kp (k := 0) g2 hk_a0 rfl).trans k_tb
  have k15 : M3 a0 1 = ln := (Fr.kp (k := 1) f1 hk_a0 rfl).trans k_ln
  refine tw_goi hS (md_runU (As := []) (rest := []) hx hb hml hown hW hK hT hS.1 (t_X10_isDigitHere l D cy tx base Z K N M3 R4 J5 hS.2.1 a0 hz_a0 hk_a0 tb k14 ln k15 (iv_mono h_ln (by decide) (by decide)) x10 k11 (iv_mono h13 (by decide) (by decide))) s_X8_97_X8 ⟨rfl, rfl, ⟨Nat.le_of_ble_eq_true rfl, Nat.le_of_ble_eq_true rfl⟩, ⟨Nat.le_of_ble_eq_true rfl, Nat.le_of_ble_eq_true rfl⟩⟩ hz_a0 hk_a0 (by decide) rfl rfl hl.1 rfl (Nat.le_of_ble_eq_true rfl) dX8_value_11) rfl rfl (fun x22 H locs M18 R19 J20 hS f16 g17 E21 => ?_)
  obtain ⟨h_x22, p23⟩ := E21
  refine lv_if_eq (tgt := 33) hx hb dX8_value_14 (by decide) (fun c24 => ?_) (fun c24 => ?_)
  · have q25 : x22.toInt = 0 := ti_eq c24
    have h26 : iv 0 0 x22 := ⟨by have := (h_x22).1; have := ((iv_c (c := 0) (n := 0) (by decide))).1; omega, by have := (h_x22).2; have := ((iv_c (c := 0) (n := 0) (by decide))).2; omega⟩
    refine lv_aload_n hx hb dX8_value_33 rfl (lv_at hl 1 rfl) ?_
    refine va_ldcS hx hb hown hT.2.1.2.1 dX8_value_34 ?_
    have k27 : R19 a0 0 = some tb := ((Fr.kp (k := 0) g17 hk_a0 rfl).trans (Fr.kp (k := 0) g2 hk_a0 rfl)).trans k_tb
    have k28 : M18 a0 1 = ln := ((Fr.kp (k := 1) f16 hk_a0 rfl).trans (Fr.kp (k := 1) f1 hk_a0 rfl)).trans k_ln
    have k29 : M18 a0 2 = x10 := (Fr.kp (k := 2) f16 hk_a0 rfl).trans k11
    refine tw_goi hS (md_runU (As := [.ref (tx.1 1)]) (rest := []) hx hb hml hown hW hK hT hS.1 (t_X10_whichWord l D cy tx base Z K N M18 R19 J20 hS.2.1 a0 hz_a0 hk_a0 1 (by decide) tb k27 ln k28 (iv_mono h_ln (by decide) (by decide)) x10 k29 (iv_mono h13 (by decide) (by decide))) s_X8_32_X8 ⟨rfl, rfl, ⟨Nat.le_of_ble_eq_true rfl, Nat.le_of_ble_eq_true rfl⟩, ⟨Nat.le_of_ble_eq_true rfl, Nat.le_of_ble_eq_true rfl⟩⟩ hz_a0 hk_a0 (by decide) rfl rfl hl.1 rfl (Nat.le_of_ble_eq_true rfl) dX8_value_36) rfl rfl (fun x36 H locs M32 R33 J34 hS f30 g31 E35 => ?_)
    obtain ⟨h_x36, p37⟩ := E35
    obtain ⟨x39, k40, h38, q41⟩ := p37
    have k40 : M32 a0 4 = x39 := k40
    have h42 : iv 0 420 x39 := by
      have := (h_fa).1; have := (h_fa).2; have := (h_ln).1; have := (h_ln).2; have := (h_pa).1; have := (h_pa).2; have := (h13).1; have := (h13).2; have := (h38).1; have := (h38).2; exact ⟨by omega, by omega⟩
    refine lv_istore_n (lv' := [(2, .int x36), (1, .int x10), (0, .ref (base + a0))]) hx hb dX8_value_39 rfl hl (by decide) rfl (fun ls hl => ?_)
    refine lv_iload_n hx hb dX8_value_40 rfl (lv_at hl 0 rfl) ?_
    refine lv_iconst (v := (-1)) hx hb dX8_value_41 (by decide) ?_
    refine lv_icmp_ne (tgt := 54) hx hb dX8_value_42 (by decide) (fun c43 => ?_) (fun c43 => ?_)
    · have q44 : ¬ x36.toInt = (-1) := ti_ne c43
      refine lv_aload_n hx hb dX8_value_54 rfl (lv_at hl 2 rfl) ?_
      refine tw_gov hS (md_runU (As := []) (rest := []) hx hb hml hown hW hK hT hS.1 (t_X10_passWord l D cy tx base Z K N M32 R33 J34 hS.2.1 a0 hz_a0 hk_a0 x39 k40 (iv_mono h42 (by decide) (by decide))) s_X8_43_X8 ⟨rfl, rfl, ⟨Nat.le_of_ble_eq_true rfl, Nat.le_of_ble_eq_true rfl⟩, ⟨Nat.le_of_ble_eq_true rfl, Nat.le_of_ble_eq_true rfl⟩⟩ hz_a0 hk_a0 (by decide) rfl rfl hl.1 rfl (Nat.le_of_ble_eq_true rfl) dX8_value_55) rfl rfl (fun H locs M47 R48 J49 hS f45 g46 E50 => ?_)
      have p51 := E50
      have k52 : M47 a0 2 = x39 := p51
      refine lv_aload_n hx hb dX8_value_58 rfl (lv_at hl 2 rfl) ?_
      refine lv_iconst (v := 1) hx hb dX8_value_59 (by decide) ?_
      refine lv_iload_n hx hb dX8_value_60 rfl (lv_at hl 0 rfl) ?_
      refine tw_goi hS (md_runV (As := [.int 1, .int x36]) (rest := []) hx hb hml hown hW hK hT hS.1 (t_X8_put l D cy tx base Z K N M47 R48 J49 hS.2.1 a0 hz_a0 hk_a0 1 (iv_mono (iv_c (c := 1) (n := 1) (by decide)) (by decide) (by decide)) x36 h_x36) s_X8_54 ⟨rfl, rfl, ⟨Nat.le_of_ble_eq_true rfl, Nat.le_of_ble_eq_true rfl⟩, ⟨Nat.le_of_ble_eq_true rfl, Nat.le_of_ble_eq_true rfl⟩⟩ hz_a0 hk_a0 (by decide) rfl rfl hl.1 rfl (Nat.le_of_ble_eq_true rfl) dX8_value_61) rfl rfl (fun x59 H locs M55 R56 J57 hS f53 g54 E58 => ?_)
      have h_x59 := E58
      refine lv_pop hx hb dX8_value_64 rfl ?_
      refine lv_aload_n hx hb dX8_value_65 rfl (lv_at hl 2 rfl) ?_
      refine lv_iload_n hx hb dX8_value_66 rfl (lv_at hl 1 rfl) ?_
      have k60 : M55 a0 3 = fa := ((Fr.kp (k := 3) f53 hk_a0 rfl).trans ((Fr.kp (k := 3) f45 hk_a0 rfl).trans ((Fr.kp (k := 3) f30 hk_a0 rfl).trans ((Fr.kp (k := 3) f16 hk_a0 rfl).trans (Fr.kp (k := 3) f1 hk_a0 rfl))))).trans k_fa
      refine tw_gov hS (md_runV (As := [.int x10]) (rest := []) hx hb hml hown hW hK hT hS.1 (t_X8_weigh l D cy tx base Z K N M55 R56 J57 hS.2.1 a0 hz_a0 hk_a0 x10 (iv_mono h13 (by decide) (by decide)) fa k60 (iv_mono h_fa (by decide) (by decide))) s_X8_88 ⟨rfl, rfl, ⟨Nat.le_of_ble_eq_true rfl, Nat.le_of_ble_eq_true rfl⟩, ⟨Nat.le_of_ble_eq_true rfl, Nat.le_of_ble_eq_true rfl⟩⟩ hz_a0 hk_a0 (by decide) rfl rfl hl.1 rfl (Nat.le_of_ble_eq_true rfl) dX8_value_67) rfl rfl (fun H locs M63 R64 J65 hS f61 g62 E66 => ?_)
      have p67 := E66
      obtain ⟨x69, k70, h68, q71⟩ := p67
      have k70 : M63 a0 3 = x69 := k70
      have k72 : M63 a0 2 = x39 := ((Fr.kp (k := 2) f61 hk_a0 rfl).trans (Fr.kp (k := 2) f53 hk_a0 rfl)).trans k52
      have q73 : (x39.toInt ≤ ln.toInt ∨ x39.toInt ≤ pa.toInt) ∧ (¬ x69.toInt = 0 ∨ x39.toInt ≤ ln.toInt) ∧ (¬ x69.toInt = 0 ∨ fa.toInt = 0) := by
        have := (h_fa).1; have := (h_fa).2; have := (h_ln).1; have := (h_ln).2; have := (h_pa).1; have := (h_pa).2; have := (h13).1; have := (h13).2; have := (h42).1; have := (h42).2; have := (h68).1; have := (h68).2; omega
      exact tw_endv hx hb hr hlocks hK hT hS hQ (⟨x39, x69, k72, k70, h42, h68, q73⟩) dX8_value_70
    · have q74 : x36.toInt = (-1) := ti_eq c43
      have h75 : iv (-1) (-1) x36 := ⟨by have := (h_x36).1; have := ((iv_c (c := (-1)) (n := (-1)) (by decide))).1; omega, by have := (h_x36).2; have := ((iv_c (c := (-1)) (n := (-1)) (by decide))).2; omega⟩
      refine lv_aload_n hx hb dX8_value_45 rfl (lv_at hl 2 rfl) ?_
      refine lv_aload_n hx hb dX8_value_46 rfl (lv_at hl 2 rfl) ?_
      have k76 : M32 a0 2 = x10 := (Fr.kp (k := 2) f30 hk_a0 rfl).trans k29
      refine tw_getk hx hb hW hown hK hS f_X8_36_8 hz_a0 hk_a0 (v := x10) k76 dX8_value_47 ?_
      refine lv_iconst (v := 0) hx hb dX8_value_50 (by decide) ?_
      refine tw_gov hS (md_runU (As := [.int x10, .int 0]) (rest := []) hx hb hml hown hW hK hT hS.1 (t_X10_fail l D cy tx base Z K N M32 R33 J34 hS.2.1 a0 hz_a0 hk_a0 x10 (iv_mono h13 (by decide) (by decide)) 0 (iv_mono (iv_c (c := 0) (n := 0) (by decide)) (by decide) (by decide))) s_X8_39_X8 ⟨rfl, rfl, ⟨Nat.le_of_ble_eq_true rfl, Nat.le_of_ble_eq_true rfl⟩, ⟨Nat.le_of_ble_eq_true rfl, Nat.le_of_ble_eq_true rfl⟩⟩ hz_a0 hk_a0 (by decide) rfl rfl hl.1 rfl (Nat.le_of_ble_eq_true rfl) dX8_value_51) rfl rfl (fun H locs M79 R80 J81 hS f77 g78 E82 => ?_)
      have p83 := E82
      obtain ⟨x85, k86, h84, q87⟩ := p83
      have k86 : M79 a0 3 = x85 := k86
      refine lv_aload_n hx hb dX8_value_54 rfl (lv_at hl 2 rfl) ?_
      have k88 : M79 a0 4 = x39 := (Fr.kp (k := 4) f77 hk_a0 rfl).trans k40
      refine tw_gov hS (md_runU (As := []) (rest := []) hx hb hml hown hW hK hT hS.1 (t_X10_passWord l D cy tx base Z K N M79 R80 J81 hS.2.1 a0 hz_a0 hk_a0 x39 k88 (iv_mono h42 (by decide) (by decide))) s_X8_43_X8 ⟨rfl, rfl, ⟨Nat.le_of_ble_eq_true rfl, Nat.le_of_ble_eq_true rfl⟩, ⟨Nat.le_of_ble_eq_true rfl, Nat.le_of_ble_eq_true rfl⟩⟩ hz_a0 hk_a0 (by decide) rfl rfl hl.1 rfl (Nat.le_of_ble_eq_true rfl) dX8_value_55) rfl rfl (fun H locs M91 R92 J93 hS f89 g90 E94 => ?_)
      have p95 := E94
      have k96 : M91 a0 2 = x39 := p95
      refine lv_aload_n hx hb dX8_value_58 rfl (lv_at hl 2 rfl) ?_
      refine lv_iconst (v := 1) hx hb dX8_value_59 (by decide) ?_
      refine lv_iload_n hx hb dX8_value_60 rfl (lv_at hl 0 rfl) ?_
      refine tw_goi hS (md_runV (As := [.int 1, .int x36]) (rest := []) hx hb hml hown hW hK hT hS.1 (t_X8_put l D cy tx base Z K N M91 R92 J93 hS.2.1 a0 hz_a0 hk_a0 1 (iv_mono (iv_c (c := 1) (n := 1) (by decide)) (by decide) (by decide)) x36 (iv_mono h75 (by decide) (by decide))) s_X8_54 ⟨rfl, rfl, ⟨Nat.le_of_ble_eq_true rfl, Nat.le_of_ble_eq_true rfl⟩, ⟨Nat.le_of_ble_eq_true rfl, Nat.le_of_ble_eq_true rfl⟩⟩ hz_a0 hk_a0 (by decide) rfl rfl hl.1 rfl (Nat.le_of_ble_eq_true rfl) dX8_value_61) rfl rfl (fun x103 H locs M99 R100 J101 hS f97 g98 E102 => ?_)
      have h_x103 := E102
      refine lv_pop hx hb dX8_value_64 rfl ?_
      refine lv_aload_n hx hb dX8_value_65 rfl (lv_at hl 2 rfl) ?_
      refine lv_iload_n hx hb dX8_value_66 rfl (lv_at hl 1 rfl) ?_
      have k104 : M99 a0 3 = x85 := ((Fr.kp (k := 3) f97 hk_a0 rfl).trans (Fr.kp (k := 3) f89 hk_a0 rfl)).trans k86
      refine tw_gov hS (md_runV (As := [.int x10]) (rest := []) hx hb hml hown hW hK hT hS.1 (t_X8_weigh l D cy tx base Z K N M99 R100 J101 hS.2.1 a0 hz_a0 hk_a0 x10 (iv_mono h13 (by decide) (by decide)) x85 k104 (iv_mono h84 (by decide) (by decide))) s_X8_88 ⟨rfl, rfl, ⟨Nat.le_of_ble_eq_true rfl, Nat.le_of_ble_eq_true rfl⟩, ⟨Nat.le_of_ble_eq_true rfl, Nat.le_of_ble_eq_true rfl⟩⟩ hz_a0 hk_a0 (by decide) rfl rfl hl.1 rfl (Nat.le_of_ble_eq_true rfl) dX8_value_67) rfl rfl (fun H locs M107 R108 J109 hS f105 g106 E110 => ?_)
      have p111 := E110
      obtain ⟨x113, k114, h112, q115⟩ := p111
      have k114 : M107 a0 3 = x113 := k114
      have k116 : M107 a0 2 = x39 := ((Fr.kp (k := 2) f105 hk_a0 rfl).trans (Fr.kp (k := 2) f97 hk_a0 rfl)).trans k96
      have q117 : (x39.toInt ≤ ln.toInt ∨ x39.toInt ≤ pa.toInt) ∧ (¬ x113.toInt = 0 ∨ x39.toInt ≤ ln.toInt) ∧ (¬ x113.toInt = 0 ∨ fa.toInt = 0) := by
        have := (h_fa).1; have := (h_fa).2; have := (h_ln).1; have := (h_ln).2; have := (h_pa).1; have := (h_pa).2; have := (h13).1; have := (h13).2; have := (h112).1; have := (h112).2; have := (h42).1; have := (h42).2; have := (h84).1; have := (h84).2; omega
      exact tw_endv hx hb hr hlocks hK hT hS hQ (⟨x39, x113, k116, k114, h42, h112, q117⟩) dX8_value_70
  · have q118 : ¬ x22.toInt = 0 := ti_ne c24
    have h119 : iv 1 1 x22 := ⟨by have := (h_x22).1; have := ((iv_c (c := 0) (n := 0) (by decide))).1; have := ((iv_c (c := 0) (n := 0) (by decide))).2; omega, by have := (h_x22).2; have := ((iv_c (c := 0) (n := 0) (by decide))).1; have := ((iv_c (c := 0) (n := 0) (by decide))).2; omega⟩
    have q120 := p23 c24
    have h121 : iv 0 399 x10 := iv_ltL (y := ln) h13 h_ln q120 (by decide)
    refine lv_aload_n hx hb dX8_value_17 rfl (lv_at hl 1 rfl) ?_
    refine lv_iconst (v := 0) hx hb dX8_value_18 (by decide) ?_
    refine lv_aload_n hx hb dX8_value_19 rfl (lv_at hl 1 rfl) ?_
    refine lv_iconst (v := 0) hx hb dX8_value_20 (by decide) ?_
    refine lv_ldc hx hb hown (hW _ w_4_33 rfl) dX8_value_21 ?_
    have k122 : R19 a0 0 = some tb := ((Fr.kp (k := 0) g17 hk_a0 rfl).trans (Fr.kp (k := 0) g2 hk_a0 rfl)).trans k_tb
    have k123 : M18 a0 1 = ln := ((Fr.kp (k := 1) f16 hk_a0 rfl).trans (Fr.kp (k := 1) f1 hk_a0 rfl)).trans k_ln
    have k124 : M18 a0 2 = x10 := (Fr.kp (k := 2) f16 hk_a0 rfl).trans k11
    have k125 : M18 a0 3 = fa := ((Fr.kp (k := 3) f16 hk_a0 rfl).trans (Fr.kp (k := 3) f1 hk_a0 rfl)).trans k_fa
    refine tw_goi hS (md_runU (As := [.int 0, .int 99999]) (rest := [.int 0, .ref (base + a0)]) hx hb hml hown hW hK hT hS.1 (t_X10_number l D cy tx base Z K N M18 R19 J20 hS.2.1 a0 hz_a0 hk_a0 0 (iv_c (c := 0) (n := 0) (by decide)) 99999 (iv_c (c := 99999) (n := 99999) (by decide)) tb k122 ln k123 (iv_mono h_ln (by decide) (by decide)) x10 k124 (iv_mono h121 (by decide) (by decide)) fa k125 (iv_mono h_fa (by decide) (by decide))) s_X8_101_X8 ⟨rfl, rfl, ⟨Nat.le_of_ble_eq_true rfl, Nat.le_of_ble_eq_true rfl⟩, ⟨Nat.le_of_ble_eq_true rfl, Nat.le_of_ble_eq_true rfl⟩⟩ hz_a0 hk_a0 (by decide) rfl rfl hl.1 rfl (Nat.le_of_ble_eq_true rfl) dX8_value_23) rfl rfl (fun x132 H locs M128 R129 J130 hS f126 g127 E131 => ?_)
    obtain ⟨h_x132, p133⟩ := E131
    obtain ⟨x135, x137, k138, k139, h134, h136, q140⟩ := p133
    have k138 : M128 a0 2 = x135 := k138
    have k139 : M128 a0 3 = x137 := k139
    have h141 : iv 0 400 x135 := by
      have := (h_fa).1; have := (h_fa).2; have := (h_ln).1; have := (h_ln).2; have := (h_pa).1; have := (h_pa).2; have := (h121).1; have := (h121).2; have := (h134).1; have := (h134).2; have := (h136).1; have := (h136).2; exact ⟨by omega, by omega⟩
    refine tw_goi hS (md_runV (As := [.int 0, .int x132]) (rest := []) hx hb hml hown hW hK hT hS.1 (t_X8_put l D cy tx base Z K N M128 R129 J130 hS.2.1 a0 hz_a0 hk_a0 0 (iv_mono (iv_c (c := 0) (n := 0) (by decide)) (by decide) (by decide)) x132 h_x132) s_X8_54 ⟨rfl, rfl, ⟨Nat.le_of_ble_eq_true rfl, Nat.le_of_ble_eq_true rfl⟩, ⟨Nat.le_of_ble_eq_true rfl, Nat.le_of_ble_eq_true rfl⟩⟩ hz_a0 hk_a0 (by decide) rfl rfl hl.1 rfl (Nat.le_of_ble_eq_true rfl) dX8_value_26) rfl rfl (fun x148 H locs M144 R145 J146 hS f142 g143 E147 => ?_)
    have h_x148 := E147
    refine lv_pop hx hb dX8_value_29 rfl ?_
    refine lv_goto (tgt := 65) hx hb dX8_value_30 (by decide) ?_
    refine lv_aload_n hx hb dX8_value_65 rfl (lv_at hl 1 rfl) ?_
    refine lv_iload_n hx hb dX8_value_66 rfl (lv_at hl 0 rfl) ?_
    have k149 : M144 a0 3 = x137 := (Fr.kp (k := 3) f142 hk_a0 rfl).trans k139
    refine tw_gov hS (md_runV (As := [.int x10]) (rest := []) hx hb hml hown hW hK hT hS.1 (t_X8_weigh l D cy tx base Z K N M144 R145 J146 hS.2.1 a0 hz_a0 hk_a0 x10 (iv_mono h121 (by decide) (by decide)) x137 k149 (iv_mono h136 (by decide) (by decide))) s_X8_88 ⟨rfl, rfl, ⟨Nat.le_of_ble_eq_true rfl, Nat.le_of_ble_eq_true rfl⟩, ⟨Nat.le_of_ble_eq_true rfl, Nat.le_of_ble_eq_true rfl⟩⟩ hz_a0 hk_a0 (by decide) rfl rfl hl.1 rfl (Nat.le_of_ble_eq_true rfl) dX8_value_67) rfl rfl (fun H locs M152 R153 J154 hS f150 g151 E155 => ?_)
    have p156 := E155
    obtain ⟨x158, k159, h157, q160⟩ := p156
    have k159 : M152 a0 3 = x158 := k159
    have k161 : M152 a0 2 = x135 := ((Fr.kp (k := 2) f150 hk_a0 rfl).trans (Fr.kp (k := 2) f142 hk_a0 rfl)).trans k138
    have q162 : (x135.toInt ≤ ln.toInt ∨ x135.toInt ≤ pa.toInt) ∧ (¬ x158.toInt = 0 ∨ x135.toInt ≤ ln.toInt) ∧ (¬ x158.toInt = 0 ∨ fa.toInt = 0) := by
      have := (h_fa).1; have := (h_fa).2; have := (h_ln).1; have := (h_ln).2; have := (h_pa).1; have := (h_pa).2; have := (h121).1; have := (h121).2; have := (h141).1; have := (h141).2; have := (h136).1; have := (h136).2; have := (h157).1; have := (h157).2; omega
    exact tw_endv hx hb hr hlocks hK hT hS hQ (⟨x135, x158, k161, k159, (iv_mono h141 (by decide) (by decide)), h157, q162⟩) dX8_value_70
def Lt_X8_sum : WL := [(9, 2, 5), (9, 6, 8), (14, 0, 2000000)]
def LRt_X8_sum : WL := []
set_option maxRecDepth 100000 in
set_option maxHeartbeats 4000000 in
theorem t_X8_sum (l : Launch) (D : va_G) (cy : Nat → ClassId) (tx : (Nat → Nat) × (Nat → Nat)) (base Z : Nat) (K N : Nat → Nat) (Ma : MT) (Ra : RT) (Ja : JT) (hTy : Ty Z K N Ma Ra) (a0 : Nat) (hz_a0 : a0 < Z) (hk_a0 : K a0 = 9) (tb : Nat) (k_tb : Ra a0 0 = some tb) (ln : Int32) (k_ln : Ma a0 1 = ln) (h_ln : iv 0 400 ln) (pa : Int32) (k_pa : Ma a0 2 = pa) (h_pa : iv 0 420 pa) (fa : Int32) (k_fa : Ma a0 3 = fa) (h_fa : iv (-2147483648) 2147483647 fa) (hg : ¬ fa.toInt = 0 ∨ pa.toInt ≤ ln.toInt) : Met l yX8_sum [Cond.code yX8_sum cX8_sum 5 none] (md_rm 8 0 0) (va_Pc [.ref (base + a0)] (md_U D cy tx base Z K N Ma Ra Ja)) (mQv D cy tx base (fun u => TP Z K N Lt_X8_sum LRt_X8_sum Ma Ra u ∧ ((∃ x0 x1 : Int32, u.2.2.2.1 a0 2 = x0 ∧ u.2.2.2.1 a0 3 = x1 ∧ iv 0 420 x0 ∧ iv (-2147483648) 2147483647 x1 ∧ ((x0.toInt ≤ ln.toInt ∨ x0.toInt ≤ pa.toInt) ∧ (¬ x1.toInt = 0 ∨ x0.toInt ≤ ln.toInt) ∧ (¬ x1.toInt = 0 ∨ fa.toInt = 0)))))) 0 0 (fun q => base ≤ q) := by
  refine tw_ofW (L := Lt_X8_sum) (LR := LRt_X8_sum) (by decide) (Nat.le_of_ble_eq_true rfl) hTy ?_
  intro p e s m args below meth c Q ls hx hb hr hlocks hown hml hW hK hT hS hQ hl
  have hl : lv_has ls 5 [(0, .ref (base + a0))] := hl
  obtain ⟨hz_tb, hk_tb, hn_tb⟩ := hTy.refn hz_a0 hk_a0 (show rtR 9 0 = (13, 400, 1) from rfl) k_tb
  have hn_tb := hn_tb (by decide)
  refine lv_iconst (v := (-1)) hx hb dX8_sum_0 (by decide) ?_
  refine lv_istore_n (lv' := [(1, .int (-1)), (0, .ref (base + a0))]) hx hb dX8_sum_1 rfl hl (by decide) rfl (fun ls hl => ?_)
  refine lv_iconst (v := 1) hx hb dX8_sum_2 (by decide) ?_
  refine lv_istore_n (lv' := [(2, .int 1), (1, .int (-1)), (0, .ref (base + a0))]) hx hb dX8_sum_3 rfl hl (by decide) rfl (fun ls hl => ?_)
  refine lv_aload_n hx hb dX8_sum_4 rfl (lv_at hl 2 rfl) ?_
  have q1 : ¬ fa.toInt = 0 ∨ pa.toInt ≤ ln.toInt := by
    have := (h_fa).1; have := (h_fa).2; have := (h_ln).1; have := (h_ln).2; have := (h_pa).1; have := (h_pa).2; omega
  refine tw_gov hS (md_runV (As := []) (rest := []) hx hb hml hown hW hK hT hS.1 (t_X8_value l D cy tx base Z K N Ma Ra Ja hS.2.1 a0 hz_a0 hk_a0 tb k_tb ln k_ln (iv_mono h_ln (by decide) (by decide)) pa k_pa (iv_mono h_pa (by decide) (by decide)) fa k_fa (iv_mono h_fa (by decide) (by decide)) q1) s_X8_94 ⟨rfl, rfl, ⟨Nat.le_of_ble_eq_true rfl, Nat.le_of_ble_eq_true rfl⟩, ⟨Nat.le_of_ble_eq_true rfl, Nat.le_of_ble_eq_true rfl⟩⟩ hz_a0 hk_a0 (by decide) rfl rfl hl.1 rfl (Nat.le_of_ble_eq_true rfl) dX8_sum_5) rfl rfl (fun H locs M4 R5 J6 hS f2 g3 E7 => ?_)
  have p8 := E7
  obtain ⟨x10, x12, k13, k14, h9, h11, q15⟩ := p8
  have k13 : M4 a0 2 = x10 := k13
  have k14 : M4 a0 3 = x12 := k14
  refine lv_iconst (v := 0) hx hb dX8_sum_8 (by decide) ?_
  refine lv_istore_n (lv' := [(3, .int 0), (2, .int 1), (1, .int (-1)), (0, .ref (base + a0))]) hx hb dX8_sum_9 rfl hl (by decide) rfl (fun ls hl => ?_)
  have W10_19 : ∀ (n_19 : Nat) (x16 : Int32) (x17 : Int32) (x18 : Int32) (x24 : Int32) (x26 : Int32) (M19 : MT) (R20 : RT) (J21 : JT) (H : Heap) (locs : List Loc) (ls : Array Slot) (h_x16 : iv (-1) 3 x16) (h_x17 : iv 0 1 x17) (h_x18 : iv 0 400 x18) (h_x24 : iv 0 420 x24) (k25 : M19 a0 2 = x24) (h_x26 : iv (-2147483648) 2147483647 x26) (k27 : M19 a0 3 = x26) (w0_19 : (x24.toInt ≤ ln.toInt ∨ x24.toInt ≤ pa.toInt) ∧ (¬ x26.toInt = 0 ∨ x24.toInt ≤ ln.toInt) ∧ (¬ x26.toInt = 0 ∨ fa.toInt = 0)) (hm_19 : 400 - x18.toInt < (n_19 : Int)) (hS : SB D cy base Z K N Lt_X8_sum LRt_X8_sum Ma Ra M19 R20 J21 s H locs) (hl : lv_has ls 5 [(1, .int x16), (2, .int x17), (3, .int x18), (0, .ref (base + a0))]), W p l e (md_rm 8 0 0) s m args below meth c H locs 0 0 Q (F0 m 10 ls []) := by
    intro n_19
    induction n_19 with
    | zero =>
      intro x16 x17 x18 x24 x26 M19 R20 J21 H locs ls h_x16 h_x17 h_x18 h_x24 k25 h_x26 k27 w0_19 hm_19 hS hl
      exfalso
      have := (h_fa).1; have := (h_fa).2; have := (h_ln).1; have := (h_ln).2; have := (h_pa).1; have := (h_pa).2; have := (h_x18).1; have := (h_x18).2; omega
    | succ n_19 ih_19 =>
      intro x16 x17 x18 x24 x26 M19 R20 J21 H locs ls h_x16 h_x17 h_x18 h_x24 k25 h_x26 k27 w0_19 hm_19 hS hl
      have f22 := hS.2.2.1
      have g23 := hS.2.2.2
      refine lv_iload_n hx hb dX8_sum_10 rfl (lv_at hl 1 rfl) ?_
      refine lv_if_eq (tgt := 152) hx hb dX8_sum_11 (by decide) (fun c28 => ?_) (fun c28 => ?_)
      · have q29 : x17.toInt = 0 := ti_eq c28
        have h30 : iv 0 0 x17 := ⟨by have := (h_x17).1; have := ((iv_c (c := 0) (n := 0) (by decide))).1; omega, by have := (h_x17).2; have := ((iv_c (c := 0) (n := 0) (by decide))).2; omega⟩
        have q31 : (x24.toInt ≤ ln.toInt ∨ x24.toInt ≤ pa.toInt) ∧ (¬ x26.toInt = 0 ∨ x24.toInt ≤ ln.toInt) ∧ (¬ x26.toInt = 0 ∨ fa.toInt = 0) := by
          have := (h_fa).1; have := (h_fa).2; have := (h_ln).1; have := (h_ln).2; have := (h_pa).1; have := (h_pa).2; have := (h9).1; have := (h9).2; have := (h11).1; have := (h11).2; have := (h_x24).1; have := (h_x24).2; have := (h_x26).1; have := (h_x26).2; omega
        exact tw_endv hx hb hr hlocks hK hT hS hQ (⟨x24, x26, k25, k27, h_x24, h_x26, q31⟩) dX8_sum_152
      · have q32 : ¬ x17.toInt = 0 := ti_ne c28
        have h33 : iv 1 1 x17 := ⟨by have := (h_x17).1; have := ((iv_c (c := 0) (n := 0) (by decide))).1; have := ((iv_c (c := 0) (n := 0) (by decide))).2; omega, by have := (h_x17).2; have := ((iv_c (c := 0) (n := 0) (by decide))).1; have := ((iv_c (c := 0) (n := 0) (by decide))).2; omega⟩
        refine lv_aload_n hx hb dX8_sum_14 rfl (lv_at hl 3 rfl) ?_
        refine tw_getk hx hb hW hown hK hS f_X8_65_8 hz_a0 hk_a0 (v := x26) k27 dX8_sum_15 ?_
        refine lv_if_ne (tgt := 152) hx hb dX8_sum_18 (by decide) (fun c34 => ?_) (fun c34 => ?_)
        · have q35 : ¬ x26.toInt = 0 := ti_ne c34
          have q36 : (x24.toInt ≤ ln.toInt ∨ x24.toInt ≤ pa.toInt) ∧ (¬ x26.toInt = 0 ∨ x24.toInt ≤ ln.toInt) ∧ (¬ x26.toInt = 0 ∨ fa.toInt = 0) := by
            have := (h_fa).1; have := (h_fa).2; have := (h_ln).1; have := (h_ln).2; have := (h_pa).1; have := (h_pa).2; have := (h9).1; have := (h9).2; have := (h11).1; have := (h11).2; have := (h_x24).1; have := (h_x24).2; have := (h_x26).1; have := (h_x26).2; omega
          exact tw_endv hx hb hr hlocks hK hT hS hQ (⟨x24, x26, k25, k27, h_x24, h_x26, q36⟩) dX8_sum_152
        · have q37 : x26.toInt = 0 := ti_eq c34
          have h38 : iv 0 0 x26 := ⟨by have := (h_x26).1; have := ((iv_c (c := 0) (n := 0) (by decide))).1; omega, by have := (h_x26).2; have := ((iv_c (c := 0) (n := 0) (by decide))).2; omega⟩
          refine lv_iload_n hx hb dX8_sum_21 rfl (lv_at hl 2 rfl) ?_
          refine lv_sipush (v := 400) hx hb dX8_sum_22 (by decide) ?_
          refine lv_icmp_ge (tgt := 152) hx hb dX8_sum_25 (by decide) (fun c39 => ?_) (fun c39 => ?_)
          · have q40 : 400 ≤ x18.toInt := ti_le c39
            have h41 : iv 400 400 x18 := iv_geL (y := 400) h_x18 (iv_c (c := 400) (n := 400) (by decide)) q40 (by decide)
            have q42 : (x24.toInt ≤ ln.toInt ∨ x24.toInt ≤ pa.toInt) ∧ (¬ x26.toInt = 0 ∨ x24.toInt ≤ ln.toInt) ∧ (¬ x26.toInt = 0 ∨ fa.toInt = 0) := by
              have := (h_fa).1; have := (h_fa).2; have := (h_ln).1; have := (h_ln).2; have := (h_pa).1; have := (h_pa).2; have := (h9).1; have := (h9).2; have := (h11).1; have := (h11).2; have := (h_x24).1; have := (h_x24).2; have := (h38).1; have := (h38).2; omega
            exact tw_endv hx hb hr hlocks hK hT hS hQ (⟨x24, x26, k25, k27, h_x24, (iv_mono h38 (by decide) (by decide)), q42⟩) dX8_sum_152
          · have q43 : x18.toInt < 400 := ti_nle c39
            have h44 : iv 0 399 x18 := iv_ltL (y := 400) h_x18 (iv_c (c := 400) (n := 400) (by decide)) q43 (by decide)
            refine lv_aload_n hx hb dX8_sum_28 rfl (lv_at hl 3 rfl) ?_
            have k45 : R20 a0 0 = some tb := (Fr.kp (k := 0) g23 hk_a0 rfl).trans k_tb
            have k46 : M19 a0 1 = ln := (Fr.kp (k := 1) f22 hk_a0 rfl).trans k_ln
            refine tw_goi hS (md_runU (As := []) (rest := []) hx hb hml hown hW hK hT hS.1 (t_X10_hereBehindBlanks l D cy tx base Z K N M19 R20 J21 hS.2.1 a0 hz_a0 hk_a0 tb k45 ln k46 (iv_mono h_ln (by decide) (by decide)) x24 k25 (iv_mono h_x24 (by decide) (by decide))) s_X8_26_X8 ⟨rfl, rfl, ⟨Nat.le_of_ble_eq_true rfl, Nat.le_of_ble_eq_true rfl⟩, ⟨Nat.le_of_ble_eq_true rfl, Nat.le_of_ble_eq_true rfl⟩⟩ hz_a0 hk_a0 (by decide) rfl rfl hl.1 rfl (Nat.le_of_ble_eq_true rfl) dX8_sum_29) rfl rfl (fun x53 H locs M49 R50 J51 hS f47 g48 E52 => ?_)
            obtain ⟨h_x53, p54⟩ := E52
            obtain ⟨x56, k57, h55, q58⟩ := p54
            have k57 : M49 a0 2 = x56 := k57
            have h59 : iv 0 420 x56 := by
              have := (h_fa).1; have := (h_fa).2; have := (h_ln).1; have := (h_ln).2; have := (h_pa).1; have := (h_pa).2; have := (h9).1; have := (h9).2; have := (h11).1; have := (h11).2; have := (h_x24).1; have := (h_x24).2; have := (h38).1; have := (h38).2; have := (h55).1; have := (h55).2; exact ⟨by omega, by omega⟩
            refine lv_istore (lv' := [(4, .int x53), (1, .int x16), (2, .int x17), (3, .int x18), (0, .ref (base + a0))]) hx hb dX8_sum_32 hl (by decide) rfl (fun ls hl => ?_)
            refine lv_iload hx hb dX8_sum_34 (lv_at hl 0 rfl) ?_
            refine lv_bipush (v := 42) hx hb dX8_sum_36 (by decide) ?_
            refine lv_icmp_eq (tgt := 48) hx hb dX8_sum_38 (by decide) (fun c60 => ?_) (fun c60 => ?_)
            · have q61 : x53.toInt = 42 := ti_eq c60
              have h62 : iv 42 42 x53 := ⟨by have := (h_x53).1; have := ((iv_c (c := 42) (n := 42) (by decide))).1; omega, by have := (h_x53).2; have := ((iv_c (c := 42) (n := 42) (by decide))).2; omega⟩
              refine lv_aload_n hx hb dX8_sum_48 rfl (lv_at hl 4 rfl) ?_
              refine lv_dup hx hb dX8_sum_49 rfl ?_
              refine tw_getk hx hb hW hown hK hS f_X8_36_8 hz_a0 hk_a0 (v := x56) k57 dX8_sum_50 ?_
              refine lv_iconst (v := 1) hx hb dX8_sum_53 (by decide) ?_
              refine tw_iadd (lo := 1) (hi := 421) hx hb h59 (iv_c (c := 1) (n := 1) (by decide)) ⟨by decide, by decide⟩ ⟨by decide, by decide⟩ dX8_sum_54 (fun x65 e64 h63 => ?_)
              have e64 : x65.toInt = x56.toInt + 1 := e64
              refine tw_puti hx hb hW hown hK hS f_X8_36_8 hz_a0 hk_a0 rfl rfl (lo := 0) (hi := 1000) rfl (iv_mono h63 (by decide) (by decide)) rfl dX8_sum_55 (fun H locs M68 hS k66 f67 => ?_)
              refine lv_aload_n hx hb dX8_sum_58 rfl (lv_at hl 4 rfl) ?_
              have k69 : R50 a0 0 = some tb := ((Fr.kp (k := 0) g48 hk_a0 rfl).trans (Fr.kp (k := 0) g23 hk_a0 rfl)).trans k_tb
              have k70 : M68 a0 1 = ln := ((Fr.kp (k := 1) f67 hk_a0 rfl).trans ((Fr.kp (k := 1) f47 hk_a0 rfl).trans (Fr.kp (k := 1) f22 hk_a0 rfl))).trans k_ln
              have h71 : iv 0 420 x65 := by
                have := (h_fa).1; have := (h_fa).2; have := (h_ln).1; have := (h_ln).2; have := (h_pa).1; have := (h_pa).2; have := (h9).1; have := (h9).2; have := (h11).1; have := (h11).2; have := (h_x24).1; have := (h_x24).2; have := (h38).1; have := (h38).2; have := (h59).1; have := (h59).2; have := (h63).1; have := (h63).2; exact ⟨by omega, by omega⟩
              have k72 : M68 a0 3 = x26 := ((Fr.kp (k := 3) f67 hk_a0 rfl).trans (Fr.kp (k := 3) f47 hk_a0 rfl)).trans k27
              have q73 : ¬ x26.toInt = 0 ∨ x65.toInt ≤ ln.toInt := by
                have := (h_fa).1; have := (h_fa).2; have := (h_ln).1; have := (h_ln).2; have := (h_pa).1; have := (h_pa).2; have := (h9).1; have := (h9).2; have := (h11).1; have := (h11).2; have := (h_x24).1; have := (h_x24).2; have := (h38).1; have := (h38).2; have := (h59).1; have := (h59).2; have := (h63).1; have := (h63).2; omega
              refine tw_gov hS (md_runV (As := []) (rest := []) hx hb hml hown hW hK hT hS.1 (t_X8_value l D cy tx base Z K N M68 R50 J51 hS.2.1 a0 hz_a0 hk_a0 tb k69 ln k70 (iv_mono h_ln (by decide) (by decide)) x65 k66 h71 x26 k72 (iv_mono h38 (by decide) (by decide)) q73) s_X8_94 ⟨rfl, rfl, ⟨Nat.le_of_ble_eq_true rfl, Nat.le_of_ble_eq_true rfl⟩, ⟨Nat.le_of_ble_eq_true rfl, Nat.le_of_ble_eq_true rfl⟩⟩ hz_a0 hk_a0 (by decide) rfl rfl hl.1 rfl (Nat.le_of_ble_eq_true rfl) dX8_sum_59) rfl rfl (fun H locs M76 R77 J78 hS f74 g75 E79 => ?_)
              have p80 := E79
              obtain ⟨x82, x84, k85, k86, h81, h83, q87⟩ := p80
              have k85 : M76 a0 2 = x82 := k85
              have k86 : M76 a0 3 = x84 := k86
              refine lv_aload_n hx hb dX8_sum_62 rfl (lv_at hl 4 rfl) ?_
              refine lv_iload hx hb dX8_sum_63 (lv_at hl 0 rfl) ?_
              refine lv_bipush (v := 42) hx hb dX8_sum_65 (by decide) ?_
              refine lv_icmp_ne (tgt := 74) hx hb dX8_sum_67 (by decide) (fun c88 => False.elim (by have q : ¬ x53.toInt = 42 := ti_ne c88; have := (h62).1; have := (h62).2; omega)) (fun c88 => ?_)
              have q89 : x53.toInt = 42 := ti_eq c88
              refine lv_iconst (v := 4) hx hb dX8_sum_70 (by decide) ?_
              refine lv_goto (tgt := 75) hx hb dX8_sum_71 (by decide) ?_
              refine lv_iconst (v := 0) hx hb dX8_sum_75 (by decide) ?_
              refine tw_goi hS (md_runV (As := [.int 4, .int 0]) (rest := []) hx hb hml hown hW hK hT hS.1 (t_X8_put l D cy tx base Z K N M76 R77 J78 hS.2.1 a0 hz_a0 hk_a0 4 (iv_mono (iv_c (c := 4) (n := 4) (by decide)) (by decide) (by decide)) 0 (iv_mono (iv_c (c := 0) (n := 0) (by decide)) (by decide) (by decide))) s_X8_54 ⟨rfl, rfl, ⟨Nat.le_of_ble_eq_true rfl, Nat.le_of_ble_eq_true rfl⟩, ⟨Nat.le_of_ble_eq_true rfl, Nat.le_of_ble_eq_true rfl⟩⟩ hz_a0 hk_a0 (by decide) rfl rfl hl.1 rfl (Nat.le_of_ble_eq_true rfl) dX8_sum_76) rfl rfl (fun x96 H locs M92 R93 J94 hS f90 g91 E95 => ?_)
              have h_x96 := E95
              refine lv_pop hx hb dX8_sum_79 rfl ?_
              refine lv_goto (tgt := 146) hx hb dX8_sum_80 (by decide) ?_
              refine tw_iinc (lv' := fun x99 => [(3, .int x99), (4, .int x53), (1, .int x16), (2, .int x17), (0, .ref (base + a0))]) (lo := 1) (hi := 400) hx hb dX8_sum_146 hl (k := 3) rfl h44 (by decide) ⟨by decide, by decide⟩ ⟨by decide, by decide⟩ (by decide) (fun _ => rfl) (fun x99 ls e98 h97 hl => ?_)
              refine lv_goto (tgt := 10) hx hb dX8_sum_149 (by decide) ?_
              have k100 : M92 a0 2 = x82 := (Fr.kp (k := 2) f90 hk_a0 rfl).trans k85
              have k101 : M92 a0 3 = x84 := (Fr.kp (k := 3) f90 hk_a0 rfl).trans k86
              have w102 : (x82.toInt ≤ ln.toInt ∨ x82.toInt ≤ pa.toInt) ∧ (¬ x84.toInt = 0 ∨ x82.toInt ≤ ln.toInt) ∧ (¬ x84.toInt = 0 ∨ fa.toInt = 0) := by
                have := (h_fa).1; have := (h_fa).2; have := (h_ln).1; have := (h_ln).2; have := (h_pa).1; have := (h_pa).2; have := (h9).1; have := (h9).2; have := (h11).1; have := (h11).2; have := (h_x24).1; have := (h_x24).2; have := (h38).1; have := (h38).2; have := (h59).1; have := (h59).2; have := (h63).1; have := (h63).2; have := (h81).1; have := (h81).2; have := (h83).1; have := (h83).2; omega
              have hm103 : 400 - x99.toInt < (n_19 : Int) := by
                have := (h_fa).1; have := (h_fa).2; have := (h_ln).1; have := (h_ln).2; have := (h_pa).1; have := (h_pa).2; have := (h44).1; have := (h44).2; have := (h97).1; have := (h97).2; omega
              exact ih_19 x16 x17 x99 x82 x84 M92 R93 J94 H locs _ h_x16 (iv_mono h33 (by decide) (by decide)) (iv_mono h97 (by decide) (by decide)) h81 k100 h83 k101 w102 hm103 hS (lv_sub hl [2, 3, 0, 4] rfl)
            · have q104 : ¬ x53.toInt = 42 := ti_ne c60
              refine lv_iload hx hb dX8_sum_41 (lv_at hl 0 rfl) ?_
              refine lv_bipush (v := 47) hx hb dX8_sum_43 (by decide) ?_
              refine lv_icmp_ne (tgt := 83) hx hb dX8_sum_45 (by decide) (fun c105 => ?_) (fun c105 => ?_)
              · have q106 : ¬ x53.toInt = 47 := ti_ne c105
                refine lv_iload_n hx hb dX8_sum_83 rfl (lv_at hl 1 rfl) ?_
                refine lv_iconst (v := (-1)) hx hb dX8_sum_84 (by decide) ?_
                refine lv_icmp_eq (tgt := 95) hx hb dX8_sum_85 (by decide) (fun c107 => ?_) (fun c107 => ?_)
                · have q108 : x16.toInt = (-1) := ti_eq c107
                  have h109 : iv (-1) (-1) x16 := ⟨by have := (h_x16).1; have := ((iv_c (c := (-1)) (n := (-1)) (by decide))).1; omega, by have := (h_x16).2; have := ((iv_c (c := (-1)) (n := (-1)) (by decide))).2; omega⟩
                  refine lv_iload hx hb dX8_sum_95 (lv_at hl 0 rfl) ?_
                  refine lv_bipush (v := 43) hx hb dX8_sum_97 (by decide) ?_
                  refine lv_icmp_eq (tgt := 109) hx hb dX8_sum_99 (by decide) (fun c110 => ?_) (fun c110 => ?_)
                  · have q111 : x53.toInt = 43 := ti_eq c110
                    have h112 : iv 43 43 x53 := ⟨by have := (h_x53).1; have := ((iv_c (c := 43) (n := 43) (by decide))).1; omega, by have := (h_x53).2; have := ((iv_c (c := 43) (n := 43) (by decide))).2; omega⟩
                    refine lv_iconst (v := 1) hx hb dX8_sum_109 (by decide) ?_
                    refine lv_goto (tgt := 114) hx hb dX8_sum_110 (by decide) ?_
                    refine lv_istore_n (lv' := [(2, .int 1), (4, .int x53), (1, .int x16), (3, .int x18), (0, .ref (base + a0))]) hx hb dX8_sum_114 rfl hl (by decide) rfl (fun ls hl => ?_)
                    refine lv_iload_n hx hb dX8_sum_115 rfl (lv_at hl 0 rfl) ?_
                    refine lv_if_eq (tgt := 146) hx hb dX8_sum_116 (by decide) (fun h => absurd h (by decide)) (fun _ => ?_)
                    refine lv_aload_n hx hb dX8_sum_119 rfl (lv_at hl 4 rfl) ?_
                    refine lv_dup hx hb dX8_sum_120 rfl ?_
                    refine tw_getk hx hb hW hown hK hS f_X8_36_8 hz_a0 hk_a0 (v := x56) k57 dX8_sum_121 ?_
                    refine lv_iconst (v := 1) hx hb dX8_sum_124 (by decide) ?_
                    refine tw_iadd (lo := 1) (hi := 421) hx hb h59 (iv_c (c := 1) (n := 1) (by decide)) ⟨by decide, by decide⟩ ⟨by decide, by decide⟩ dX8_sum_125 (fun x115 e114 h113 => ?_)
                    have e114 : x115.toInt = x56.toInt + 1 := e114
                    refine tw_puti hx hb hW hown hK hS f_X8_36_8 hz_a0 hk_a0 rfl rfl (lo := 0) (hi := 1000) rfl (iv_mono h113 (by decide) (by decide)) rfl dX8_sum_126 (fun H locs M118 hS k116 f117 => ?_)
                    refine lv_iload hx hb dX8_sum_129 (lv_at hl 1 rfl) ?_
                    refine lv_bipush (v := 43) hx hb dX8_sum_131 (by decide) ?_
                    refine lv_icmp_ne (tgt := 140) hx hb dX8_sum_133 (by decide) (fun c119 => False.elim (by have q : ¬ x53.toInt = 43 := ti_ne c119; have := (h112).1; have := (h112).2; omega)) (fun c119 => ?_)
                    have q120 : x53.toInt = 43 := ti_eq c119
                    refine lv_iconst (v := 2) hx hb dX8_sum_136 (by decide) ?_
                    refine lv_goto (tgt := 141) hx hb dX8_sum_137 (by decide) ?_
                    refine lv_istore_n (lv' := [(1, .int 2), (2, .int 1), (4, .int x53), (3, .int x18), (0, .ref (base + a0))]) hx hb dX8_sum_141 rfl hl (by decide) rfl (fun ls hl => ?_)
                    refine lv_aload_n hx hb dX8_sum_142 rfl (lv_at hl 4 rfl) ?_
                    have k121 : R50 a0 0 = some tb := ((Fr.kp (k := 0) g48 hk_a0 rfl).trans (Fr.kp (k := 0) g23 hk_a0 rfl)).trans k_tb
                    have k122 : M118 a0 1 = ln := ((Fr.kp (k := 1) f117 hk_a0 rfl).trans ((Fr.kp (k := 1) f47 hk_a0 rfl).trans (Fr.kp (k := 1) f22 hk_a0 rfl))).trans k_ln
                    have h123 : iv 0 420 x115 := by
                      have := (h_fa).1; have := (h_fa).2; have := (h_ln).1; have := (h_ln).2; have := (h_pa).1; have := (h_pa).2; have := (h9).1; have := (h9).2; have := (h113).1; have := (h113).2; have := (h11).1; have := (h11).2; have := (h_x24).1; have := (h_x24).2; have := (h38).1; have := (h38).2; have := (h59).1; have := (h59).2; exact ⟨by omega, by omega⟩
                    have k124 : M118 a0 3 = x26 := ((Fr.kp (k := 3) f117 hk_a0 rfl).trans (Fr.kp (k := 3) f47 hk_a0 rfl)).trans k27
                    have q125 : ¬ x26.toInt = 0 ∨ x115.toInt ≤ ln.toInt := by
                      have := (h_fa).1; have := (h_fa).2; have := (h_ln).1; have := (h_ln).2; have := (h_pa).1; have := (h_pa).2; have := (h9).1; have := (h9).2; have := (h113).1; have := (h113).2; have := (h11).1; have := (h11).2; have := (h_x24).1; have := (h_x24).2; have := (h38).1; have := (h38).2; have := (h59).1; have := (h59).2; omega
                    refine tw_gov hS (md_runV (As := []) (rest := []) hx hb hml hown hW hK hT hS.1 (t_X8_value l D cy tx base Z K N M118 R50 J51 hS.2.1 a0 hz_a0 hk_a0 tb k121 ln k122 (iv_mono h_ln (by decide) (by decide)) x115 k116 h123 x26 k124 (iv_mono h38 (by decide) (by decide)) q125) s_X8_94 ⟨rfl, rfl, ⟨Nat.le_of_ble_eq_true rfl, Nat.le_of_ble_eq_true rfl⟩, ⟨Nat.le_of_ble_eq_true rfl, Nat.le_of_ble_eq_true rfl⟩⟩ hz_a0 hk_a0 (by decide) rfl rfl hl.1 rfl (Nat.le_of_ble_eq_true rfl) dX8_sum_143) rfl rfl (fun H locs M128 R129 J130 hS f126 g127 E131 => ?_)
                    have p132 := E131
                    obtain ⟨x134, x136, k137, k138, h133, h135, q139⟩ := p132
                    have k137 : M128 a0 2 = x134 := k137
                    have k138 : M128 a0 3 = x136 := k138
                    refine tw_iinc (lv' := fun x142 => [(3, .int x142), (1, .int 2), (2, .int 1), (4, .int x53), (0, .ref (base + a0))]) (lo := 1) (hi := 400) hx hb dX8_sum_146 hl (k := 3) rfl h44 (by decide) ⟨by decide, by decide⟩ ⟨by decide, by decide⟩ (by decide) (fun _ => rfl) (fun x142 ls e141 h140 hl => ?_)
                    refine lv_goto (tgt := 10) hx hb dX8_sum_149 (by decide) ?_
                    have w143 : (x134.toInt ≤ ln.toInt ∨ x134.toInt ≤ pa.toInt) ∧ (¬ x136.toInt = 0 ∨ x134.toInt ≤ ln.toInt) ∧ (¬ x136.toInt = 0 ∨ fa.toInt = 0) := by
                      have := (h_fa).1; have := (h_fa).2; have := (h_ln).1; have := (h_ln).2; have := (h_pa).1; have := (h_pa).2; have := (h9).1; have := (h9).2; have := (h113).1; have := (h113).2; have := (h11).1; have := (h11).2; have := (h133).1; have := (h133).2; have := (h135).1; have := (h135).2; have := (h_x24).1; have := (h_x24).2; have := (h38).1; have := (h38).2; have := (h59).1; have := (h59).2; omega
                    have hm144 : 400 - x142.toInt < (n_19 : Int) := by
                      have := (h_fa).1; have := (h_fa).2; have := (h_ln).1; have := (h_ln).2; have := (h_pa).1; have := (h_pa).2; have := (h140).1; have := (h140).2; have := (h44).1; have := (h44).2; omega
                    exact ih_19 2 1 x142 x134 x136 M128 R129 J130 H locs _ (iv_mono (iv_c (c := 2) (n := 2) (by decide)) (by decide) (by decide)) (iv_mono (iv_c (c := 1) (n := 1) (by decide)) (by decide) (by decide)) (iv_mono h140 (by decide) (by decide)) h133 k137 h135 k138 w143 hm144 hS (lv_sub hl [1, 2, 0, 4] rfl)
                  · have q145 : ¬ x53.toInt = 43 := ti_ne c110
                    refine lv_iload hx hb dX8_sum_102 (lv_at hl 0 rfl) ?_
                    refine lv_bipush (v := 45) hx hb dX8_sum_104 (by decide) ?_
                    refine lv_icmp_ne (tgt := 113) hx hb dX8_sum_106 (by decide) (fun c146 => ?_) (fun c146 => ?_)
                    · have q147 : ¬ x53.toInt = 45 := ti_ne c146
                      refine lv_iconst (v := 0) hx hb dX8_sum_113 (by decide) ?_
                      refine lv_istore_n (lv' := [(2, .int 0), (4, .int x53), (1, .int x16), (3, .int x18), (0, .ref (base + a0))]) hx hb dX8_sum_114 rfl hl (by decide) rfl (fun ls hl => ?_)
                      refine lv_iload_n hx hb dX8_sum_115 rfl (lv_at hl 0 rfl) ?_
                      refine lv_if_eq (tgt := 146) hx hb dX8_sum_116 (by decide) (fun _ => ?_) (fun h => absurd h (by decide))
                      refine tw_iinc (lv' := fun x150 => [(3, .int x150), (2, .int 0), (4, .int x53), (1, .int x16), (0, .ref (base + a0))]) (lo := 1) (hi := 400) hx hb dX8_sum_146 hl (k := 3) rfl h44 (by decide) ⟨by decide, by decide⟩ ⟨by decide, by decide⟩ (by decide) (fun _ => rfl) (fun x150 ls e149 h148 hl => ?_)
                      refine lv_goto (tgt := 10) hx hb dX8_sum_149 (by decide) ?_
                      have k151 : M49 a0 3 = x26 := (Fr.kp (k := 3) f47 hk_a0 rfl).trans k27
                      have w152 : (x56.toInt ≤ ln.toInt ∨ x56.toInt ≤ pa.toInt) ∧ (¬ x26.toInt = 0 ∨ x56.toInt ≤ ln.toInt) ∧ (¬ x26.toInt = 0 ∨ fa.toInt = 0) := by
                        have := (h_fa).1; have := (h_fa).2; have := (h_ln).1; have := (h_ln).2; have := (h_pa).1; have := (h_pa).2; have := (h9).1; have := (h9).2; have := (h11).1; have := (h11).2; have := (h_x24).1; have := (h_x24).2; have := (h38).1; have := (h38).2; have := (h59).1; have := (h59).2; omega
                      have hm153 : 400 - x150.toInt < (n_19 : Int) := by
                        have := (h_fa).1; have := (h_fa).2; have := (h_ln).1; have := (h_ln).2; have := (h_pa).1; have := (h_pa).2; have := (h148).1; have := (h148).2; have := (h44).1; have := (h44).2; omega
                      exact ih_19 x16 0 x150 x56 x26 M49 R50 J51 H locs _ (iv_mono h109 (by decide) (by decide)) (iv_mono (iv_c (c := 0) (n := 0) (by decide)) (by decide) (by decide)) (iv_mono h148 (by decide) (by decide)) h59 k57 (iv_mono h38 (by decide) (by decide)) k151 w152 hm153 hS (lv_sub hl [3, 1, 0, 4] rfl)
                    · have q154 : x53.toInt = 45 := ti_eq c146
                      have h155 : iv 45 45 x53 := ⟨by have := (h_x53).1; have := ((iv_c (c := 45) (n := 45) (by decide))).1; omega, by have := (h_x53).2; have := ((iv_c (c := 45) (n := 45) (by decide))).2; omega⟩
                      refine lv_iconst (v := 1) hx hb dX8_sum_109 (by decide) ?_
                      refine lv_goto (tgt := 114) hx hb dX8_sum_110 (by decide) ?_
                      refine lv_istore_n (lv' := [(2, .int 1), (4, .int x53), (1, .int x16), (3, .int x18), (0, .ref (base + a0))]) hx hb dX8_sum_114 rfl hl (by decide) rfl (fun ls hl => ?_)
                      refine lv_iload_n hx hb dX8_sum_115 rfl (lv_at hl 0 rfl) ?_
                      refine lv_if_eq (tgt := 146) hx hb dX8_sum_116 (by decide) (fun h => absurd h (by decide)) (fun _ => ?_)
                      refine lv_aload_n hx hb dX8_sum_119 rfl (lv_at hl 4 rfl) ?_
                      refine lv_dup hx hb dX8_sum_120 rfl ?_
                      refine tw_getk hx hb hW hown hK hS f_X8_36_8 hz_a0 hk_a0 (v := x56) k57 dX8_sum_121 ?_
                      refine lv_iconst (v := 1) hx hb dX8_sum_124 (by decide) ?_
                      refine tw_iadd (lo := 1) (hi := 421) hx hb h59 (iv_c (c := 1) (n := 1) (by decide)) ⟨by decide, by decide⟩ ⟨by decide, by decide⟩ dX8_sum_125 (fun x158 e157 h156 => ?_)
                      have e157 : x158.toInt = x56.toInt + 1 := e157
                      refine tw_puti hx hb hW hown hK hS f_X8_36_8 hz_a0 hk_a0 rfl rfl (lo := 0) (hi := 1000) rfl (iv_mono h156 (by decide) (by decide)) rfl dX8_sum_126 (fun H locs M161 hS k159 f160 => ?_)
                      refine lv_iload hx hb dX8_sum_129 (lv_at hl 1 rfl) ?_
                      refine lv_bipush (v := 43) hx hb dX8_sum_131 (by decide) ?_
                      refine lv_icmp_ne (tgt := 140) hx hb dX8_sum_133 (by decide) (fun c162 => ?_) (fun c162 => False.elim (by have q : x53.toInt = 43 := ti_eq c162; have := (h155).1; have := (h155).2; omega))
                      have q163 : ¬ x53.toInt = 43 := ti_ne c162
                      refine lv_iconst (v := 3) hx hb dX8_sum_140 (by decide) ?_
                      refine lv_istore_n (lv' := [(1, .int 3), (2, .int 1), (4, .int x53), (3, .int x18), (0, .ref (base + a0))]) hx hb dX8_sum_141 rfl hl (by decide) rfl (fun ls hl => ?_)
                      refine lv_aload_n hx hb dX8_sum_142 rfl (lv_at hl 4 rfl) ?_
                      have k164 : R50 a0 0 = some tb := ((Fr.kp (k := 0) g48 hk_a0 rfl).trans (Fr.kp (k := 0) g23 hk_a0 rfl)).trans k_tb
                      have k165 : M161 a0 1 = ln := ((Fr.kp (k := 1) f160 hk_a0 rfl).trans ((Fr.kp (k := 1) f47 hk_a0 rfl).trans (Fr.kp (k := 1) f22 hk_a0 rfl))).trans k_ln
                      have h166 : iv 0 420 x158 := by
                        have := (h_fa).1; have := (h_fa).2; have := (h_ln).1; have := (h_ln).2; have := (h_pa).1; have := (h_pa).2; have := (h9).1; have := (h9).2; have := (h11).1; have := (h11).2; have := (h156).1; have := (h156).2; have := (h_x24).1; have := (h_x24).2; have := (h38).1; have := (h38).2; have := (h59).1; have := (h59).2; exact ⟨by omega, by omega⟩
                      have k167 : M161 a0 3 = x26 := ((Fr.kp (k := 3) f160 hk_a0 rfl).trans (Fr.kp (k := 3) f47 hk_a0 rfl)).trans k27
                      have q168 : ¬ x26.toInt = 0 ∨ x158.toInt ≤ ln.toInt := by
                        have := (h_fa).1; have := (h_fa).2; have := (h_ln).1; have := (h_ln).2; have := (h_pa).1; have := (h_pa).2; have := (h9).1; have := (h9).2; have := (h11).1; have := (h11).2; have := (h156).1; have := (h156).2; have := (h_x24).1; have := (h_x24).2; have := (h38).1; have := (h38).2; have := (h59).1; have := (h59).2; omega
                      refine tw_gov hS (md_runV (As := []) (rest := []) hx hb hml hown hW hK hT hS.1 (t_X8_value l D cy tx base Z K N M161 R50 J51 hS.2.1 a0 hz_a0 hk_a0 tb k164 ln k165 (iv_mono h_ln (by decide) (by decide)) x158 k159 h166 x26 k167 (iv_mono h38 (by decide) (by decide)) q168) s_X8_94 ⟨rfl, rfl, ⟨Nat.le_of_ble_eq_true rfl, Nat.le_of_ble_eq_true rfl⟩, ⟨Nat.le_of_ble_eq_true rfl, Nat.le_of_ble_eq_true rfl⟩⟩ hz_a0 hk_a0 (by decide) rfl rfl hl.1 rfl (Nat.le_of_ble_eq_true rfl) dX8_sum_143) rfl rfl (fun H locs M171 R172 J173 hS f169 g170 E174 => ?_)
                      have p175 := E174
                      obtain ⟨x177, x179, k180, k181, h176, h178, q182⟩ := p175
                      have k180 : M171 a0 2 = x177 := k180
                      have k181 : M171 a0 3 = x179 := k181
                      refine tw_iinc (lv' := fun x185 => [(3, .int x185), (1, .int 3), (2, .int 1), (4, .int x53), (0, .ref (base + a0))]) (lo := 1) (hi := 400) hx hb dX8_sum_146 hl (k := 3) rfl h44 (by decide) ⟨by decide, by decide⟩ ⟨by decide, by decide⟩ (by decide) (fun _ => rfl) (fun x185 ls e184 h183 hl => ?_)
                      refine lv_goto (tgt := 10) hx hb dX8_sum_149 (by decide) ?_
                      have w186 : (x177.toInt ≤ ln.toInt ∨ x177.toInt ≤ pa.toInt) ∧ (¬ x179.toInt = 0 ∨ x177.toInt ≤ ln.toInt) ∧ (¬ x179.toInt = 0 ∨ fa.toInt = 0) := by
                        have := (h_fa).1; have := (h_fa).2; have := (h_ln).1; have := (h_ln).2; have := (h_pa).1; have := (h_pa).2; have := (h9).1; have := (h9).2; have := (h11).1; have := (h11).2; have := (h156).1; have := (h156).2; have := (h176).1; have := (h176).2; have := (h178).1; have := (h178).2; have := (h_x24).1; have := (h_x24).2; have := (h38).1; have := (h38).2; have := (h59).1; have := (h59).2; omega
                      have hm187 : 400 - x185.toInt < (n_19 : Int) := by
                        have := (h_fa).1; have := (h_fa).2; have := (h_ln).1; have := (h_ln).2; have := (h_pa).1; have := (h_pa).2; have := (h44).1; have := (h44).2; have := (h183).1; have := (h183).2; omega
                      exact ih_19 3 1 x185 x177 x179 M171 R172 J173 H locs _ (iv_mono (iv_c (c := 3) (n := 3) (by decide)) (by decide) (by decide)) (iv_mono (iv_c (c := 1) (n := 1) (by decide)) (by decide) (by decide)) (iv_mono h183 (by decide) (by decide)) h176 k180 h178 k181 w186 hm187 hS (lv_sub hl [1, 2, 0, 4] rfl)
                · have q188 : ¬ x16.toInt = (-1) := ti_ne c107
                  have h189 : iv 0 3 x16 := ⟨by have := (h_x16).1; have := ((iv_c (c := (-1)) (n := (-1)) (by decide))).1; have := ((iv_c (c := (-1)) (n := (-1)) (by decide))).2; omega, by have := (h_x16).2; have := ((iv_c (c := (-1)) (n := (-1)) (by decide))).1; have := ((iv_c (c := (-1)) (n := (-1)) (by decide))).2; omega⟩
                  refine lv_aload_n hx hb dX8_sum_88 rfl (lv_at hl 4 rfl) ?_
                  refine lv_iload_n hx hb dX8_sum_89 rfl (lv_at hl 1 rfl) ?_
                  refine lv_iconst (v := 0) hx hb dX8_sum_90 (by decide) ?_
                  refine tw_goi hS (md_runV (As := [.int x16, .int 0]) (rest := []) hx hb hml hown hW hK hT hS.1 (t_X8_put l D cy tx base Z K N M49 R50 J51 hS.2.1 a0 hz_a0 hk_a0 x16 (iv_mono h189 (by decide) (by decide)) 0 (iv_mono (iv_c (c := 0) (n := 0) (by decide)) (by decide) (by decide))) s_X8_54 ⟨rfl, rfl, ⟨Nat.le_of_ble_eq_true rfl, Nat.le_of_ble_eq_true rfl⟩, ⟨Nat.le_of_ble_eq_true rfl, Nat.le_of_ble_eq_true rfl⟩⟩ hz_a0 hk_a0 (by decide) rfl rfl hl.1 rfl (Nat.le_of_ble_eq_true rfl) dX8_sum_91) rfl rfl (fun x196 H locs M192 R193 J194 hS f190 g191 E195 => ?_)
                  have h_x196 := E195
                  refine lv_pop hx hb dX8_sum_94 rfl ?_
                  refine lv_iload hx hb dX8_sum_95 (lv_at hl 0 rfl) ?_
                  refine lv_bipush (v := 43) hx hb dX8_sum_97 (by decide) ?_
                  refine lv_icmp_eq (tgt := 109) hx hb dX8_sum_99 (by decide) (fun c197 => ?_) (fun c197 => ?_)
                  · have q198 : x53.toInt = 43 := ti_eq c197
                    have h199 : iv 43 43 x53 := ⟨by have := (h_x53).1; have := ((iv_c (c := 43) (n := 43) (by decide))).1; omega, by have := (h_x53).2; have := ((iv_c (c := 43) (n := 43) (by decide))).2; omega⟩
                    refine lv_iconst (v := 1) hx hb dX8_sum_109 (by decide) ?_
                    refine lv_goto (tgt := 114) hx hb dX8_sum_110 (by decide) ?_
                    refine lv_istore_n (lv' := [(2, .int 1), (4, .int x53), (1, .int x16), (3, .int x18), (0, .ref (base + a0))]) hx hb dX8_sum_114 rfl hl (by decide) rfl (fun ls hl => ?_)
                    refine lv_iload_n hx hb dX8_sum_115 rfl (lv_at hl 0 rfl) ?_
                    refine lv_if_eq (tgt := 146) hx hb dX8_sum_116 (by decide) (fun h => absurd h (by decide)) (fun _ => ?_)
                    refine lv_aload_n hx hb dX8_sum_119 rfl (lv_at hl 4 rfl) ?_
                    refine lv_dup hx hb dX8_sum_120 rfl ?_
                    have k200 : M192 a0 2 = x56 := (Fr.kp (k := 2) f190 hk_a0 rfl).trans k57
                    refine tw_getk hx hb hW hown hK hS f_X8_36_8 hz_a0 hk_a0 (v := x56) k200 dX8_sum_121 ?_
                    refine lv_iconst (v := 1) hx hb dX8_sum_124 (by decide) ?_
                    refine tw_iadd (lo := 1) (hi := 421) hx hb h59 (iv_c (c := 1) (n := 1) (by decide)) ⟨by decide, by decide⟩ ⟨by decide, by decide⟩ dX8_sum_125 (fun x203 e202 h201 => ?_)
                    have e202 : x203.toInt = x56.toInt + 1 := e202
                    refine tw_puti hx hb hW hown hK hS f_X8_36_8 hz_a0 hk_a0 rfl rfl (lo := 0) (hi := 1000) rfl (iv_mono h201 (by decide) (by decide)) rfl dX8_sum_126 (fun H locs M206 hS k204 f205 => ?_)
                    refine lv_iload hx hb dX8_sum_129 (lv_at hl 1 rfl) ?_
                    refine lv_bipush (v := 43) hx hb dX8_sum_131 (by decide) ?_
                    refine lv_icmp_ne (tgt := 140) hx hb dX8_sum_133 (by decide) (fun c207 => False.elim (by have q : ¬ x53.toInt = 43 := ti_ne c207; have := (h199).1; have := (h199).2; omega)) (fun c207 => ?_)
                    have q208 : x53.toInt = 43 := ti_eq c207
                    refine lv_iconst (v := 2) hx hb dX8_sum_136 (by decide) ?_
                    refine lv_goto (tgt := 141) hx hb dX8_sum_137 (by decide) ?_
                    refine lv_istore_n (lv' := [(1, .int 2), (2, .int 1), (4, .int x53), (3, .int x18), (0, .ref (base + a0))]) hx hb dX8_sum_141 rfl hl (by decide) rfl (fun ls hl => ?_)
                    refine lv_aload_n hx hb dX8_sum_142 rfl (lv_at hl 4 rfl) ?_
                    have k209 : R193 a0 0 = some tb := ((Fr.kp (k := 0) g191 hk_a0 rfl).trans ((Fr.kp (k := 0) g48 hk_a0 rfl).trans (Fr.kp (k := 0) g23 hk_a0 rfl))).trans k_tb
                    have k210 : M206 a0 1 = ln := ((Fr.kp (k := 1) f205 hk_a0 rfl).trans ((Fr.kp (k := 1) f190 hk_a0 rfl).trans ((Fr.kp (k := 1) f47 hk_a0 rfl).trans (Fr.kp (k := 1) f22 hk_a0 rfl)))).trans k_ln
                    have h211 : iv 0 420 x203 := by
                      have := (h_fa).1; have := (h_fa).2; have := (h_ln).1; have := (h_ln).2; have := (h_pa).1; have := (h_pa).2; have := (h9).1; have := (h9).2; have := (h11).1; have := (h11).2; have := (h201).1; have := (h201).2; have := (h_x24).1; have := (h_x24).2; have := (h38).1; have := (h38).2; have := (h59).1; have := (h59).2; exact ⟨by omega, by omega⟩
                    have k212 : M206 a0 3 = x26 := ((Fr.kp (k := 3) f205 hk_a0 rfl).trans ((Fr.kp (k := 3) f190 hk_a0 rfl).trans (Fr.kp (k := 3) f47 hk_a0 rfl))).trans k27
                    have q213 : ¬ x26.toInt = 0 ∨ x203.toInt ≤ ln.toInt := by
                      have := (h_fa).1; have := (h_fa).2; have := (h_ln).1; have := (h_ln).2; have := (h_pa).1; have := (h_pa).2; have := (h9).1; have := (h9).2; have := (h11).1; have := (h11).2; have := (h201).1; have := (h201).2; have := (h_x24).1; have := (h_x24).2; have := (h38).1; have := (h38).2; have := (h59).1; have := (h59).2; omega
                    refine tw_gov hS (md_runV (As := []) (rest := []) hx hb hml hown hW hK hT hS.1 (t_X8_value l D cy tx base Z K N M206 R193 J194 hS.2.1 a0 hz_a0 hk_a0 tb k209 ln k210 (iv_mono h_ln (by decide) (by decide)) x203 k204 h211 x26 k212 (iv_mono h38 (by decide) (by decide)) q213) s_X8_94 ⟨rfl, rfl, ⟨Nat.le_of_ble_eq_true rfl, Nat.le_of_ble_eq_true rfl⟩, ⟨Nat.le_of_ble_eq_true rfl, Nat.le_of_ble_eq_true rfl⟩⟩ hz_a0 hk_a0 (by decide) rfl rfl hl.1 rfl (Nat.le_of_ble_eq_true rfl) dX8_sum_143) rfl rfl (fun H locs M216 R217 J218 hS f214 g215 E219 => ?_)
                    have p220 := E219
                    obtain ⟨x222, x224, k225, k226, h221, h223, q227⟩ := p220
                    have k225 : M216 a0 2 = x222 := k225
                    have k226 : M216 a0 3 = x224 := k226
                    refine tw_iinc (lv' := fun x230 => [(3, .int x230), (1, .int 2), (2, .int 1), (4, .int x53), (0, .ref (base + a0))]) (lo := 1) (hi := 400) hx hb dX8_sum_146 hl (k := 3) rfl h44 (by decide) ⟨by decide, by decide⟩ ⟨by decide, by decide⟩ (by decide) (fun _ => rfl) (fun x230 ls e229 h228 hl => ?_)
                    refine lv_goto (tgt := 10) hx hb dX8_sum_149 (by decide) ?_
                    have w231 : (x222.toInt ≤ ln.toInt ∨ x222.toInt ≤ pa.toInt) ∧ (¬ x224.toInt = 0 ∨ x222.toInt ≤ ln.toInt) ∧ (¬ x224.toInt = 0 ∨ fa.toInt = 0) := by
                      have := (h_fa).1; have := (h_fa).2; have := (h_ln).1; have := (h_ln).2; have := (h_pa).1; have := (h_pa).2; have := (h9).1; have := (h9).2; have := (h11).1; have := (h11).2; have := (h201).1; have := (h201).2; have := (h221).1; have := (h221).2; have := (h223).1; have := (h223).2; have := (h_x24).1; have := (h_x24).2; have := (h38).1; have := (h38).2; have := (h59).1; have := (h59).2; omega
                    have hm232 : 400 - x230.toInt < (n_19 : Int) := by
                      have := (h_fa).1; have := (h_fa).2; have := (h_ln).1; have := (h_ln).2; have := (h_pa).1; have := (h_pa).2; have := (h44).1; have := (h44).2; have := (h228).1; have := (h228).2; omega
                    exact ih_19 2 1 x230 x222 x224 M216 R217 J218 H locs _ (iv_mono (iv_c (c := 2) (n := 2) (by decide)) (by decide) (by decide)) (iv_mono (iv_c (c := 1) (n := 1) (by decide)) (by decide) (by decide)) (iv_mono h228 (by decide) (by decide)) h221 k225 h223 k226 w231 hm232 hS (lv_sub hl [1, 2, 0, 4] rfl)
                  · have q233 : ¬ x53.toInt = 43 := ti_ne c197
                    refine lv_iload hx hb dX8_sum_102 (lv_at hl 0 rfl) ?_
                    refine lv_bipush (v := 45) hx hb dX8_sum_104 (by decide) ?_
                    refine lv_icmp_ne (tgt := 113) hx hb dX8_sum_106 (by decide) (fun c234 => ?_) (fun c234 => ?_)
                    · have q235 : ¬ x53.toInt = 45 := ti_ne c234
                      refine lv_iconst (v := 0) hx hb dX8_sum_113 (by decide) ?_
                      refine lv_istore_n (lv' := [(2, .int 0), (4, .int x53), (1, .int x16), (3, .int x18), (0, .ref (base + a0))]) hx hb dX8_sum_114 rfl hl (by decide) rfl (fun ls hl => ?_)
                      refine lv_iload_n hx hb dX8_sum_115 rfl (lv_at hl 0 rfl) ?_
                      refine lv_if_eq (tgt := 146) hx hb dX8_sum_116 (by decide) (fun _ => ?_) (fun h => absurd h (by decide))
                      refine tw_iinc (lv' := fun x238 => [(3, .int x238), (2, .int 0), (4, .int x53), (1, .int x16), (0, .ref (base + a0))]) (lo := 1) (hi := 400) hx hb dX8_sum_146 hl (k := 3) rfl h44 (by decide) ⟨by decide, by decide⟩ ⟨by decide, by decide⟩ (by decide) (fun _ => rfl) (fun x238 ls e237 h236 hl => ?_)
                      refine lv_goto (tgt := 10) hx hb dX8_sum_149 (by decide) ?_
                      have k239 : M192 a0 2 = x56 := (Fr.kp (k := 2) f190 hk_a0 rfl).trans k57
                      have k240 : M192 a0 3 = x26 := ((Fr.kp (k := 3) f190 hk_a0 rfl).trans (Fr.kp (k := 3) f47 hk_a0 rfl)).trans k27
                      have w241 : (x56.toInt ≤ ln.toInt ∨ x56.toInt ≤ pa.toInt) ∧ (¬ x26.toInt = 0 ∨ x56.toInt ≤ ln.toInt) ∧ (¬ x26.toInt = 0 ∨ fa.toInt = 0) := by
                        have := (h_fa).1; have := (h_fa).2; have := (h_ln).1; have := (h_ln).2; have := (h_pa).1; have := (h_pa).2; have := (h9).1; have := (h9).2; have := (h11).1; have := (h11).2; have := (h_x24).1; have := (h_x24).2; have := (h38).1; have := (h38).2; have := (h59).1; have := (h59).2; omega
                      have hm242 : 400 - x238.toInt < (n_19 : Int) := by
                        have := (h_fa).1; have := (h_fa).2; have := (h_ln).1; have := (h_ln).2; have := (h_pa).1; have := (h_pa).2; have := (h44).1; have := (h44).2; have := (h236).1; have := (h236).2; omega
                      exact ih_19 x16 0 x238 x56 x26 M192 R193 J194 H locs _ (iv_mono h189 (by decide) (by decide)) (iv_mono (iv_c (c := 0) (n := 0) (by decide)) (by decide) (by decide)) (iv_mono h236 (by decide) (by decide)) h59 k239 (iv_mono h38 (by decide) (by decide)) k240 w241 hm242 hS (lv_sub hl [3, 1, 0, 4] rfl)
                    · have q243 : x53.toInt = 45 := ti_eq c234
                      have h244 : iv 45 45 x53 := ⟨by have := (h_x53).1; have := ((iv_c (c := 45) (n := 45) (by decide))).1; omega, by have := (h_x53).2; have := ((iv_c (c := 45) (n := 45) (by decide))).2; omega⟩
                      refine lv_iconst (v := 1) hx hb dX8_sum_109 (by decide) ?_
                      refine lv_goto (tgt := 114) hx hb dX8_sum_110 (by decide) ?_
                      refine lv_istore_n (lv' := [(2, .int 1), (4, .int x53), (1, .int x16), (3, .int x18), (0, .ref (base + a0))]) hx hb dX8_sum_114 rfl hl (by decide) rfl (fun ls hl => ?_)
                      refine lv_iload_n hx hb dX8_sum_115 rfl (lv_at hl 0 rfl) ?_
                      refine lv_if_eq (tgt := 146) hx hb dX8_sum_116 (by decide) (fun h => absurd h (by decide)) (fun _ => ?_)
                      refine lv_aload_n hx hb dX8_sum_119 rfl (lv_at hl 4 rfl) ?_
                      refine lv_dup hx hb dX8_sum_120 rfl ?_
                      have k245 : M192 a0 2 = x56 := (Fr.kp (k := 2) f190 hk_a0 rfl).trans k57
                      refine tw_getk hx hb hW hown hK hS f_X8_36_8 hz_a0 hk_a0 (v := x56) k245 dX8_sum_121 ?_
                      refine lv_iconst (v := 1) hx hb dX8_sum_124 (by decide) ?_
                      refine tw_iadd (lo := 1) (hi := 421) hx hb h59 (iv_c (c := 1) (n := 1) (by decide)) ⟨by decide, by decide⟩ ⟨by decide, by decide⟩ dX8_sum_125 (fun x248 e247 h246 => ?_)
                      have e247 : x248.toInt = x56.toInt + 1 := e247
                      refine tw_puti hx hb hW hown hK hS f_X8_36_8 hz_a0 hk_a0 rfl rfl (lo := 0) (hi := 1000) rfl (iv_mono h246 (by decide) (by decide)) rfl dX8_sum_126 (fun H locs M251 hS k249 f250 => ?_)
                      refine lv_iload hx hb dX8_sum_129 (lv_at hl 1 rfl) ?_
                      refine lv_bipush (v := 43) hx hb dX8_sum_131 (by decide) ?_
                      refine lv_icmp_ne (tgt := 140) hx hb dX8_sum_133 (by decide) (fun c252 => ?_) (fun c252 => False.elim (by have q : x53.toInt = 43 := ti_eq c252; have := (h244).1; have := (h244).2; omega))
                      have q253 : ¬ x53.toInt = 43 := ti_ne c252
                      refine lv_iconst (v := 3) hx hb dX8_sum_140 (by decide) ?_
                      refine lv_istore_n (lv' := [(1, .int 3), (2, .int 1), (4, .int x53), (3, .int x18), (0, .ref (base + a0))]) hx hb dX8_sum_141 rfl hl (by decide) rfl (fun ls hl => ?_)
                      refine lv_aload_n hx hb dX8_sum_142 rfl (lv_at hl 4 rfl) ?_
                      have k254 : R193 a0 0 = some tb := ((Fr.kp (k := 0) g191 hk_a0 rfl).trans ((Fr.kp (k := 0) g48 hk_a0 rfl).trans (Fr.kp (k := 0) g23 hk_a0 rfl))).trans k_tb
                      have k255 : M251 a0 1 = ln := ((Fr.kp (k := 1) f250 hk_a0 rfl).trans ((Fr.kp (k := 1) f190 hk_a0 rfl).trans ((Fr.kp (k := 1) f47 hk_a0 rfl).trans (Fr.kp (k := 1) f22 hk_a0 rfl)))).trans k_ln
                      have h256 : iv 0 420 x248 := by
                        have := (h_fa).1; have := (h_fa).2; have := (h_ln).1; have := (h_ln).2; have := (h_pa).1; have := (h_pa).2; have := (h9).1; have := (h9).2; have := (h11).1; have := (h11).2; have := (h_x24).1; have := (h_x24).2; have := (h246).1; have := (h246).2; have := (h38).1; have := (h38).2; have := (h59).1; have := (h59).2; exact ⟨by omega, by omega⟩
                      have k257 : M251 a0 3 = x26 := ((Fr.kp (k := 3) f250 hk_a0 rfl).trans ((Fr.kp (k := 3) f190 hk_a0 rfl).trans (Fr.kp (k := 3) f47 hk_a0 rfl))).trans k27
                      have q258 : ¬ x26.toInt = 0 ∨ x248.toInt ≤ ln.toInt := by
                        have := (h_fa).1; have := (h_fa).2; have := (h_ln).1; have := (h_ln).2; have := (h_pa).1; have := (h_pa).2; have := (h9).1; have := (h9).2; have := (h11).1; have := (h11).2; have := (h_x24).1; have := (h_x24).2; have := (h246).1; have := (h246).2; have := (h38).1; have := (h38).2; have := (h59).1; have := (h59).2; omega
                      refine tw_gov hS (md_runV (As := []) (rest := []) hx hb hml hown hW hK hT hS.1 (t_X8_value l D cy tx base Z K N M251 R193 J194 hS.2.1 a0 hz_a0 hk_a0 tb k254 ln k255 (iv_mono h_ln (by decide) (by decide)) x248 k249 h256 x26 k257 (iv_mono h38 (by decide) (by decide)) q258) s_X8_94 ⟨rfl, rfl, ⟨Nat.le_of_ble_eq_true rfl, Nat.le_of_ble_eq_true rfl⟩, ⟨Nat.le_of_ble_eq_true rfl, Nat.le_of_ble_eq_true rfl⟩⟩ hz_a0 hk_a0 (by decide) rfl rfl hl.1 rfl (Nat.le_of_ble_eq_true rfl) dX8_sum_143) rfl rfl (fun H locs M261 R262 J263 hS f259 g260 E264 => ?_)
                      have p265 := E264
                      obtain ⟨x267, x269, k270, k271, h266, h268, q272⟩ := p265
                      have k270 : M261 a0 2 = x267 := k270
                      have k271 : M261 a0 3 = x269 := k271
                      refine tw_iinc (lv' := fun x275 => [(3, .int x275), (1, .int 3), (2, .int 1), (4, .int x53), (0, .ref (base + a0))]) (lo := 1) (hi := 400) hx hb dX8_sum_146 hl (k := 3) rfl h44 (by decide) ⟨by decide, by decide⟩ ⟨by decide, by decide⟩ (by decide) (fun _ => rfl) (fun x275 ls e274 h273 hl => ?_)
                      refine lv_goto (tgt := 10) hx hb dX8_sum_149 (by decide) ?_
                      have w276 : (x267.toInt ≤ ln.toInt ∨ x267.toInt ≤ pa.toInt) ∧ (¬ x269.toInt = 0 ∨ x267.toInt ≤ ln.toInt) ∧ (¬ x269.toInt = 0 ∨ fa.toInt = 0) := by
                        have := (h_fa).1; have := (h_fa).2; have := (h_ln).1; have := (h_ln).2; have := (h_pa).1; have := (h_pa).2; have := (h9).1; have := (h9).2; have := (h11).1; have := (h11).2; have := (h_x24).1; have := (h_x24).2; have := (h246).1; have := (h246).2; have := (h38).1; have := (h38).2; have := (h266).1; have := (h266).2; have := (h268).1; have := (h268).2; have := (h59).1; have := (h59).2; omega
                      have hm277 : 400 - x275.toInt < (n_19 : Int) := by
                        have := (h_fa).1; have := (h_fa).2; have := (h_ln).1; have := (h_ln).2; have := (h_pa).1; have := (h_pa).2; have := (h44).1; have := (h44).2; have := (h273).1; have := (h273).2; omega
                      exact ih_19 3 1 x275 x267 x269 M261 R262 J263 H locs _ (iv_mono (iv_c (c := 3) (n := 3) (by decide)) (by decide) (by decide)) (iv_mono (iv_c (c := 1) (n := 1) (by decide)) (by decide) (by decide)) (iv_mono h273 (by decide) (by decide)) h266 k270 h268 k271 w276 hm277 hS (lv_sub hl [1, 2, 0, 4] rfl)
              · have q278 : x53.toInt = 47 := ti_eq c105
                have h279 : iv 47 47 x53 := ⟨by have := (h_x53).1; have := ((iv_c (c := 47) (n := 47) (by decide))).1; omega, by have := (h_x53).2; have := ((iv_c (c := 47) (n := 47) (by decide))).2; omega⟩
                refine lv_aload_n hx hb dX8_sum_48 rfl (lv_at hl 4 rfl) ?_
                refine lv_dup hx hb dX8_sum_49 rfl ?_
                refine tw_getk hx hb hW hown hK hS f_X8_36_8 hz_a0 hk_a0 (v := x56) k57 dX8_sum_50 ?_
                refine lv_iconst (v := 1) hx hb dX8_sum_53 (by decide) ?_
                refine tw_iadd (lo := 1) (hi := 421) hx hb h59 (iv_c (c := 1) (n := 1) (by decide)) ⟨by decide, by decide⟩ ⟨by decide, by decide⟩ dX8_sum_54 (fun x282 e281 h280 => ?_)
                have e281 : x282.toInt = x56.toInt + 1 := e281
                refine tw_puti hx hb hW hown hK hS f_X8_36_8 hz_a0 hk_a0 rfl rfl (lo := 0) (hi := 1000) rfl (iv_mono h280 (by decide) (by decide)) rfl dX8_sum_55 (fun H locs M285 hS k283 f284 => ?_)
                refine lv_aload_n hx hb dX8_sum_58 rfl (lv_at hl 4 rfl) ?_
                have k286 : R50 a0 0 = some tb := ((Fr.kp (k := 0) g48 hk_a0 rfl).trans (Fr.kp (k := 0) g23 hk_a0 rfl)).trans k_tb
                have k287 : M285 a0 1 = ln := ((Fr.kp (k := 1) f284 hk_a0 rfl).trans ((Fr.kp (k := 1) f47 hk_a0 rfl).trans (Fr.kp (k := 1) f22 hk_a0 rfl))).trans k_ln
                have h288 : iv 0 420 x282 := by
                  have := (h_fa).1; have := (h_fa).2; have := (h_ln).1; have := (h_ln).2; have := (h_pa).1; have := (h_pa).2; have := (h9).1; have := (h9).2; have := (h11).1; have := (h11).2; have := (h_x24).1; have := (h_x24).2; have := (h38).1; have := (h38).2; have := (h280).1; have := (h280).2; have := (h59).1; have := (h59).2; exact ⟨by omega, by omega⟩
                have k289 : M285 a0 3 = x26 := ((Fr.kp (k := 3) f284 hk_a0 rfl).trans (Fr.kp (k := 3) f47 hk_a0 rfl)).trans k27
                have q290 : ¬ x26.toInt = 0 ∨ x282.toInt ≤ ln.toInt := by
                  have := (h_fa).1; have := (h_fa).2; have := (h_ln).1; have := (h_ln).2; have := (h_pa).1; have := (h_pa).2; have := (h9).1; have := (h9).2; have := (h11).1; have := (h11).2; have := (h_x24).1; have := (h_x24).2; have := (h38).1; have := (h38).2; have := (h280).1; have := (h280).2; have := (h59).1; have := (h59).2; omega
                refine tw_gov hS (md_runV (As := []) (rest := []) hx hb hml hown hW hK hT hS.1 (t_X8_value l D cy tx base Z K N M285 R50 J51 hS.2.1 a0 hz_a0 hk_a0 tb k286 ln k287 (iv_mono h_ln (by decide) (by decide)) x282 k283 h288 x26 k289 (iv_mono h38 (by decide) (by decide)) q290) s_X8_94 ⟨rfl, rfl, ⟨Nat.le_of_ble_eq_true rfl, Nat.le_of_ble_eq_true rfl⟩, ⟨Nat.le_of_ble_eq_true rfl, Nat.le_of_ble_eq_true rfl⟩⟩ hz_a0 hk_a0 (by decide) rfl rfl hl.1 rfl (Nat.le_of_ble_eq_true rfl) dX8_sum_59) rfl rfl (fun H locs M293 R294 J295 hS f291 g292 E296 => ?_)
                have p297 := E296
                obtain ⟨x299, x301, k302, k303, h298, h300, q304⟩ := p297
                have k302 : M293 a0 2 = x299 := k302
                have k303 : M293 a0 3 = x301 := k303
                refine lv_aload_n hx hb dX8_sum_62 rfl (lv_at hl 4 rfl) ?_
                refine lv_iload hx hb dX8_sum_63 (lv_at hl 0 rfl) ?_
                refine lv_bipush (v := 42) hx hb dX8_sum_65 (by decide) ?_
                refine lv_icmp_ne (tgt := 74) hx hb dX8_sum_67 (by decide) (fun c305 => ?_) (fun c305 => False.elim (by have q : x53.toInt = 42 := ti_eq c305; have := (h279).1; have := (h279).2; omega))
                have q306 : ¬ x53.toInt = 42 := ti_ne c305
                refine lv_iconst (v := 5) hx hb dX8_sum_74 (by decide) ?_
                refine lv_iconst (v := 0) hx hb dX8_sum_75 (by decide) ?_
                refine tw_goi hS (md_runV (As := [.int 5, .int 0]) (rest := []) hx hb hml hown hW hK hT hS.1 (t_X8_put l D cy tx base Z K N M293 R294 J295 hS.2.1 a0 hz_a0 hk_a0 5 (iv_mono (iv_c (c := 5) (n := 5) (by decide)) (by decide) (by decide)) 0 (iv_mono (iv_c (c := 0) (n := 0) (by decide)) (by decide) (by decide))) s_X8_54 ⟨rfl, rfl, ⟨Nat.le_of_ble_eq_true rfl, Nat.le_of_ble_eq_true rfl⟩, ⟨Nat.le_of_ble_eq_true rfl, Nat.le_of_ble_eq_true rfl⟩⟩ hz_a0 hk_a0 (by decide) rfl rfl hl.1 rfl (Nat.le_of_ble_eq_true rfl) dX8_sum_76) rfl rfl (fun x313 H locs M309 R310 J311 hS f307 g308 E312 => ?_)
                have h_x313 := E312
                refine lv_pop hx hb dX8_sum_79 rfl ?_
                refine lv_goto (tgt := 146) hx hb dX8_sum_80 (by decide) ?_
                refine tw_iinc (lv' := fun x316 => [(3, .int x316), (4, .int x53), (1, .int x16), (2, .int x17), (0, .ref (base + a0))]) (lo := 1) (hi := 400) hx hb dX8_sum_146 hl (k := 3) rfl h44 (by decide) ⟨by decide, by decide⟩ ⟨by decide, by decide⟩ (by decide) (fun _ => rfl) (fun x316 ls e315 h314 hl => ?_)
                refine lv_goto (tgt := 10) hx hb dX8_sum_149 (by decide) ?_
                have k317 : M309 a0 2 = x299 := (Fr.kp (k := 2) f307 hk_a0 rfl).trans k302
                have k318 : M309 a0 3 = x301 := (Fr.kp (k := 3) f307 hk_a0 rfl).trans k303
                have w319 : (x299.toInt ≤ ln.toInt ∨ x299.toInt ≤ pa.toInt) ∧ (¬ x301.toInt = 0 ∨ x299.toInt ≤ ln.toInt) ∧ (¬ x301.toInt = 0 ∨ fa.toInt = 0) := by
                  have := (h_fa).1; have := (h_fa).2; have := (h_ln).1; have := (h_ln).2; have := (h_pa).1; have := (h_pa).2; have := (h9).1; have := (h9).2; have := (h11).1; have := (h11).2; have := (h_x24).1; have := (h_x24).2; have := (h38).1; have := (h38).2; have := (h280).1; have := (h280).2; have := (h298).1; have := (h298).2; have := (h300).1; have := (h300).2; have := (h59).1; have := (h59).2; omega
                have hm320 : 400 - x316.toInt < (n_19 : Int) := by
                  have := (h_fa).1; have := (h_fa).2; have := (h_ln).1; have := (h_ln).2; have := (h_pa).1; have := (h_pa).2; have := (h44).1; have := (h44).2; have := (h314).1; have := (h314).2; omega
                exact ih_19 x16 x17 x316 x299 x301 M309 R310 J311 H locs _ h_x16 (iv_mono h33 (by decide) (by decide)) (iv_mono h314 (by decide) (by decide)) h298 k317 h300 k318 w319 hm320 hS (lv_sub hl [2, 3, 0, 4] rfl)
  have w321 : (x10.toInt ≤ ln.toInt ∨ x10.toInt ≤ pa.toInt) ∧ (¬ x12.toInt = 0 ∨ x10.toInt ≤ ln.toInt) ∧ (¬ x12.toInt = 0 ∨ fa.toInt = 0) := by
    have := (h_fa).1; have := (h_fa).2; have := (h_ln).1; have := (h_ln).2; have := (h_pa).1; have := (h_pa).2; have := (h9).1; have := (h9).2; have := (h11).1; have := (h11).2; omega
  have hm322 : 400 - (0 : Int32).toInt < (((401 : Nat) : Int) : Int) := by
    have := (h_fa).1; have := (h_fa).2; have := (h_ln).1; have := (h_ln).2; have := (h_pa).1; have := (h_pa).2; have : (0 : Int32).toInt = 0 := (by decide); omega
  exact W10_19 401 (-1) 1 0 x10 x12 M4 R5 J6 H locs _ (iv_mono (iv_c (c := (-1)) (n := (-1)) (by decide)) (by decide) (by decide)) (iv_mono (iv_c (c := 1) (n := 1) (by decide)) (by decide) (by decide)) (iv_mono (iv_c (c := 0) (n := 0) (by decide)) (by decide) (by decide)) h9 k13 h11 k14 w321 hm322 hS (lv_sub hl [2, 1, 0, 3] rfl)
set_option maxRecDepth 100000 in
set_option maxHeartbeats 4000000 in
theorem t_X8_fact (l : Launch) (D : va_G) (cy : Nat → ClassId) (tx : (Nat → Nat) × (Nat → Nat)) (base Z : Nat) (K N : Nat → Nat) : ∀ (d : Nat), ∀ (Ma : MT) (Ra : RT) (Ja : JT) (hTy : Ty Z K N Ma Ra) (a0 : Nat) (hz_a0 : a0 < Z) (hk_a0 : K a0 = 9) (a1 : Int32) (h_a1 : iv 0 10 a1) (tb : Nat) (k_tb : Ra a0 0 = some tb) (ln : Int32) (k_ln : Ma a0 1 = ln) (h_ln : iv 0 400 ln) (pa : Int32) (k_pa : Ma a0 2 = pa) (h_pa : iv 0 400 pa) (fa : Int32) (k_fa : Ma a0 3 = fa) (h_fa : iv 0 0 fa) (hin : pa.toInt ≤ ln.toInt) (hmd : 10 - a1.toInt < (d : Int)), Met l yX8_fact [Cond.code yX8_fact cX8_fact 5 none] (md_rm (9 + 2 * d) 0 0) (va_Pc [.ref (base + a0), .int a1] (md_U D cy tx base Z K N Ma Ra Ja)) (mQv D cy tx base (fun u => TP Z K N Lt_X8_fact LRt_X8_fact Ma Ra u ∧ ((∃ x0 x1 : Int32, u.2.2.2.1 a0 2 = x0 ∧ u.2.2.2.1 a0 3 = x1 ∧ iv 0 420 x0 ∧ iv (-2147483648) 2147483647 x1 ∧ (x0.toInt ≤ 420 - a1.toInt ∧ (¬ x1.toInt = 0 ∨ x0.toInt ≤ ln.toInt)))))) 0 0 (fun q => base ≤ q) := by
  intro d
  induction d with
  | zero =>
    intro Ma Ra Ja hTy a0 hz_a0 hk_a0 a1 h_a1 tb k_tb ln k_ln h_ln pa k_pa h_pa fa k_fa h_fa hin hmd
    exfalso
    have := h_a1.2
    omega
  | succ d ih =>
    intro Ma Ra Ja hTy a0 hz_a0 hk_a0 a1 h_a1 tb k_tb ln k_ln h_ln pa k_pa h_pa fa k_fa h_fa hin hmd
    refine tw_ofW (L := Lt_X8_fact) (LR := LRt_X8_fact) (by decide) (Nat.le_of_ble_eq_true rfl) hTy ?_
    intro p e s m args below meth c Q ls hx hb hr hlocks hown hml hW hK hT hS hQ hl
    have hl : lv_has ls 5 [(0, .ref (base + a0)), (1, .int a1)] := hl
    obtain ⟨hz_tb, hk_tb, hn_tb⟩ := hTy.refn hz_a0 hk_a0 (show rtR 9 0 = (13, 400, 1) from rfl) k_tb
    have hn_tb := hn_tb (by decide)
    refine lv_aload_n hx hb dX8_fact_0 rfl (lv_at hl 0 rfl) ?_
    refine tw_goi hS (md_runU (As := []) (rest := []) hx hb hml hown hW hK hT hS.1 (t_X10_hereBehindBlanks l D cy tx base Z K N Ma Ra Ja hS.2.1 a0 hz_a0 hk_a0 tb k_tb ln k_ln (iv_mono h_ln (by decide) (by decide)) pa k_pa (iv_mono h_pa (by decide) (by decide))) s_X8_26_X8 ⟨rfl, rfl, ⟨by simp only [md_rm]; omega, by simp only [md_rm]; omega⟩, ⟨Nat.le_of_ble_eq_true rfl, Nat.le_of_ble_eq_true rfl⟩⟩ hz_a0 hk_a0 (by decide) rfl rfl hl.1 rfl (Nat.le_of_ble_eq_true rfl) dX8_fact_1) rfl rfl (fun x7 H locs M3 R4 J5 hS f1 g2 E6 => ?_)
    obtain ⟨h_x7, p8⟩ := E6
    obtain ⟨x10, k11, h9, q12⟩ := p8
    have k11 : M3 a0 2 = x10 := k11
    have h13 : iv 0 400 x10 := by
      have := (h_a1).1; have := (h_a1).2; have := (h_fa).1; have := (h_fa).2; have := (h_ln).1; have := (h_ln).2; have := (h_pa).1; have := (h_pa).2; have := (h9).1; have := (h9).2; exact ⟨by omega, by omega⟩
    refine lv_bipush (v := 91) hx hb dX8_fact_4 (by decide) ?_
    refine lv_icmp_ne (tgt := 13) hx hb dX8_fact_6 (by decide) (fun c14 => ?_) (fun c14 => ?_)
    · have q15 : ¬ x7.toInt = 91 := ti_ne c14
      refine lv_iconst (v := 0) hx hb dX8_fact_13 (by decide) ?_
      refine lv_istore_n (lv' := [(2, .int 0), (0, .ref (base + a0)), (1, .int a1)]) hx hb dX8_fact_14 rfl hl (by decide) rfl (fun ls hl => ?_)
      refine lv_iload_n hx hb dX8_fact_15 rfl (lv_at hl 0 rfl) ?_
      refine lv_if_ne (tgt := 32) hx hb dX8_fact_16 (by decide) (fun h => absurd h (by decide)) (fun _ => ?_)
      refine lv_aload_n hx hb dX8_fact_19 rfl (lv_at hl 1 rfl) ?_
      refine va_ldcS hx hb hown hT.2.1.2.2.2.2.2 dX8_fact_20 ?_
      have k16 : R4 a0 0 = some tb := (Fr.kp (k := 0) g2 hk_a0 rfl).trans k_tb
      have k17 : M3 a0 1 = ln := (Fr.kp (k := 1) f1 hk_a0 rfl).trans k_ln
      refine tw_goi hS (md_runU (As := [.ref (tx.1 5)]) (rest := []) hx hb hml hown hW hK hT hS.1 (t_X10_whichWord l D cy tx base Z K N M3 R4 J5 hS.2.1 a0 hz_a0 hk_a0 5 (by decide) tb k16 ln k17 (iv_mono h_ln (by decide) (by decide)) x10 k11 (iv_mono h13 (by decide) (by decide))) s_X8_32_X8 ⟨rfl, rfl, ⟨by simp only [md_rm]; omega, by simp only [md_rm]; omega⟩, ⟨Nat.le_of_ble_eq_true rfl, Nat.le_of_ble_eq_true rfl⟩⟩ hz_a0 hk_a0 (by decide) rfl rfl hl.1 rfl (Nat.le_of_ble_eq_true rfl) dX8_fact_22) rfl rfl (fun x24 H locs M20 R21 J22 hS f18 g19 E23 => ?_)
      obtain ⟨h_x24, p25⟩ := E23
      obtain ⟨x27, k28, h26, q29⟩ := p25
      have k28 : M20 a0 4 = x27 := k28
      have h30 : iv 0 400 x27 := by
        have := (h_a1).1; have := (h_a1).2; have := (h_fa).1; have := (h_fa).2; have := (h_ln).1; have := (h_ln).2; have := (h_pa).1; have := (h_pa).2; have := (h13).1; have := (h13).2; have := (h26).1; have := (h26).2; exact ⟨by omega, by omega⟩
      refine lv_if_ne (tgt := 32) hx hb dX8_fact_25 (by decide) (fun c31 => ?_) (fun c31 => ?_)
      · have q32 : ¬ x24.toInt = 0 := ti_ne c31
        refine lv_iconst (v := 0) hx hb dX8_fact_32 (by decide) ?_
        refine lv_istore_n (lv' := [(3, .int 0), (2, .int 0), (0, .ref (base + a0)), (1, .int a1)]) hx hb dX8_fact_33 rfl hl (by decide) rfl (fun ls hl => ?_)
        refine lv_iload_n hx hb dX8_fact_34 rfl (lv_at hl 1 rfl) ?_
        refine lv_if_ne (tgt := 67) hx hb dX8_fact_35 (by decide) (fun h => absurd h (by decide)) (fun _ => ?_)
        refine lv_iload_n hx hb dX8_fact_38 rfl (lv_at hl 0 rfl) ?_
        refine lv_if_ne (tgt := 67) hx hb dX8_fact_39 (by decide) (fun h => absurd h (by decide)) (fun _ => ?_)
        refine lv_aload_n hx hb dX8_fact_42 rfl (lv_at hl 2 rfl) ?_
        have k33 : R21 a0 0 = some tb := ((Fr.kp (k := 0) g19 hk_a0 rfl).trans (Fr.kp (k := 0) g2 hk_a0 rfl)).trans k_tb
        have k34 : M20 a0 1 = ln := ((Fr.kp (k := 1) f18 hk_a0 rfl).trans (Fr.kp (k := 1) f1 hk_a0 rfl)).trans k_ln
        have k35 : M20 a0 2 = x10 := (Fr.kp (k := 2) f18 hk_a0 rfl).trans k11
        have k36 : M20 a0 3 = fa := ((Fr.kp (k := 3) f18 hk_a0 rfl).trans (Fr.kp (k := 3) f1 hk_a0 rfl)).trans k_fa
        have q37 : ¬ fa.toInt = 0 ∨ x10.toInt ≤ ln.toInt := by
          have := (h_a1).1; have := (h_a1).2; have := (h_fa).1; have := (h_fa).2; have := (h_ln).1; have := (h_ln).2; have := (h_pa).1; have := (h_pa).2; have := (h13).1; have := (h13).2; have := (h30).1; have := (h30).2; omega
        refine tw_gov hS (md_runV (As := []) (rest := []) hx hb hml hown hW hK hT hS.1 (t_X8_sum l D cy tx base Z K N M20 R21 J22 hS.2.1 a0 hz_a0 hk_a0 tb k33 ln k34 (iv_mono h_ln (by decide) (by decide)) x10 k35 (iv_mono h13 (by decide) (by decide)) fa k36 (iv_mono h_fa (by decide) (by decide)) q37) s_X8_82 ⟨rfl, rfl, ⟨by simp only [md_rm]; omega, by simp only [md_rm]; omega⟩, ⟨Nat.le_of_ble_eq_true rfl, Nat.le_of_ble_eq_true rfl⟩⟩ hz_a0 hk_a0 (by decide) rfl rfl hl.1 rfl (Nat.le_of_ble_eq_true rfl) dX8_fact_43) rfl rfl (fun H locs M40 R41 J42 hS f38 g39 E43 => ?_)
        have p44 := E43
        obtain ⟨x46, x48, k49, k50, h45, h47, q51⟩ := p44
        have k49 : M40 a0 2 = x46 := k49
        have k50 : M40 a0 3 = x48 := k50
        have h52 : iv 0 400 x46 := by
          have := (h_a1).1; have := (h_a1).2; have := (h_fa).1; have := (h_fa).2; have := (h_ln).1; have := (h_ln).2; have := (h_pa).1; have := (h_pa).2; have := (h13).1; have := (h13).2; have := (h30).1; have := (h30).2; have := (h45).1; have := (h45).2; have := (h47).1; have := (h47).2; exact ⟨by omega, by omega⟩
        refine lv_aload_n hx hb dX8_fact_46 rfl (lv_at hl 2 rfl) ?_
        have k53 : R41 a0 0 = some tb := ((Fr.kp (k := 0) g39 hk_a0 rfl).trans ((Fr.kp (k := 0) g19 hk_a0 rfl).trans (Fr.kp (k := 0) g2 hk_a0 rfl))).trans k_tb
        have k54 : M40 a0 1 = ln := ((Fr.kp (k := 1) f38 hk_a0 rfl).trans ((Fr.kp (k := 1) f18 hk_a0 rfl).trans (Fr.kp (k := 1) f1 hk_a0 rfl))).trans k_ln
        have q55 : ¬ x48.toInt = 0 ∨ x46.toInt ≤ ln.toInt := by
          have := (h_a1).1; have := (h_a1).2; have := (h_fa).1; have := (h_fa).2; have := (h_ln).1; have := (h_ln).2; have := (h_pa).1; have := (h_pa).2; have := (h13).1; have := (h13).2; have := (h30).1; have := (h30).2; have := (h52).1; have := (h52).2; have := (h47).1; have := (h47).2; omega
        refine tw_goi hS (md_runV (As := []) (rest := []) hx hb hml hown hW hK hT hS.1 (t_X8_sign l D cy tx base Z K N M40 R41 J42 hS.2.1 a0 hz_a0 hk_a0 tb k53 ln k54 (iv_mono h_ln (by decide) (by decide)) x46 k49 (iv_mono h52 (by decide) (by decide)) x48 k50 (iv_mono h47 (by decide) (by decide)) q55) s_X8_85 ⟨rfl, rfl, ⟨by simp only [md_rm]; omega, by simp only [md_rm]; omega⟩, ⟨Nat.le_of_ble_eq_true rfl, Nat.le_of_ble_eq_true rfl⟩⟩ hz_a0 hk_a0 (by decide) rfl rfl hl.1 rfl (Nat.le_of_ble_eq_true rfl) dX8_fact_47) rfl rfl (fun x62 H locs M58 R59 J60 hS f56 g57 E61 => ?_)
        obtain ⟨h_x62, p63⟩ := E61
        obtain ⟨x65, x67, k68, k69, h64, h66, q70⟩ := p63
        have k68 : M58 a0 2 = x65 := k68
        have k69 : M58 a0 3 = x67 := k69
        refine lv_istore (lv' := [(4, .int x62), (3, .int 0), (2, .int 0), (0, .ref (base + a0)), (1, .int a1)]) hx hb dX8_fact_50 hl (by decide) rfl (fun ls hl => ?_)
        refine lv_aload_n hx hb dX8_fact_52 rfl (lv_at hl 3 rfl) ?_
        have k71 : R59 a0 0 = some tb := ((Fr.kp (k := 0) g57 hk_a0 rfl).trans ((Fr.kp (k := 0) g39 hk_a0 rfl).trans ((Fr.kp (k := 0) g19 hk_a0 rfl).trans (Fr.kp (k := 0) g2 hk_a0 rfl)))).trans k_tb
        have k72 : M58 a0 1 = ln := ((Fr.kp (k := 1) f56 hk_a0 rfl).trans ((Fr.kp (k := 1) f38 hk_a0 rfl).trans ((Fr.kp (k := 1) f18 hk_a0 rfl).trans (Fr.kp (k := 1) f1 hk_a0 rfl)))).trans k_ln
        have h73 : iv 0 420 x65 := by
          have := (h_a1).1; have := (h_a1).2; have := (h_fa).1; have := (h_fa).2; have := (h_ln).1; have := (h_ln).2; have := (h_pa).1; have := (h_pa).2; have := (h13).1; have := (h13).2; have := (h30).1; have := (h30).2; have := (h52).1; have := (h52).2; have := (h47).1; have := (h47).2; have := (h64).1; have := (h64).2; have := (h66).1; have := (h66).2; exact ⟨by omega, by omega⟩
        have q74 : ¬ x67.toInt = 0 ∨ x65.toInt ≤ ln.toInt := by
          have := (h_a1).1; have := (h_a1).2; have := (h_fa).1; have := (h_fa).2; have := (h_ln).1; have := (h_ln).2; have := (h_pa).1; have := (h_pa).2; have := (h13).1; have := (h13).2; have := (h30).1; have := (h30).2; have := (h52).1; have := (h52).2; have := (h47).1; have := (h47).2; have := (h64).1; have := (h64).2; have := (h66).1; have := (h66).2; omega
        refine tw_gov hS (md_runV (As := []) (rest := []) hx hb hml hown hW hK hT hS.1 (t_X8_sum l D cy tx base Z K N M58 R59 J60 hS.2.1 a0 hz_a0 hk_a0 tb k71 ln k72 (iv_mono h_ln (by decide) (by decide)) x65 k68 h73 x67 k69 (iv_mono h66 (by decide) (by decide)) q74) s_X8_82 ⟨rfl, rfl, ⟨by simp only [md_rm]; omega, by simp only [md_rm]; omega⟩, ⟨Nat.le_of_ble_eq_true rfl, Nat.le_of_ble_eq_true rfl⟩⟩ hz_a0 hk_a0 (by decide) rfl rfl hl.1 rfl (Nat.le_of_ble_eq_true rfl) dX8_fact_53) rfl rfl (fun H locs M77 R78 J79 hS f75 g76 E80 => ?_)
        have p81 := E80
        obtain ⟨x83, x85, k86, k87, h82, h84, q88⟩ := p81
        have k86 : M77 a0 2 = x83 := k86
        have k87 : M77 a0 3 = x85 := k87
        refine lv_aload_n hx hb dX8_fact_56 rfl (lv_at hl 3 rfl) ?_
        refine lv_iload hx hb dX8_fact_57 (lv_at hl 0 rfl) ?_
        refine lv_iconst (v := 0) hx hb dX8_fact_59 (by decide) ?_
        refine tw_goi hS (md_runV (As := [.int x62, .int 0]) (rest := []) hx hb hml hown hW hK hT hS.1 (t_X8_put l D cy tx base Z K N M77 R78 J79 hS.2.1 a0 hz_a0 hk_a0 x62 (iv_mono h_x62 (by decide) (by decide)) 0 (iv_mono (iv_c (c := 0) (n := 0) (by decide)) (by decide) (by decide))) s_X8_54 ⟨rfl, rfl, ⟨by simp only [md_rm]; omega, by simp only [md_rm]; omega⟩, ⟨Nat.le_of_ble_eq_true rfl, Nat.le_of_ble_eq_true rfl⟩⟩ hz_a0 hk_a0 (by decide) rfl rfl hl.1 rfl (Nat.le_of_ble_eq_true rfl) dX8_fact_60) rfl rfl (fun x95 H locs M91 R92 J93 hS f89 g90 E94 => ?_)
        have h_x95 := E94
        refine lv_pop hx hb dX8_fact_63 rfl ?_
        refine lv_goto (tgt := 156) hx hb dX8_fact_64 (by decide) ?_
        have k96 : M91 a0 2 = x83 := (Fr.kp (k := 2) f89 hk_a0 rfl).trans k86
        have k97 : M91 a0 3 = x85 := (Fr.kp (k := 3) f89 hk_a0 rfl).trans k87
        have q98 : x83.toInt ≤ 420 - a1.toInt ∧ (¬ x85.toInt = 0 ∨ x83.toInt ≤ ln.toInt) := by
          have := (h_a1).1; have := (h_a1).2; have := (h_fa).1; have := (h_fa).2; have := (h_ln).1; have := (h_ln).2; have := (h_pa).1; have := (h_pa).2; have := (h13).1; have := (h13).2; have := (h30).1; have := (h30).2; have := (h52).1; have := (h52).2; have := (h47).1; have := (h47).2; have := (h64).1; have := (h64).2; have := (h66).1; have := (h66).2; have := (h82).1; have := (h82).2; have := (h84).1; have := (h84).2; omega
        exact tw_endv hx hb hr hlocks hK hT hS hQ (⟨x83, x85, k96, k97, h82, h84, q98⟩) dX8_fact_156
      · have q99 : x24.toInt = 0 := ti_eq c31
        have h100 : iv 0 0 x24 := ⟨by have := (h_x24).1; have := ((iv_c (c := 0) (n := 0) (by decide))).1; omega, by have := (h_x24).2; have := ((iv_c (c := 0) (n := 0) (by decide))).2; omega⟩
        refine lv_iconst (v := 1) hx hb dX8_fact_28 (by decide) ?_
        refine lv_goto (tgt := 33) hx hb dX8_fact_29 (by decide) ?_
        refine lv_istore_n (lv' := [(3, .int 1), (2, .int 0), (0, .ref (base + a0)), (1, .int a1)]) hx hb dX8_fact_33 rfl hl (by decide) rfl (fun ls hl => ?_)
        refine lv_iload_n hx hb dX8_fact_34 rfl (lv_at hl 1 rfl) ?_
        refine lv_if_ne (tgt := 67) hx hb dX8_fact_35 (by decide) (fun h => absurd h (by decide)) (fun _ => ?_)
        refine lv_iload_n hx hb dX8_fact_38 rfl (lv_at hl 0 rfl) ?_
        refine lv_if_ne (tgt := 67) hx hb dX8_fact_39 (by decide) (fun _ => ?_) (fun h => absurd h (by decide))
        refine lv_iload_n hx hb dX8_fact_67 rfl (lv_at hl 3 rfl) ?_
        refine lv_bipush (v := 10) hx hb dX8_fact_68 (by decide) ?_
        refine lv_icmp_lt (tgt := 85) hx hb dX8_fact_70 (by decide) (fun c101 => ?_) (fun c101 => ?_)
        · have q102 : a1.toInt < 10 := ti_lt c101
          have h103 : iv 0 9 a1 := iv_ltL (y := 10) h_a1 (iv_c (c := 10) (n := 10) (by decide)) q102 (by decide)
          refine lv_iload_n hx hb dX8_fact_85 rfl (lv_at hl 0 rfl) ?_
          refine lv_if_eq (tgt := 111) hx hb dX8_fact_86 (by decide) (fun h => absurd h (by decide)) (fun _ => ?_)
          refine lv_aload_n hx hb dX8_fact_89 rfl (lv_at hl 2 rfl) ?_
          refine tw_gov hS (md_runU (As := []) (rest := []) hx hb hml hown hW hK hT hS.1 (t_X10_passWord l D cy tx base Z K N M20 R21 J22 hS.2.1 a0 hz_a0 hk_a0 x27 k28 (iv_mono h30 (by decide) (by decide))) s_X8_43_X8 ⟨rfl, rfl, ⟨by simp only [md_rm]; omega, by simp only [md_rm]; omega⟩, ⟨Nat.le_of_ble_eq_true rfl, Nat.le_of_ble_eq_true rfl⟩⟩ hz_a0 hk_a0 (by decide) rfl rfl hl.1 rfl (Nat.le_of_ble_eq_true rfl) dX8_fact_90) rfl rfl (fun H locs M106 R107 J108 hS f104 g105 E109 => ?_)
          have p110 := E109
          have k111 : M106 a0 2 = x27 := p110
          refine lv_aload_n hx hb dX8_fact_93 rfl (lv_at hl 2 rfl) ?_
          refine lv_iload_n hx hb dX8_fact_94 rfl (lv_at hl 3 rfl) ?_
          refine lv_iconst (v := 1) hx hb dX8_fact_95 (by decide) ?_
          refine tw_iadd (lo := 1) (hi := 10) hx hb h103 (iv_c (c := 1) (n := 1) (by decide)) ⟨by decide, by decide⟩ ⟨by decide, by decide⟩ dX8_fact_96 (fun x114 e113 h112 => ?_)
          have e113 : x114.toInt = a1.toInt + 1 := e113
          have k115 : R107 a0 0 = some tb := ((Fr.kp (k := 0) g105 hk_a0 rfl).trans ((Fr.kp (k := 0) g19 hk_a0 rfl).trans (Fr.kp (k := 0) g2 hk_a0 rfl))).trans k_tb
          have k116 : M106 a0 1 = ln := ((Fr.kp (k := 1) f104 hk_a0 rfl).trans ((Fr.kp (k := 1) f18 hk_a0 rfl).trans (Fr.kp (k := 1) f1 hk_a0 rfl))).trans k_ln
          have k117 : M106 a0 3 = fa := ((Fr.kp (k := 3) f104 hk_a0 rfl).trans ((Fr.kp (k := 3) f18 hk_a0 rfl).trans (Fr.kp (k := 3) f1 hk_a0 rfl))).trans k_fa
          have q118 : x27.toInt ≤ ln.toInt := by
            have := (h103).1; have := (h103).2; have := (h_fa).1; have := (h_fa).2; have := (h_ln).1; have := (h_ln).2; have := (h_pa).1; have := (h_pa).2; have := (h13).1; have := (h13).2; have := (h30).1; have := (h30).2; omega
          have hm119 : 10 - x114.toInt < (d : Int) := by
            have := (h103).1; have := (h103).2; have := (h_fa).1; have := (h_fa).2; have := (h_ln).1; have := (h_ln).2; have := (h_pa).1; have := (h_pa).2; have := (h112).1; have := (h112).2; omega
          refine tw_gov hS (md_runV (As := [.int x114]) (rest := []) hx hb hml hown hW hK hT hS.1 (ih M106 R107 J108 hS.2.1 a0 hz_a0 hk_a0 x114 (iv_mono h112 (by decide) (by decide)) tb k115 ln k116 (iv_mono h_ln (by decide) (by decide)) x27 k111 (iv_mono h30 (by decide) (by decide)) fa k117 (iv_mono h_fa (by decide) (by decide)) q118 hm119) s_X8_75 ⟨rfl, rfl, ⟨by simp only [md_rm]; omega, by simp only [md_rm]; omega⟩, ⟨Nat.le_of_ble_eq_true rfl, Nat.le_of_ble_eq_true rfl⟩⟩ hz_a0 hk_a0 (by decide) rfl rfl hl.1 rfl (Nat.le_of_ble_eq_true rfl) dX8_fact_97) rfl rfl (fun H locs M122 R123 J124 hS f120 g121 E125 => ?_)
          have p126 := E125
          obtain ⟨x128, x130, k131, k132, h127, h129, q133⟩ := p126
          have k131 : M122 a0 2 = x128 := k131
          have k132 : M122 a0 3 = x130 := k132
          refine lv_aload_n hx hb dX8_fact_100 rfl (lv_at hl 2 rfl) ?_
          refine lv_bipush (v := 11) hx hb dX8_fact_101 (by decide) ?_
          refine lv_iconst (v := 0) hx hb dX8_fact_103 (by decide) ?_
          refine tw_goi hS (md_runV (As := [.int 11, .int 0]) (rest := []) hx hb hml hown hW hK hT hS.1 (t_X8_put l D cy tx base Z K N M122 R123 J124 hS.2.1 a0 hz_a0 hk_a0 11 (iv_mono (iv_c (c := 11) (n := 11) (by decide)) (by decide) (by decide)) 0 (iv_mono (iv_c (c := 0) (n := 0) (by decide)) (by decide) (by decide))) s_X8_54 ⟨rfl, rfl, ⟨by simp only [md_rm]; omega, by simp only [md_rm]; omega⟩, ⟨Nat.le_of_ble_eq_true rfl, Nat.le_of_ble_eq_true rfl⟩⟩ hz_a0 hk_a0 (by decide) rfl rfl hl.1 rfl (Nat.le_of_ble_eq_true rfl) dX8_fact_104) rfl rfl (fun x140 H locs M136 R137 J138 hS f134 g135 E139 => ?_)
          have h_x140 := E139
          refine lv_pop hx hb dX8_fact_107 rfl ?_
          refine lv_goto (tgt := 156) hx hb dX8_fact_108 (by decide) ?_
          have k141 : M136 a0 2 = x128 := (Fr.kp (k := 2) f134 hk_a0 rfl).trans k131
          have k142 : M136 a0 3 = x130 := (Fr.kp (k := 3) f134 hk_a0 rfl).trans k132
          have q143 : x128.toInt ≤ 420 - a1.toInt ∧ (¬ x130.toInt = 0 ∨ x128.toInt ≤ ln.toInt) := by
            have := (h103).1; have := (h103).2; have := (h_fa).1; have := (h_fa).2; have := (h_ln).1; have := (h_ln).2; have := (h_pa).1; have := (h_pa).2; have := (h13).1; have := (h13).2; have := (h112).1; have := (h112).2; have := (h127).1; have := (h127).2; have := (h129).1; have := (h129).2; have := (h30).1; have := (h30).2; omega
          exact tw_endv hx hb hr hlocks hK hT hS hQ (⟨x128, x130, k141, k142, h127, h129, q143⟩) dX8_fact_156
        · have q144 : 10 ≤ a1.toInt := ti_nlt c101
          have h145 : iv 10 10 a1 := iv_geL (y := 10) h_a1 (iv_c (c := 10) (n := 10) (by decide)) q144 (by decide)
          refine lv_aload_n hx hb dX8_fact_73 rfl (lv_at hl 2 rfl) ?_
          refine lv_aload_n hx hb dX8_fact_74 rfl (lv_at hl 2 rfl) ?_
          have k146 : M20 a0 2 = x10 := (Fr.kp (k := 2) f18 hk_a0 rfl).trans k11
          refine tw_getk hx hb hW hown hK hS f_X8_36_8 hz_a0 hk_a0 (v := x10) k146 dX8_fact_75 ?_
          refine lv_iconst (v := 2) hx hb dX8_fact_78 (by decide) ?_
          refine tw_gov hS (md_runU (As := [.int x10, .int 2]) (rest := []) hx hb hml hown hW hK hT hS.1 (t_X10_fail l D cy tx base Z K N M20 R21 J22 hS.2.1 a0 hz_a0 hk_a0 x10 (iv_mono h13 (by decide) (by decide)) 2 (iv_mono (iv_c (c := 2) (n := 2) (by decide)) (by decide) (by decide))) s_X8_39_X8 ⟨rfl, rfl, ⟨by simp only [md_rm]; omega, by simp only [md_rm]; omega⟩, ⟨Nat.le_of_ble_eq_true rfl, Nat.le_of_ble_eq_true rfl⟩⟩ hz_a0 hk_a0 (by decide) rfl rfl hl.1 rfl (Nat.le_of_ble_eq_true rfl) dX8_fact_79) rfl rfl (fun H locs M149 R150 J151 hS f147 g148 E152 => ?_)
          have p153 := E152
          obtain ⟨x155, k156, h154, q157⟩ := p153
          have k156 : M149 a0 3 = x155 := k156
          refine lv_goto (tgt := 156) hx hb dX8_fact_82 (by decide) ?_
          have k158 : M149 a0 2 = x10 := (Fr.kp (k := 2) f147 hk_a0 rfl).trans k146
          have q159 : x10.toInt ≤ 420 - a1.toInt ∧ (¬ x155.toInt = 0 ∨ x10.toInt ≤ ln.toInt) := by
            have := (h145).1; have := (h145).2; have := (h_fa).1; have := (h_fa).2; have := (h_ln).1; have := (h_ln).2; have := (h_pa).1; have := (h_pa).2; have := (h13).1; have := (h13).2; have := (h154).1; have := (h154).2; have := (h30).1; have := (h30).2; omega
          exact tw_endv hx hb hr hlocks hK hT hS hQ (⟨x10, x155, k158, k156, (iv_mono h13 (by decide) (by decide)), h154, q159⟩) dX8_fact_156
    · have q160 : x7.toInt = 91 := ti_eq c14
      have h161 : iv 91 91 x7 := ⟨by have := (h_x7).1; have := ((iv_c (c := 91) (n := 91) (by decide))).1; omega, by have := (h_x7).2; have := ((iv_c (c := 91) (n := 91) (by decide))).2; omega⟩
      refine lv_iconst (v := 1) hx hb dX8_fact_9 (by decide) ?_
      refine lv_goto (tgt := 14) hx hb dX8_fact_10 (by decide) ?_
      refine lv_istore_n (lv' := [(2, .int 1), (0, .ref (base + a0)), (1, .int a1)]) hx hb dX8_fact_14 rfl hl (by decide) rfl (fun ls hl => ?_)
      refine lv_iload_n hx hb dX8_fact_15 rfl (lv_at hl 0 rfl) ?_
      refine lv_if_ne (tgt := 32) hx hb dX8_fact_16 (by decide) (fun _ => ?_) (fun h => absurd h (by decide))
      refine lv_iconst (v := 0) hx hb dX8_fact_32 (by decide) ?_
      refine lv_istore_n (lv' := [(3, .int 0), (2, .int 1), (0, .ref (base + a0)), (1, .int a1)]) hx hb dX8_fact_33 rfl hl (by decide) rfl (fun ls hl => ?_)
      refine lv_iload_n hx hb dX8_fact_34 rfl (lv_at hl 1 rfl) ?_
      refine lv_if_ne (tgt := 67) hx hb dX8_fact_35 (by decide) (fun _ => ?_) (fun h => absurd h (by decide))
      refine lv_iload_n hx hb dX8_fact_67 rfl (lv_at hl 3 rfl) ?_
      refine lv_bipush (v := 10) hx hb dX8_fact_68 (by decide) ?_
      refine lv_icmp_lt (tgt := 85) hx hb dX8_fact_70 (by decide) (fun c162 => ?_) (fun c162 => ?_)
      · have q163 : a1.toInt < 10 := ti_lt c162
        have h164 : iv 0 9 a1 := iv_ltL (y := 10) h_a1 (iv_c (c := 10) (n := 10) (by decide)) q163 (by decide)
        refine lv_iload_n hx hb dX8_fact_85 rfl (lv_at hl 0 rfl) ?_
        refine lv_if_eq (tgt := 111) hx hb dX8_fact_86 (by decide) (fun _ => ?_) (fun h => absurd h (by decide))
        refine lv_aload_n hx hb dX8_fact_111 rfl (lv_at hl 2 rfl) ?_
        refine lv_dup hx hb dX8_fact_112 rfl ?_
        refine tw_getk hx hb hW hown hK hS f_X8_36_8 hz_a0 hk_a0 (v := x10) k11 dX8_fact_113 ?_
        refine lv_iconst (v := 1) hx hb dX8_fact_116 (by decide) ?_
        refine tw_iadd (lo := 1) (hi := 401) hx hb h13 (iv_c (c := 1) (n := 1) (by decide)) ⟨by decide, by decide⟩ ⟨by decide, by decide⟩ dX8_fact_117 (fun x167 e166 h165 => ?_)
        have e166 : x167.toInt = x10.toInt + 1 := e166
        refine tw_puti hx hb hW hown hK hS f_X8_36_8 hz_a0 hk_a0 rfl rfl (lo := 0) (hi := 1000) rfl (iv_mono h165 (by decide) (by decide)) rfl dX8_fact_118 (fun H locs M170 hS k168 f169 => ?_)
        refine lv_aload_n hx hb dX8_fact_121 rfl (lv_at hl 2 rfl) ?_
        refine lv_iload_n hx hb dX8_fact_122 rfl (lv_at hl 3 rfl) ?_
        refine lv_iconst (v := 1) hx hb dX8_fact_123 (by decide) ?_
        refine tw_iadd (lo := 1) (hi := 10) hx hb h164 (iv_c (c := 1) (n := 1) (by decide)) ⟨by decide, by decide⟩ ⟨by decide, by decide⟩ dX8_fact_124 (fun x173 e172 h171 => ?_)
        have e172 : x173.toInt = a1.toInt + 1 := e172
        have k174 : R4 a0 0 = some tb := (Fr.kp (k := 0) g2 hk_a0 rfl).trans k_tb
        have k175 : M170 a0 1 = ln := ((Fr.kp (k := 1) f169 hk_a0 rfl).trans (Fr.kp (k := 1) f1 hk_a0 rfl)).trans k_ln
        have h176 : iv 0 400 x167 := by
          have := (h164).1; have := (h164).2; have := (h_fa).1; have := (h_fa).2; have := (h_ln).1; have := (h_ln).2; have := (h_pa).1; have := (h_pa).2; have := (h13).1; have := (h13).2; have := (h165).1; have := (h165).2; exact ⟨by omega, by omega⟩
        have k177 : M170 a0 3 = fa := ((Fr.kp (k := 3) f169 hk_a0 rfl).trans (Fr.kp (k := 3) f1 hk_a0 rfl)).trans k_fa
        have q178 : x167.toInt ≤ ln.toInt := by
          have := (h164).1; have := (h164).2; have := (h_fa).1; have := (h_fa).2; have := (h_ln).1; have := (h_ln).2; have := (h_pa).1; have := (h_pa).2; have := (h13).1; have := (h13).2; have := (h165).1; have := (h165).2; omega
        have hm179 : 10 - x173.toInt < (d : Int) := by
          have := (h164).1; have := (h164).2; have := (h_fa).1; have := (h_fa).2; have := (h_ln).1; have := (h_ln).2; have := (h_pa).1; have := (h_pa).2; have := (h171).1; have := (h171).2; omega
        refine tw_gov hS (md_runV (As := [.int x173]) (rest := []) hx hb hml hown hW hK hT hS.1 (t_X8_test l D cy tx base Z K N d ih M170 R4 J5 hS.2.1 a0 hz_a0 hk_a0 x173 (iv_mono h171 (by decide) (by decide)) tb k174 ln k175 (iv_mono h_ln (by decide) (by decide)) x167 k168 h176 fa k177 (iv_mono h_fa (by decide) (by decide)) q178 hm179) s_X8_48 ⟨rfl, rfl, ⟨by simp only [md_rm]; omega, by simp only [md_rm]; omega⟩, ⟨Nat.le_of_ble_eq_true rfl, Nat.le_of_ble_eq_true rfl⟩⟩ hz_a0 hk_a0 (by decide) rfl rfl hl.1 rfl (Nat.le_of_ble_eq_true rfl) dX8_fact_125) rfl rfl (fun H locs M182 R183 J184 hS f180 g181 E185 => ?_)
        have p186 := E185
        obtain ⟨x188, x190, k191, k192, h187, h189, q193⟩ := p186
        have k191 : M182 a0 2 = x188 := k191
        have k192 : M182 a0 3 = x190 := k192
        refine lv_aload_n hx hb dX8_fact_128 rfl (lv_at hl 2 rfl) ?_
        have k194 : R183 a0 0 = some tb := ((Fr.kp (k := 0) g181 hk_a0 rfl).trans (Fr.kp (k := 0) g2 hk_a0 rfl)).trans k_tb
        have k195 : M182 a0 1 = ln := ((Fr.kp (k := 1) f180 hk_a0 rfl).trans ((Fr.kp (k := 1) f169 hk_a0 rfl).trans (Fr.kp (k := 1) f1 hk_a0 rfl))).trans k_ln
        refine tw_goi hS (md_runU (As := []) (rest := []) hx hb hml hown hW hK hT hS.1 (t_X10_hereBehindBlanks l D cy tx base Z K N M182 R183 J184 hS.2.1 a0 hz_a0 hk_a0 tb k194 ln k195 (iv_mono h_ln (by decide) (by decide)) x188 k191 (iv_mono h187 (by decide) (by decide))) s_X8_26_X8 ⟨rfl, rfl, ⟨by simp only [md_rm]; omega, by simp only [md_rm]; omega⟩, ⟨Nat.le_of_ble_eq_true rfl, Nat.le_of_ble_eq_true rfl⟩⟩ hz_a0 hk_a0 (by decide) rfl rfl hl.1 rfl (Nat.le_of_ble_eq_true rfl) dX8_fact_129) rfl rfl (fun x202 H locs M198 R199 J200 hS f196 g197 E201 => ?_)
        obtain ⟨h_x202, p203⟩ := E201
        obtain ⟨x205, k206, h204, q207⟩ := p203
        have k206 : M198 a0 2 = x205 := k206
        have h208 : iv 0 420 x205 := by
          have := (h164).1; have := (h164).2; have := (h_fa).1; have := (h_fa).2; have := (h_ln).1; have := (h_ln).2; have := (h_pa).1; have := (h_pa).2; have := (h13).1; have := (h13).2; have := (h171).1; have := (h171).2; have := (h187).1; have := (h187).2; have := (h189).1; have := (h189).2; have := (h204).1; have := (h204).2; exact ⟨by omega, by omega⟩
        refine lv_bipush (v := 93) hx hb dX8_fact_132 (by decide) ?_
        refine lv_icmp_eq (tgt := 146) hx hb dX8_fact_134 (by decide) (fun c209 => ?_) (fun c209 => ?_)
        · have q210 : x202.toInt = 93 := ti_eq c209
          have h211 : iv 93 93 x202 := ⟨by have := (h_x202).1; have := ((iv_c (c := 93) (n := 93) (by decide))).1; omega, by have := (h_x202).2; have := ((iv_c (c := 93) (n := 93) (by decide))).2; omega⟩
          refine lv_aload_n hx hb dX8_fact_146 rfl (lv_at hl 2 rfl) ?_
          refine lv_dup hx hb dX8_fact_147 rfl ?_
          refine tw_getk hx hb hW hown hK hS f_X8_36_8 hz_a0 hk_a0 (v := x205) k206 dX8_fact_148 ?_
          refine lv_iconst (v := 1) hx hb dX8_fact_151 (by decide) ?_
          refine tw_iadd (lo := 1) (hi := 421) hx hb h208 (iv_c (c := 1) (n := 1) (by decide)) ⟨by decide, by decide⟩ ⟨by decide, by decide⟩ dX8_fact_152 (fun x214 e213 h212 => ?_)
          have e213 : x214.toInt = x205.toInt + 1 := e213
          refine tw_puti hx hb hW hown hK hS f_X8_36_8 hz_a0 hk_a0 rfl rfl (lo := 0) (hi := 1000) rfl (iv_mono h212 (by decide) (by decide)) rfl dX8_fact_153 (fun H locs M217 hS k215 f216 => ?_)
          have h218 : iv 0 420 x214 := by
            have := (h164).1; have := (h164).2; have := (h_fa).1; have := (h_fa).2; have := (h_ln).1; have := (h_ln).2; have := (h_pa).1; have := (h_pa).2; have := (h13).1; have := (h13).2; have := (h171).1; have := (h171).2; have := (h187).1; have := (h187).2; have := (h189).1; have := (h189).2; have := (h208).1; have := (h208).2; have := (h212).1; have := (h212).2; exact ⟨by omega, by omega⟩
          have k219 : M217 a0 3 = x190 := ((Fr.kp (k := 3) f216 hk_a0 rfl).trans (Fr.kp (k := 3) f196 hk_a0 rfl)).trans k192
          have q220 : x214.toInt ≤ 420 - a1.toInt ∧ (¬ x190.toInt = 0 ∨ x214.toInt ≤ ln.toInt) := by
            have := (h164).1; have := (h164).2; have := (h_fa).1; have := (h_fa).2; have := (h_ln).1; have := (h_ln).2; have := (h_pa).1; have := (h_pa).2; have := (h13).1; have := (h13).2; have := (h171).1; have := (h171).2; have := (h187).1; have := (h187).2; have := (h189).1; have := (h189).2; have := (h208).1; have := (h208).2; have := (h212).1; have := (h212).2; omega
          exact tw_endv hx hb hr hlocks hK hT hS hQ (⟨x214, x190, k215, k219, h218, h189, q220⟩) dX8_fact_156
        · have q221 : ¬ x202.toInt = 93 := ti_ne c209
          refine lv_aload_n hx hb dX8_fact_137 rfl (lv_at hl 2 rfl) ?_
          refine lv_aload_n hx hb dX8_fact_138 rfl (lv_at hl 2 rfl) ?_
          refine tw_getk hx hb hW hown hK hS f_X8_36_8 hz_a0 hk_a0 (v := x205) k206 dX8_fact_139 ?_
          refine lv_iconst (v := 0) hx hb dX8_fact_142 (by decide) ?_
          refine tw_gov hS (md_runU (As := [.int x205, .int 0]) (rest := []) hx hb hml hown hW hK hT hS.1 (t_X10_fail l D cy tx base Z K N M198 R199 J200 hS.2.1 a0 hz_a0 hk_a0 x205 (iv_mono h208 (by decide) (by decide)) 0 (iv_mono (iv_c (c := 0) (n := 0) (by decide)) (by decide) (by decide))) s_X8_39_X8 ⟨rfl, rfl, ⟨by simp only [md_rm]; omega, by simp only [md_rm]; omega⟩, ⟨Nat.le_of_ble_eq_true rfl, Nat.le_of_ble_eq_true rfl⟩⟩ hz_a0 hk_a0 (by decide) rfl rfl hl.1 rfl (Nat.le_of_ble_eq_true rfl) dX8_fact_143) rfl rfl (fun H locs M224 R225 J226 hS f222 g223 E227 => ?_)
          have p228 := E227
          obtain ⟨x230, k231, h229, q232⟩ := p228
          have k231 : M224 a0 3 = x230 := k231
          refine lv_aload_n hx hb dX8_fact_146 rfl (lv_at hl 2 rfl) ?_
          refine lv_dup hx hb dX8_fact_147 rfl ?_
          have k233 : M224 a0 2 = x205 := (Fr.kp (k := 2) f222 hk_a0 rfl).trans k206
          refine tw_getk hx hb hW hown hK hS f_X8_36_8 hz_a0 hk_a0 (v := x205) k233 dX8_fact_148 ?_
          refine lv_iconst (v := 1) hx hb dX8_fact_151 (by decide) ?_
          refine tw_iadd (lo := 1) (hi := 421) hx hb h208 (iv_c (c := 1) (n := 1) (by decide)) ⟨by decide, by decide⟩ ⟨by decide, by decide⟩ dX8_fact_152 (fun x236 e235 h234 => ?_)
          have e235 : x236.toInt = x205.toInt + 1 := e235
          refine tw_puti hx hb hW hown hK hS f_X8_36_8 hz_a0 hk_a0 rfl rfl (lo := 0) (hi := 1000) rfl (iv_mono h234 (by decide) (by decide)) rfl dX8_fact_153 (fun H locs M239 hS k237 f238 => ?_)
          have h240 : iv 0 420 x236 := by
            have := (h164).1; have := (h164).2; have := (h_fa).1; have := (h_fa).2; have := (h_ln).1; have := (h_ln).2; have := (h_pa).1; have := (h_pa).2; have := (h13).1; have := (h13).2; have := (h171).1; have := (h171).2; have := (h187).1; have := (h187).2; have := (h189).1; have := (h189).2; have := (h208).1; have := (h208).2; have := (h234).1; have := (h234).2; exact ⟨by omega, by omega⟩
          have k241 : M239 a0 3 = x230 := (Fr.kp (k := 3) f238 hk_a0 rfl).trans k231
          have q242 : x236.toInt ≤ 420 - a1.toInt ∧ (¬ x230.toInt = 0 ∨ x236.toInt ≤ ln.toInt) := by
            have := (h164).1; have := (h164).2; have := (h_fa).1; have := (h_fa).2; have := (h_ln).1; have := (h_ln).2; have := (h_pa).1; have := (h_pa).2; have := (h13).1; have := (h13).2; have := (h171).1; have := (h171).2; have := (h187).1; have := (h187).2; have := (h189).1; have := (h189).2; have := (h208).1; have := (h208).2; have := (h229).1; have := (h229).2; have := (h234).1; have := (h234).2; omega
          exact tw_endv hx hb hr hlocks hK hT hS hQ (⟨x236, x230, k237, k241, h240, h229, q242⟩) dX8_fact_156
      · have q243 : 10 ≤ a1.toInt := ti_nlt c162
        have h244 : iv 10 10 a1 := iv_geL (y := 10) h_a1 (iv_c (c := 10) (n := 10) (by decide)) q243 (by decide)
        refine lv_aload_n hx hb dX8_fact_73 rfl (lv_at hl 2 rfl) ?_
        refine lv_aload_n hx hb dX8_fact_74 rfl (lv_at hl 2 rfl) ?_
        refine tw_getk hx hb hW hown hK hS f_X8_36_8 hz_a0 hk_a0 (v := x10) k11 dX8_fact_75 ?_
        refine lv_iconst (v := 2) hx hb dX8_fact_78 (by decide) ?_
        refine tw_gov hS (md_runU (As := [.int x10, .int 2]) (rest := []) hx hb hml hown hW hK hT hS.1 (t_X10_fail l D cy tx base Z K N M3 R4 J5 hS.2.1 a0 hz_a0 hk_a0 x10 (iv_mono h13 (by decide) (by decide)) 2 (iv_mono (iv_c (c := 2) (n := 2) (by decide)) (by decide) (by decide))) s_X8_39_X8 ⟨rfl, rfl, ⟨by simp only [md_rm]; omega, by simp only [md_rm]; omega⟩, ⟨Nat.le_of_ble_eq_true rfl, Nat.le_of_ble_eq_true rfl⟩⟩ hz_a0 hk_a0 (by decide) rfl rfl hl.1 rfl (Nat.le_of_ble_eq_true rfl) dX8_fact_79) rfl rfl (fun H locs M247 R248 J249 hS f245 g246 E250 => ?_)
        have p251 := E250
        obtain ⟨x253, k254, h252, q255⟩ := p251
        have k254 : M247 a0 3 = x253 := k254
        refine lv_goto (tgt := 156) hx hb dX8_fact_82 (by decide) ?_
        have k256 : M247 a0 2 = x10 := (Fr.kp (k := 2) f245 hk_a0 rfl).trans k11
        have q257 : x10.toInt ≤ 420 - a1.toInt ∧ (¬ x253.toInt = 0 ∨ x10.toInt ≤ ln.toInt) := by
          have := (h244).1; have := (h244).2; have := (h_fa).1; have := (h_fa).2; have := (h_ln).1; have := (h_ln).2; have := (h_pa).1; have := (h_pa).2; have := (h13).1; have := (h13).2; have := (h252).1; have := (h252).2; omega
        exact tw_endv hx hb hr hlocks hK hT hS hQ (⟨x10, x253, k256, k254, (iv_mono h13 (by decide) (by decide)), h252, q257⟩) dX8_fact_156
def Lt_X8_read : WL := [(9, 1, 5), (9, 6, 8), (14, 0, 2000000)]
def LRt_X8_read : WL := [(9, 0, 1)]
set_option maxRecDepth 100000 in
set_option maxHeartbeats 4000000 in
theorem t_X8_read (l : Launch) (D : va_G) (cy : Nat → ClassId) (tx : (Nat → Nat) × (Nat → Nat)) (base Z : Nat) (K N : Nat → Nat) (Ma : MT) (Ra : RT) (Ja : JT) (hTy : Ty Z K N Ma Ra) (a0 : Nat) (hz_a0 : a0 < Z) (hk_a0 : K a0 = 9) (a1 : Nat) (hz_a1 : a1 < Z) (hk_a1 : K a1 = 13) (hn_a1 : N a1 = 400) (a2 : Int32) (h_a2 : iv 0 400 a2) : Met l yX8_read [Cond.code yX8_read cX8_read 7 (some .int)] (md_rm 33 0 0) (va_Pc [.ref (base + a0), .ref (base + a1), .int a2] (md_U D cy tx base Z K N Ma Ra Ja)) (mQi D cy tx base (fun r u => TP Z K N Lt_X8_read LRt_X8_read Ma Ra u ∧ (iv (-2147483648) 2147483647 r))) 0 0 (fun q => base ≤ q) := by
  refine tw_ofW (L := Lt_X8_read) (LR := LRt_X8_read) (by decide) (Nat.le_of_ble_eq_true rfl) hTy ?_
  intro p e s m args below meth c Q ls hx hb hr hlocks hown hml hW hK hT hS hQ hl
  have hl : lv_has ls 7 [(0, .ref (base + a0)), (1, .ref (base + a1)), (2, .int a2)] := hl
  refine lv_aload_n hx hb dX8_read_0 rfl (lv_at hl 0 rfl) ?_
  refine lv_aload_n hx hb dX8_read_1 rfl (lv_at hl 1 rfl) ?_
  refine lv_iload_n hx hb dX8_read_2 rfl (lv_at hl 2 rfl) ?_
  refine tw_gov hS (md_runU (As := [.ref (base + a1), .int a2]) (rest := []) hx hb hml hown hW hK hT hS.1 (t_X10_begin_1 l D cy tx base Z K N Ma Ra Ja hS.2.1 a0 hz_a0 hk_a0 a1 hz_a1 hk_a1 hn_a1 a2 h_a2) s_X8_15_X8 ⟨rfl, rfl, ⟨Nat.le_of_ble_eq_true rfl, Nat.le_of_ble_eq_true rfl⟩, ⟨Nat.le_of_ble_eq_true rfl, Nat.le_of_ble_eq_true rfl⟩⟩ hz_a0 hk_a0 (by decide) rfl rfl hl.1 rfl (Nat.le_of_ble_eq_true rfl) dX8_read_3) rfl rfl (fun H locs M3 R4 J5 hS f1 g2 E6 => ?_)
  obtain ⟨p7, p8⟩ := E6
  have k9 : R4 a0 0 = some a1 := p7
  obtain ⟨x11, x13, x15, k16, k17, k18, h10, h12, h14, q19⟩ := p8
  have k16 : M3 a0 1 = x11 := k16
  have k17 : M3 a0 2 = x13 := k17
  have k18 : M3 a0 3 = x15 := k18
  refine lv_aload_n hx hb dX8_read_6 rfl (lv_at hl 0 rfl) ?_
  refine lv_iconst (v := 0) hx hb dX8_read_7 (by decide) ?_
  refine tw_puti hx hb hW hown hK hS f_X8_19_8 hz_a0 hk_a0 rfl rfl (lo := 0) (hi := 400) rfl (iv_mono (iv_c (c := 0) (n := 0) (by decide)) (by decide) (by decide)) rfl dX8_read_8 (fun H locs M22 hS k20 f21 => ?_)
  refine lv_aload_n hx hb dX8_read_11 rfl (lv_at hl 0 rfl) ?_
  refine lv_iconst (v := 0) hx hb dX8_read_12 (by decide) ?_
  refine tw_puti hx hb hW hown hK hS f_X8_23_8 hz_a0 hk_a0 rfl rfl (lo := (-2147483648)) (hi := 2147483647) rfl (iv_mono (iv_c (c := 0) (n := 0) (by decide)) (by decide) (by decide)) rfl dX8_read_13 (fun H locs M25 hS k23 f24 => ?_)
  refine lv_iconst (v := 1) hx hb dX8_read_16 (by decide) ?_
  refine lv_istore_n (lv' := [(3, .int 1), (0, .ref (base + a0)), (1, .ref (base + a1)), (2, .int a2)]) hx hb dX8_read_17 rfl hl (by decide) rfl (fun ls hl => ?_)
  refine lv_iconst (v := 0) hx hb dX8_read_18 (by decide) ?_
  refine lv_istore (lv' := [(4, .int 0), (3, .int 1), (0, .ref (base + a0)), (1, .ref (base + a1)), (2, .int a2)]) hx hb dX8_read_19 hl (by decide) rfl (fun ls hl => ?_)
  have W21_28 : ∀ (n_28 : Nat) (x26 : Int32) (x27 : Int32) (x33 : Int32) (x35 : Int32) (x37 : Int32) (M28 : MT) (R29 : RT) (J30 : JT) (H : Heap) (locs : List Loc) (ls : Array Slot) (h_x26 : iv 0 1 x26) (h_x27 : iv 0 13 x27) (h_x33 : iv 0 400 x33) (k34 : M28 a0 1 = x33) (h_x35 : iv 0 1000 x35) (k36 : M28 a0 2 = x35) (h_x37 : iv (-2147483648) 2147483647 x37) (k38 : M28 a0 3 = x37) (k39 : R29 a0 0 = some a1) (w0_28 : x26.toInt = 0 ∨ (x37.toInt = 0 ∧ x35.toInt ≤ x33.toInt)) (hm_28 : 13 - x27.toInt < (n_28 : Int)) (hS : SB D cy base Z K N Lt_X8_read LRt_X8_read Ma Ra M28 R29 J30 s H locs) (hl : lv_has ls 7 [(3, .int x26), (4, .int x27), (0, .ref (base + a0)), (1, .ref (base + a1)), (2, .int a2)]), W p l e (md_rm 33 0 0) s m args below meth c H locs 0 0 Q (F0 m 21 ls []) := by
    intro n_28
    induction n_28 with
    | zero =>
      intro x26 x27 x33 x35 x37 M28 R29 J30 H locs ls h_x26 h_x27 h_x33 k34 h_x35 k36 h_x37 k38 k39 w0_28 hm_28 hS hl
      exfalso
      have := (h_a2).1; have := (h_a2).2; have := (h_x27).1; have := (h_x27).2; omega
    | succ n_28 ih_28 =>
      intro x26 x27 x33 x35 x37 M28 R29 J30 H locs ls h_x26 h_x27 h_x33 k34 h_x35 k36 h_x37 k38 k39 w0_28 hm_28 hS hl
      have f31 := hS.2.2.1
      have g32 := hS.2.2.2
      refine lv_iload_n hx hb dX8_read_21 rfl (lv_at hl 0 rfl) ?_
      refine lv_if_eq (tgt := 151) hx hb dX8_read_22 (by decide) (fun c40 => ?_) (fun c40 => ?_)
      · have q41 : x26.toInt = 0 := ti_eq c40
        have h42 : iv 0 0 x26 := ⟨by have := (h_x26).1; have := ((iv_c (c := 0) (n := 0) (by decide))).1; omega, by have := (h_x26).2; have := ((iv_c (c := 0) (n := 0) (by decide))).2; omega⟩
        refine lv_aload_n hx hb dX8_read_151 rfl (lv_at hl 2 rfl) ?_
        refine tw_getk hx hb hW hown hK hS f_X8_65_8 hz_a0 hk_a0 (v := x37) k38 dX8_read_152 ?_
        exact tw_endi hx hb hr hlocks hK hT hS hQ (h_x37) dX8_read_155
      · have q43 : ¬ x26.toInt = 0 := ti_ne c40
        have h44 : iv 1 1 x26 := ⟨by have := (h_x26).1; have := ((iv_c (c := 0) (n := 0) (by decide))).1; have := ((iv_c (c := 0) (n := 0) (by decide))).2; omega, by have := (h_x26).2; have := ((iv_c (c := 0) (n := 0) (by decide))).1; have := ((iv_c (c := 0) (n := 0) (by decide))).2; omega⟩
        refine lv_iload hx hb dX8_read_25 (lv_at hl 1 rfl) ?_
        refine lv_bipush (v := 12) hx hb dX8_read_27 (by decide) ?_
        refine lv_icmp_gt (tgt := 151) hx hb dX8_read_29 (by decide) (fun c45 => ?_) (fun c45 => ?_)
        · have q46 : 12 < x27.toInt := ti_lt c45
          have h47 : iv 13 13 x27 := iv_gtL (y := 12) h_x27 (iv_c (c := 12) (n := 12) (by decide)) q46 (by decide)
          refine lv_aload_n hx hb dX8_read_151 rfl (lv_at hl 2 rfl) ?_
          refine tw_getk hx hb hW hown hK hS f_X8_65_8 hz_a0 hk_a0 (v := x37) k38 dX8_read_152 ?_
          exact tw_endi hx hb hr hlocks hK hT hS hQ (h_x37) dX8_read_155
        · have q48 : x27.toInt ≤ 12 := ti_nlt c45
          have h49 : iv 0 12 x27 := iv_leL (y := 12) h_x27 (iv_c (c := 12) (n := 12) (by decide)) q48 (by decide)
          refine lv_aload_n hx hb dX8_read_32 rfl (lv_at hl 2 rfl) ?_
          refine tw_goi hS (md_runU (As := []) (rest := []) hx hb hml hown hW hK hT hS.1 (t_X10_hereBehindBlanks l D cy tx base Z K N M28 R29 J30 hS.2.1 a0 hz_a0 hk_a0 a1 k39 x33 k34 (iv_mono h_x33 (by decide) (by decide)) x35 k36 (iv_mono h_x35 (by decide) (by decide))) s_X8_26_X8 ⟨rfl, rfl, ⟨Nat.le_of_ble_eq_true rfl, Nat.le_of_ble_eq_true rfl⟩, ⟨Nat.le_of_ble_eq_true rfl, Nat.le_of_ble_eq_true rfl⟩⟩ hz_a0 hk_a0 (by decide) rfl rfl hl.1 rfl (Nat.le_of_ble_eq_true rfl) dX8_read_33) rfl rfl (fun x56 H locs M52 R53 J54 hS f50 g51 E55 => ?_)
          obtain ⟨h_x56, p57⟩ := E55
          obtain ⟨x59, k60, h58, q61⟩ := p57
          have k60 : M52 a0 2 = x59 := k60
          refine lv_pop hx hb dX8_read_36 rfl ?_
          refine lv_aload_n hx hb dX8_read_37 rfl (lv_at hl 2 rfl) ?_
          refine va_ldcS hx hb hown hT.2.1.2.2.1 dX8_read_38 ?_
          have k62 : R53 a0 0 = some a1 := (Fr.kp (k := 0) g51 hk_a0 rfl).trans k39
          have k63 : M52 a0 1 = x33 := (Fr.kp (k := 1) f50 hk_a0 rfl).trans k34
          refine tw_goi hS (md_runU (As := [.ref (tx.1 2)]) (rest := []) hx hb hml hown hW hK hT hS.1 (t_X10_whichWord l D cy tx base Z K N M52 R53 J54 hS.2.1 a0 hz_a0 hk_a0 2 (by decide) a1 k62 x33 k63 (iv_mono h_x33 (by decide) (by decide)) x59 k60 (iv_mono h58 (by decide) (by decide))) s_X8_32_X8 ⟨rfl, rfl, ⟨Nat.le_of_ble_eq_true rfl, Nat.le_of_ble_eq_true rfl⟩, ⟨Nat.le_of_ble_eq_true rfl, Nat.le_of_ble_eq_true rfl⟩⟩ hz_a0 hk_a0 (by decide) rfl rfl hl.1 rfl (Nat.le_of_ble_eq_true rfl) dX8_read_40) rfl rfl (fun x70 H locs M66 R67 J68 hS f64 g65 E69 => ?_)
          obtain ⟨h_x70, p71⟩ := E69
          obtain ⟨x73, k74, h72, q75⟩ := p71
          have k74 : M66 a0 4 = x73 := k74
          refine lv_istore (lv' := [(5, .int x70), (3, .int x26), (4, .int x27), (0, .ref (base + a0)), (1, .ref (base + a1)), (2, .int a2)]) hx hb dX8_read_43 hl (by decide) rfl (fun ls hl => ?_)
          refine lv_iload hx hb dX8_read_45 (lv_at hl 0 rfl) ?_
          refine lv_iconst (v := (-1)) hx hb dX8_read_47 (by decide) ?_
          refine lv_icmp_ne (tgt := 63) hx hb dX8_read_48 (by decide) (fun c76 => ?_) (fun c76 => ?_)
          · have q77 : ¬ x70.toInt = (-1) := ti_ne c76
            refine lv_iload hx hb dX8_read_63 (lv_at hl 2 rfl) ?_
            refine lv_bipush (v := 12) hx hb dX8_read_65 (by decide) ?_
            refine lv_icmp_lt (tgt := 82) hx hb dX8_read_67 (by decide) (fun c78 => ?_) (fun c78 => ?_)
            · have q79 : x27.toInt < 12 := ti_lt c78
              have h80 : iv 0 11 x27 := iv_ltL (y := 12) h49 (iv_c (c := 12) (n := 12) (by decide)) q79 (by decide)
              refine lv_aload_n hx hb dX8_read_82 rfl (lv_at hl 3 rfl) ?_
              refine tw_gov hS (md_runU (As := []) (rest := []) hx hb hml hown hW hK hT hS.1 (t_X10_passWord l D cy tx base Z K N M66 R67 J68 hS.2.1 a0 hz_a0 hk_a0 x73 k74 (iv_mono h72 (by decide) (by decide))) s_X8_43_X8 ⟨rfl, rfl, ⟨Nat.le_of_ble_eq_true rfl, Nat.le_of_ble_eq_true rfl⟩, ⟨Nat.le_of_ble_eq_true rfl, Nat.le_of_ble_eq_true rfl⟩⟩ hz_a0 hk_a0 (by decide) rfl rfl hl.1 rfl (Nat.le_of_ble_eq_true rfl) dX8_read_83) rfl rfl (fun H locs M83 R84 J85 hS f81 g82 E86 => ?_)
              have p87 := E86
              have k88 : M83 a0 2 = x73 := p87
              refine lv_iconst (v := (-1)) hx hb dX8_read_86 (by decide) ?_
              refine lv_istore (lv' := [(6, .int (-1)), (5, .int x70), (3, .int x26), (4, .int x27), (0, .ref (base + a0)), (1, .ref (base + a1)), (2, .int a2)]) hx hb dX8_read_87 hl (by decide) rfl (fun ls hl => ?_)
              refine lv_aload_n hx hb dX8_read_89 rfl (lv_at hl 4 rfl) ?_
              have k89 : R84 a0 0 = some a1 := ((Fr.kp (k := 0) g82 hk_a0 rfl).trans (Fr.kp (k := 0) g65 hk_a0 rfl)).trans k62
              have k90 : M83 a0 1 = x33 := ((Fr.kp (k := 1) f81 hk_a0 rfl).trans (Fr.kp (k := 1) f64 hk_a0 rfl)).trans k63
              refine tw_goi hS (md_runU (As := []) (rest := []) hx hb hml hown hW hK hT hS.1 (t_X10_hereBehindBlanks l D cy tx base Z K N M83 R84 J85 hS.2.1 a0 hz_a0 hk_a0 a1 k89 x33 k90 (iv_mono h_x33 (by decide) (by decide)) x73 k88 (iv_mono h72 (by decide) (by decide))) s_X8_26_X8 ⟨rfl, rfl, ⟨Nat.le_of_ble_eq_true rfl, Nat.le_of_ble_eq_true rfl⟩, ⟨Nat.le_of_ble_eq_true rfl, Nat.le_of_ble_eq_true rfl⟩⟩ hz_a0 hk_a0 (by decide) rfl rfl hl.1 rfl (Nat.le_of_ble_eq_true rfl) dX8_read_90) rfl rfl (fun x97 H locs M93 R94 J95 hS f91 g92 E96 => ?_)
              obtain ⟨h_x97, p98⟩ := E96
              obtain ⟨x100, k101, h99, q102⟩ := p98
              have k101 : M93 a0 2 = x100 := k101
              refine lv_bipush (v := 105) hx hb dX8_read_93 (by decide) ?_
              refine lv_icmp_ne (tgt := 125) hx hb dX8_read_95 (by decide) (fun c103 => ?_) (fun c103 => ?_)
              · have q104 : ¬ x97.toInt = 105 := ti_ne c103
                refine lv_aload_n hx hb dX8_read_125 rfl (lv_at hl 4 rfl) ?_
                refine lv_bipush (v := 15) hx hb dX8_read_126 (by decide) ?_
                refine lv_iload hx hb dX8_read_128 (lv_at hl 1 rfl) ?_
                refine tw_goi hS (md_runV (As := [.int 15, .int x70]) (rest := []) hx hb hml hown hW hK hT hS.1 (t_X8_put l D cy tx base Z K N M93 R94 J95 hS.2.1 a0 hz_a0 hk_a0 15 (iv_mono (iv_c (c := 15) (n := 15) (by decide)) (by decide) (by decide)) x70 h_x70) s_X8_54 ⟨rfl, rfl, ⟨Nat.le_of_ble_eq_true rfl, Nat.le_of_ble_eq_true rfl⟩, ⟨Nat.le_of_ble_eq_true rfl, Nat.le_of_ble_eq_true rfl⟩⟩ hz_a0 hk_a0 (by decide) rfl rfl hl.1 rfl (Nat.le_of_ble_eq_true rfl) dX8_read_130) rfl rfl (fun x111 H locs M107 R108 J109 hS f105 g106 E110 => ?_)
                have h_x111 := E110
                refine lv_pop hx hb dX8_read_133 rfl ?_
                refine lv_aload_n hx hb dX8_read_134 rfl (lv_at hl 4 rfl) ?_
                refine lv_iload hx hb dX8_read_135 (lv_at hl 0 rfl) ?_
                refine tw_gov hS (md_runV (As := [.int (-1)]) (rest := []) hx hb hml hown hW hK hT hS.1 (t_X8_aim l D cy tx base Z K N M107 R108 J109 hS.2.1 a0 hz_a0 hk_a0 (-1) (iv_mono (iv_c (c := (-1)) (n := (-1)) (by decide)) (by decide) (by decide))) s_X8_58 ⟨rfl, rfl, ⟨Nat.le_of_ble_eq_true rfl, Nat.le_of_ble_eq_true rfl⟩, ⟨Nat.le_of_ble_eq_true rfl, Nat.le_of_ble_eq_true rfl⟩⟩ hz_a0 hk_a0 (by decide) rfl rfl hl.1 rfl (Nat.le_of_ble_eq_true rfl) dX8_read_137) rfl rfl (fun H locs M114 R115 J116 hS f112 g113 E117 => ?_)
                refine lv_aload_n hx hb dX8_read_140 rfl (lv_at hl 4 rfl) ?_
                have k118 : R115 a0 0 = some a1 := ((Fr.kp (k := 0) g113 hk_a0 rfl).trans ((Fr.kp (k := 0) g106 hk_a0 rfl).trans (Fr.kp (k := 0) g92 hk_a0 rfl))).trans k89
                have k119 : M114 a0 1 = x33 := ((Fr.kp (k := 1) f112 hk_a0 rfl).trans ((Fr.kp (k := 1) f105 hk_a0 rfl).trans (Fr.kp (k := 1) f91 hk_a0 rfl))).trans k90
                have k120 : M114 a0 2 = x100 := ((Fr.kp (k := 2) f112 hk_a0 rfl).trans (Fr.kp (k := 2) f105 hk_a0 rfl)).trans k101
                have k121 : M114 a0 3 = x37 := ((Fr.kp (k := 3) f112 hk_a0 rfl).trans ((Fr.kp (k := 3) f105 hk_a0 rfl).trans ((Fr.kp (k := 3) f91 hk_a0 rfl).trans ((Fr.kp (k := 3) f81 hk_a0 rfl).trans ((Fr.kp (k := 3) f64 hk_a0 rfl).trans (Fr.kp (k := 3) f50 hk_a0 rfl)))))).trans k38
                refine tw_goi hS (md_runU (As := []) (rest := []) hx hb hml hown hW hK hT hS.1 (t_X10_goesOn l D cy tx base Z K N M114 R115 J116 hS.2.1 a0 hz_a0 hk_a0 a1 k118 x33 k119 (iv_mono h_x33 (by decide) (by decide)) x100 k120 (iv_mono h99 (by decide) (by decide)) x37 k121 (iv_mono h_x37 (by decide) (by decide))) s_X8_61_X8 ⟨rfl, rfl, ⟨Nat.le_of_ble_eq_true rfl, Nat.le_of_ble_eq_true rfl⟩, ⟨Nat.le_of_ble_eq_true rfl, Nat.le_of_ble_eq_true rfl⟩⟩ hz_a0 hk_a0 (by decide) rfl rfl hl.1 rfl (Nat.le_of_ble_eq_true rfl) dX8_read_141) rfl rfl (fun x128 H locs M124 R125 J126 hS f122 g123 E127 => ?_)
                obtain ⟨h_x128, p129⟩ := E127
                obtain ⟨x131, x133, k134, k135, h130, h132, q136⟩ := p129
                have k134 : M124 a0 2 = x131 := k134
                have k135 : M124 a0 3 = x133 := k135
                refine lv_istore_n (lv' := [(3, .int x128), (6, .int (-1)), (5, .int x70), (4, .int x27), (0, .ref (base + a0)), (1, .ref (base + a1)), (2, .int a2)]) hx hb dX8_read_144 rfl hl (by decide) rfl (fun ls hl => ?_)
                refine tw_iinc (lv' := fun x139 => [(4, .int x139), (3, .int x128), (6, .int (-1)), (5, .int x70), (0, .ref (base + a0)), (1, .ref (base + a1)), (2, .int a2)]) (lo := 1) (hi := 12) hx hb dX8_read_145 hl (k := 3) rfl h80 (by decide) ⟨by decide, by decide⟩ ⟨by decide, by decide⟩ (by decide) (fun _ => rfl) (fun x139 ls e138 h137 hl => ?_)
                refine lv_goto (tgt := 21) hx hb dX8_read_148 (by decide) ?_
                have k140 : M124 a0 1 = x33 := (Fr.kp (k := 1) f122 hk_a0 rfl).trans k119
                have k141 : R125 a0 0 = some a1 := (Fr.kp (k := 0) g123 hk_a0 rfl).trans k118
                have w142 : x128.toInt = 0 ∨ (x133.toInt = 0 ∧ x131.toInt ≤ x33.toInt) := by
                  have := (h_a2).1; have := (h_a2).2; have := (h99).1; have := (h99).2; have := (h_x128).1; have := (h_x128).2; have := (h130).1; have := (h130).2; have := (h132).1; have := (h132).2; have := (h44).1; have := (h44).2; have := (h_x33).1; have := (h_x33).2; have := (h_x35).1; have := (h_x35).2; have := (h_x37).1; have := (h_x37).2; have := (h58).1; have := (h58).2; have := (h72).1; have := (h72).2; omega
                have hm143 : 13 - x139.toInt < (n_28 : Int) := by
                  have := (h_a2).1; have := (h_a2).2; have := (h137).1; have := (h137).2; have := (h80).1; have := (h80).2; omega
                exact ih_28 x128 x139 x33 x131 x133 M124 R125 J126 H locs _ h_x128 (iv_mono h137 (by decide) (by decide)) h_x33 k140 h130 k134 h132 k135 k141 w142 hm143 hS (lv_sub hl [1, 0, 4, 5, 6] rfl)
              · have q144 : x97.toInt = 105 := ti_eq c103
                have h145 : iv 105 105 x97 := ⟨by have := (h_x97).1; have := ((iv_c (c := 105) (n := 105) (by decide))).1; omega, by have := (h_x97).2; have := ((iv_c (c := 105) (n := 105) (by decide))).2; omega⟩
                refine lv_aload_n hx hb dX8_read_98 rfl (lv_at hl 4 rfl) ?_
                refine va_ldcS hx hb hown hT.2.1.2.2.2.1 dX8_read_99 ?_
                have k146 : R94 a0 0 = some a1 := (Fr.kp (k := 0) g92 hk_a0 rfl).trans k89
                have k147 : M93 a0 1 = x33 := (Fr.kp (k := 1) f91 hk_a0 rfl).trans k90
                refine tw_goi hS (md_runU (As := [.ref (tx.1 3)]) (rest := []) hx hb hml hown hW hK hT hS.1 (t_X10_whichWord l D cy tx base Z K N M93 R94 J95 hS.2.1 a0 hz_a0 hk_a0 3 (by decide) a1 k146 x33 k147 (iv_mono h_x33 (by decide) (by decide)) x100 k101 (iv_mono h99 (by decide) (by decide))) s_X8_32_X8 ⟨rfl, rfl, ⟨Nat.le_of_ble_eq_true rfl, Nat.le_of_ble_eq_true rfl⟩, ⟨Nat.le_of_ble_eq_true rfl, Nat.le_of_ble_eq_true rfl⟩⟩ hz_a0 hk_a0 (by decide) rfl rfl hl.1 rfl (Nat.le_of_ble_eq_true rfl) dX8_read_101) rfl rfl (fun x154 H locs M150 R151 J152 hS f148 g149 E153 => ?_)
                obtain ⟨h_x154, p155⟩ := E153
                obtain ⟨x157, k158, h156, q159⟩ := p155
                have k158 : M150 a0 4 = x157 := k158
                refine lv_if_ne (tgt := 125) hx hb dX8_read_104 (by decide) (fun c160 => ?_) (fun c160 => ?_)
                · have q161 : ¬ x154.toInt = 0 := ti_ne c160
                  refine lv_aload_n hx hb dX8_read_125 rfl (lv_at hl 4 rfl) ?_
                  refine lv_bipush (v := 15) hx hb dX8_read_126 (by decide) ?_
                  refine lv_iload hx hb dX8_read_128 (lv_at hl 1 rfl) ?_
                  refine tw_goi hS (md_runV (As := [.int 15, .int x70]) (rest := []) hx hb hml hown hW hK hT hS.1 (t_X8_put l D cy tx base Z K N M150 R151 J152 hS.2.1 a0 hz_a0 hk_a0 15 (iv_mono (iv_c (c := 15) (n := 15) (by decide)) (by decide) (by decide)) x70 h_x70) s_X8_54 ⟨rfl, rfl, ⟨Nat.le_of_ble_eq_true rfl, Nat.le_of_ble_eq_true rfl⟩, ⟨Nat.le_of_ble_eq_true rfl, Nat.le_of_ble_eq_true rfl⟩⟩ hz_a0 hk_a0 (by decide) rfl rfl hl.1 rfl (Nat.le_of_ble_eq_true rfl) dX8_read_130) rfl rfl (fun x168 H locs M164 R165 J166 hS f162 g163 E167 => ?_)
                  have h_x168 := E167
                  refine lv_pop hx hb dX8_read_133 rfl ?_
                  refine lv_aload_n hx hb dX8_read_134 rfl (lv_at hl 4 rfl) ?_
                  refine lv_iload hx hb dX8_read_135 (lv_at hl 0 rfl) ?_
                  refine tw_gov hS (md_runV (As := [.int (-1)]) (rest := []) hx hb hml hown hW hK hT hS.1 (t_X8_aim l D cy tx base Z K N M164 R165 J166 hS.2.1 a0 hz_a0 hk_a0 (-1) (iv_mono (iv_c (c := (-1)) (n := (-1)) (by decide)) (by decide) (by decide))) s_X8_58 ⟨rfl, rfl, ⟨Nat.le_of_ble_eq_true rfl, Nat.le_of_ble_eq_true rfl⟩, ⟨Nat.le_of_ble_eq_true rfl, Nat.le_of_ble_eq_true rfl⟩⟩ hz_a0 hk_a0 (by decide) rfl rfl hl.1 rfl (Nat.le_of_ble_eq_true rfl) dX8_read_137) rfl rfl (fun H locs M171 R172 J173 hS f169 g170 E174 => ?_)
                  refine lv_aload_n hx hb dX8_read_140 rfl (lv_at hl 4 rfl) ?_
                  have k175 : R172 a0 0 = some a1 := ((Fr.kp (k := 0) g170 hk_a0 rfl).trans ((Fr.kp (k := 0) g163 hk_a0 rfl).trans (Fr.kp (k := 0) g149 hk_a0 rfl))).trans k146
                  have k176 : M171 a0 1 = x33 := ((Fr.kp (k := 1) f169 hk_a0 rfl).trans ((Fr.kp (k := 1) f162 hk_a0 rfl).trans (Fr.kp (k := 1) f148 hk_a0 rfl))).trans k147
                  have k177 : M171 a0 2 = x100 := ((Fr.kp (k := 2) f169 hk_a0 rfl).trans ((Fr.kp (k := 2) f162 hk_a0 rfl).trans (Fr.kp (k := 2) f148 hk_a0 rfl))).trans k101
                  have k178 : M171 a0 3 = x37 := ((Fr.kp (k := 3) f169 hk_a0 rfl).trans ((Fr.kp (k := 3) f162 hk_a0 rfl).trans ((Fr.kp (k := 3) f148 hk_a0 rfl).trans ((Fr.kp (k := 3) f91 hk_a0 rfl).trans ((Fr.kp (k := 3) f81 hk_a0 rfl).trans ((Fr.kp (k := 3) f64 hk_a0 rfl).trans (Fr.kp (k := 3) f50 hk_a0 rfl))))))).trans k38
                  refine tw_goi hS (md_runU (As := []) (rest := []) hx hb hml hown hW hK hT hS.1 (t_X10_goesOn l D cy tx base Z K N M171 R172 J173 hS.2.1 a0 hz_a0 hk_a0 a1 k175 x33 k176 (iv_mono h_x33 (by decide) (by decide)) x100 k177 (iv_mono h99 (by decide) (by decide)) x37 k178 (iv_mono h_x37 (by decide) (by decide))) s_X8_61_X8 ⟨rfl, rfl, ⟨Nat.le_of_ble_eq_true rfl, Nat.le_of_ble_eq_true rfl⟩, ⟨Nat.le_of_ble_eq_true rfl, Nat.le_of_ble_eq_true rfl⟩⟩ hz_a0 hk_a0 (by decide) rfl rfl hl.1 rfl (Nat.le_of_ble_eq_true rfl) dX8_read_141) rfl rfl (fun x185 H locs M181 R182 J183 hS f179 g180 E184 => ?_)
                  obtain ⟨h_x185, p186⟩ := E184
                  obtain ⟨x188, x190, k191, k192, h187, h189, q193⟩ := p186
                  have k191 : M181 a0 2 = x188 := k191
                  have k192 : M181 a0 3 = x190 := k192
                  refine lv_istore_n (lv' := [(3, .int x185), (6, .int (-1)), (5, .int x70), (4, .int x27), (0, .ref (base + a0)), (1, .ref (base + a1)), (2, .int a2)]) hx hb dX8_read_144 rfl hl (by decide) rfl (fun ls hl => ?_)
                  refine tw_iinc (lv' := fun x196 => [(4, .int x196), (3, .int x185), (6, .int (-1)), (5, .int x70), (0, .ref (base + a0)), (1, .ref (base + a1)), (2, .int a2)]) (lo := 1) (hi := 12) hx hb dX8_read_145 hl (k := 3) rfl h80 (by decide) ⟨by decide, by decide⟩ ⟨by decide, by decide⟩ (by decide) (fun _ => rfl) (fun x196 ls e195 h194 hl => ?_)
                  refine lv_goto (tgt := 21) hx hb dX8_read_148 (by decide) ?_
                  have k197 : M181 a0 1 = x33 := (Fr.kp (k := 1) f179 hk_a0 rfl).trans k176
                  have k198 : R182 a0 0 = some a1 := (Fr.kp (k := 0) g180 hk_a0 rfl).trans k175
                  have w199 : x185.toInt = 0 ∨ (x190.toInt = 0 ∧ x188.toInt ≤ x33.toInt) := by
                    have := (h_a2).1; have := (h_a2).2; have := (h99).1; have := (h99).2; have := (h156).1; have := (h156).2; have := (h_x185).1; have := (h_x185).2; have := (h187).1; have := (h187).2; have := (h189).1; have := (h189).2; have := (h44).1; have := (h44).2; have := (h_x33).1; have := (h_x33).2; have := (h_x35).1; have := (h_x35).2; have := (h_x37).1; have := (h_x37).2; have := (h58).1; have := (h58).2; have := (h72).1; have := (h72).2; omega
                  have hm200 : 13 - x196.toInt < (n_28 : Int) := by
                    have := (h_a2).1; have := (h_a2).2; have := (h194).1; have := (h194).2; have := (h80).1; have := (h80).2; omega
                  exact ih_28 x185 x196 x33 x188 x190 M181 R182 J183 H locs _ h_x185 (iv_mono h194 (by decide) (by decide)) h_x33 k197 h187 k191 h189 k192 k198 w199 hm200 hS (lv_sub hl [1, 0, 4, 5, 6] rfl)
                · have q201 : x154.toInt = 0 := ti_eq c160
                  have h202 : iv 0 0 x154 := ⟨by have := (h_x154).1; have := ((iv_c (c := 0) (n := 0) (by decide))).1; omega, by have := (h_x154).2; have := ((iv_c (c := 0) (n := 0) (by decide))).2; omega⟩
                  refine lv_aload_n hx hb dX8_read_107 rfl (lv_at hl 4 rfl) ?_
                  refine tw_gov hS (md_runU (As := []) (rest := []) hx hb hml hown hW hK hT hS.1 (t_X10_passWord l D cy tx base Z K N M150 R151 J152 hS.2.1 a0 hz_a0 hk_a0 x157 k158 (iv_mono h156 (by decide) (by decide))) s_X8_43_X8 ⟨rfl, rfl, ⟨Nat.le_of_ble_eq_true rfl, Nat.le_of_ble_eq_true rfl⟩, ⟨Nat.le_of_ble_eq_true rfl, Nat.le_of_ble_eq_true rfl⟩⟩ hz_a0 hk_a0 (by decide) rfl rfl hl.1 rfl (Nat.le_of_ble_eq_true rfl) dX8_read_108) rfl rfl (fun H locs M205 R206 J207 hS f203 g204 E208 => ?_)
                  have p209 := E208
                  have k210 : M205 a0 2 = x157 := p209
                  refine lv_aload_n hx hb dX8_read_111 rfl (lv_at hl 4 rfl) ?_
                  refine lv_iconst (v := 0) hx hb dX8_read_112 (by decide) ?_
                  have k211 : R206 a0 0 = some a1 := ((Fr.kp (k := 0) g204 hk_a0 rfl).trans (Fr.kp (k := 0) g149 hk_a0 rfl)).trans k146
                  have k212 : M205 a0 1 = x33 := ((Fr.kp (k := 1) f203 hk_a0 rfl).trans (Fr.kp (k := 1) f148 hk_a0 rfl)).trans k147
                  have h213 : iv 0 400 x157 := by
                    have := (h_a2).1; have := (h_a2).2; have := (h99).1; have := (h99).2; have := (h156).1; have := (h156).2; have := (h44).1; have := (h44).2; have := (h_x33).1; have := (h_x33).2; have := (h_x35).1; have := (h_x35).2; have := (h_x37).1; have := (h_x37).2; have := (h58).1; have := (h58).2; have := (h72).1; have := (h72).2; exact ⟨by omega, by omega⟩
                  have k214 : M205 a0 3 = x37 := ((Fr.kp (k := 3) f203 hk_a0 rfl).trans ((Fr.kp (k := 3) f148 hk_a0 rfl).trans ((Fr.kp (k := 3) f91 hk_a0 rfl).trans ((Fr.kp (k := 3) f81 hk_a0 rfl).trans ((Fr.kp (k := 3) f64 hk_a0 rfl).trans (Fr.kp (k := 3) f50 hk_a0 rfl)))))).trans k38
                  have h215 : iv 0 0 x37 := by
                    have := (h_a2).1; have := (h_a2).2; have := (h99).1; have := (h99).2; have := (h156).1; have := (h156).2; have := (h44).1; have := (h44).2; have := (h_x33).1; have := (h_x33).2; have := (h_x35).1; have := (h_x35).2; have := (h_x37).1; have := (h_x37).2; have := (h58).1; have := (h58).2; have := (h72).1; have := (h72).2; exact ⟨by omega, by omega⟩
                  have q216 : x157.toInt ≤ x33.toInt := by
                    have := (h_a2).1; have := (h_a2).2; have := (h99).1; have := (h99).2; have := (h156).1; have := (h156).2; have := (h44).1; have := (h44).2; have := (h_x33).1; have := (h_x33).2; have := (h_x35).1; have := (h_x35).2; have := (h_x37).1; have := (h_x37).2; have := (h58).1; have := (h58).2; have := (h72).1; have := (h72).2; omega
                  have hm217 : 10 - (0 : Int32).toInt < (((11 : Nat) : Int) : Int) := by
                    have := (h_a2).1; have := (h_a2).2; have : (0 : Int32).toInt = 0 := (by decide); omega
                  refine tw_gov hS (md_runV (As := [.int 0]) (rest := []) hx hb hml hown hW hK hT hS.1 (t_X8_test l D cy tx base Z K N 11 (t_X8_fact l D cy tx base Z K N 11) M205 R206 J207 hS.2.1 a0 hz_a0 hk_a0 0 (iv_mono (iv_c (c := 0) (n := 0) (by decide)) (by decide) (by decide)) a1 k211 x33 k212 (iv_mono h_x33 (by decide) (by decide)) x157 k210 h213 x37 k214 h215 q216 hm217) s_X8_48 ⟨rfl, rfl, ⟨by simp only [md_rm]; omega, by simp only [md_rm]; omega⟩, ⟨Nat.le_of_ble_eq_true rfl, Nat.le_of_ble_eq_true rfl⟩⟩ hz_a0 hk_a0 (by decide) rfl rfl hl.1 rfl (Nat.le_of_ble_eq_true rfl) dX8_read_113) rfl rfl (fun H locs M220 R221 J222 hS f218 g219 E223 => ?_)
                  have p224 := E223
                  obtain ⟨x226, x228, k229, k230, h225, h227, q231⟩ := p224
                  have k229 : M220 a0 2 = x226 := k229
                  have k230 : M220 a0 3 = x228 := k230
                  have q232 : (0 : Int32).toInt = 0 := (by decide)
                  refine lv_aload_n hx hb dX8_read_116 rfl (lv_at hl 4 rfl) ?_
                  refine lv_bipush (v := 14) hx hb dX8_read_117 (by decide) ?_
                  refine lv_iconst (v := 0) hx hb dX8_read_119 (by decide) ?_
                  refine tw_goi hS (md_runV (As := [.int 14, .int 0]) (rest := []) hx hb hml hown hW hK hT hS.1 (t_X8_put l D cy tx base Z K N M220 R221 J222 hS.2.1 a0 hz_a0 hk_a0 14 (iv_mono (iv_c (c := 14) (n := 14) (by decide)) (by decide) (by decide)) 0 (iv_mono (iv_c (c := 0) (n := 0) (by decide)) (by decide) (by decide))) s_X8_54 ⟨rfl, rfl, ⟨Nat.le_of_ble_eq_true rfl, Nat.le_of_ble_eq_true rfl⟩, ⟨Nat.le_of_ble_eq_true rfl, Nat.le_of_ble_eq_true rfl⟩⟩ hz_a0 hk_a0 (by decide) rfl rfl hl.1 rfl (Nat.le_of_ble_eq_true rfl) dX8_read_120) rfl rfl (fun x239 H locs M235 R236 J237 hS f233 g234 E238 => ?_)
                  have h_x239 := E238
                  refine lv_istore (lv' := [(6, .int x239), (5, .int x70), (3, .int x26), (4, .int x27), (0, .ref (base + a0)), (1, .ref (base + a1)), (2, .int a2)]) hx hb dX8_read_123 hl (by decide) rfl (fun ls hl => ?_)
                  refine lv_aload_n hx hb dX8_read_125 rfl (lv_at hl 4 rfl) ?_
                  refine lv_bipush (v := 15) hx hb dX8_read_126 (by decide) ?_
                  refine lv_iload hx hb dX8_read_128 (lv_at hl 1 rfl) ?_
                  refine tw_goi hS (md_runV (As := [.int 15, .int x70]) (rest := []) hx hb hml hown hW hK hT hS.1 (t_X8_put l D cy tx base Z K N M235 R236 J237 hS.2.1 a0 hz_a0 hk_a0 15 (iv_mono (iv_c (c := 15) (n := 15) (by decide)) (by decide) (by decide)) x70 h_x70) s_X8_54 ⟨rfl, rfl, ⟨Nat.le_of_ble_eq_true rfl, Nat.le_of_ble_eq_true rfl⟩, ⟨Nat.le_of_ble_eq_true rfl, Nat.le_of_ble_eq_true rfl⟩⟩ hz_a0 hk_a0 (by decide) rfl rfl hl.1 rfl (Nat.le_of_ble_eq_true rfl) dX8_read_130) rfl rfl (fun x246 H locs M242 R243 J244 hS f240 g241 E245 => ?_)
                  have h_x246 := E245
                  refine lv_pop hx hb dX8_read_133 rfl ?_
                  refine lv_aload_n hx hb dX8_read_134 rfl (lv_at hl 4 rfl) ?_
                  refine lv_iload hx hb dX8_read_135 (lv_at hl 0 rfl) ?_
                  refine tw_gov hS (md_runV (As := [.int x239]) (rest := []) hx hb hml hown hW hK hT hS.1 (t_X8_aim l D cy tx base Z K N M242 R243 J244 hS.2.1 a0 hz_a0 hk_a0 x239 h_x239) s_X8_58 ⟨rfl, rfl, ⟨Nat.le_of_ble_eq_true rfl, Nat.le_of_ble_eq_true rfl⟩, ⟨Nat.le_of_ble_eq_true rfl, Nat.le_of_ble_eq_true rfl⟩⟩ hz_a0 hk_a0 (by decide) rfl rfl hl.1 rfl (Nat.le_of_ble_eq_true rfl) dX8_read_137) rfl rfl (fun H locs M249 R250 J251 hS f247 g248 E252 => ?_)
                  refine lv_aload_n hx hb dX8_read_140 rfl (lv_at hl 4 rfl) ?_
                  have k253 : R250 a0 0 = some a1 := ((Fr.kp (k := 0) g248 hk_a0 rfl).trans ((Fr.kp (k := 0) g241 hk_a0 rfl).trans ((Fr.kp (k := 0) g234 hk_a0 rfl).trans (Fr.kp (k := 0) g219 hk_a0 rfl)))).trans k211
                  have k254 : M249 a0 1 = x33 := ((Fr.kp (k := 1) f247 hk_a0 rfl).trans ((Fr.kp (k := 1) f240 hk_a0 rfl).trans ((Fr.kp (k := 1) f233 hk_a0 rfl).trans (Fr.kp (k := 1) f218 hk_a0 rfl)))).trans k212
                  have k255 : M249 a0 2 = x226 := ((Fr.kp (k := 2) f247 hk_a0 rfl).trans ((Fr.kp (k := 2) f240 hk_a0 rfl).trans (Fr.kp (k := 2) f233 hk_a0 rfl))).trans k229
                  have k256 : M249 a0 3 = x228 := ((Fr.kp (k := 3) f247 hk_a0 rfl).trans ((Fr.kp (k := 3) f240 hk_a0 rfl).trans (Fr.kp (k := 3) f233 hk_a0 rfl))).trans k230
                  refine tw_goi hS (md_runU (As := []) (rest := []) hx hb hml hown hW hK hT hS.1 (t_X10_goesOn l D cy tx base Z K N M249 R250 J251 hS.2.1 a0 hz_a0 hk_a0 a1 k253 x33 k254 (iv_mono h_x33 (by decide) (by decide)) x226 k255 (iv_mono h225 (by decide) (by decide)) x228 k256 (iv_mono h227 (by decide) (by decide))) s_X8_61_X8 ⟨rfl, rfl, ⟨Nat.le_of_ble_eq_true rfl, Nat.le_of_ble_eq_true rfl⟩, ⟨Nat.le_of_ble_eq_true rfl, Nat.le_of_ble_eq_true rfl⟩⟩ hz_a0 hk_a0 (by decide) rfl rfl hl.1 rfl (Nat.le_of_ble_eq_true rfl) dX8_read_141) rfl rfl (fun x263 H locs M259 R260 J261 hS f257 g258 E262 => ?_)
                  obtain ⟨h_x263, p264⟩ := E262
                  obtain ⟨x266, x268, k269, k270, h265, h267, q271⟩ := p264
                  have k269 : M259 a0 2 = x266 := k269
                  have k270 : M259 a0 3 = x268 := k270
                  have h272 : iv 0 420 x266 := by
                    have := (h_a2).1; have := (h_a2).2; have := (h99).1; have := (h99).2; have := (h156).1; have := (h156).2; have := (h225).1; have := (h225).2; have := (h227).1; have := (h227).2; have := (h44).1; have := (h44).2; have := (h265).1; have := (h265).2; have := (h267).1; have := (h267).2; have := (h_x33).1; have := (h_x33).2; have := (h_x35).1; have := (h_x35).2; have := (h_x37).1; have := (h_x37).2; have := (h58).1; have := (h58).2; have := (h72).1; have := (h72).2; exact ⟨by omega, by omega⟩
                  refine lv_istore_n (lv' := [(3, .int x263), (6, .int x239), (5, .int x70), (4, .int x27), (0, .ref (base + a0)), (1, .ref (base + a1)), (2, .int a2)]) hx hb dX8_read_144 rfl hl (by decide) rfl (fun ls hl => ?_)
                  refine tw_iinc (lv' := fun x275 => [(4, .int x275), (3, .int x263), (6, .int x239), (5, .int x70), (0, .ref (base + a0)), (1, .ref (base + a1)), (2, .int a2)]) (lo := 1) (hi := 12) hx hb dX8_read_145 hl (k := 3) rfl h80 (by decide) ⟨by decide, by decide⟩ ⟨by decide, by decide⟩ (by decide) (fun _ => rfl) (fun x275 ls e274 h273 hl => ?_)
                  refine lv_goto (tgt := 21) hx hb dX8_read_148 (by decide) ?_
                  have k276 : M259 a0 1 = x33 := (Fr.kp (k := 1) f257 hk_a0 rfl).trans k254
                  have k277 : R260 a0 0 = some a1 := (Fr.kp (k := 0) g258 hk_a0 rfl).trans k253
                  have w278 : x263.toInt = 0 ∨ (x268.toInt = 0 ∧ x266.toInt ≤ x33.toInt) := by
                    have := (h_a2).1; have := (h_a2).2; have := (h99).1; have := (h99).2; have := (h156).1; have := (h156).2; have := (h225).1; have := (h225).2; have := (h227).1; have := (h227).2; have := (h44).1; have := (h44).2; have := (h_x263).1; have := (h_x263).2; have := (h272).1; have := (h272).2; have := (h267).1; have := (h267).2; have := (h_x33).1; have := (h_x33).2; have := (h_x35).1; have := (h_x35).2; have := (h_x37).1; have := (h_x37).2; have := (h58).1; have := (h58).2; have := (h72).1; have := (h72).2; omega
                  have hm279 : 13 - x275.toInt < (n_28 : Int) := by
                    have := (h_a2).1; have := (h_a2).2; have := (h80).1; have := (h80).2; have := (h273).1; have := (h273).2; omega
                  exact ih_28 x263 x275 x33 x266 x268 M259 R260 J261 H locs _ h_x263 (iv_mono h273 (by decide) (by decide)) h_x33 k276 (iv_mono h272 (by decide) (by decide)) k269 h267 k270 k277 w278 hm279 hS (lv_sub hl [1, 0, 4, 5, 6] rfl)
            · have q280 : 12 ≤ x27.toInt := ti_nlt c78
              have h281 : iv 12 12 x27 := iv_geL (y := 12) h49 (iv_c (c := 12) (n := 12) (by decide)) q280 (by decide)
              refine lv_aload_n hx hb dX8_read_70 rfl (lv_at hl 3 rfl) ?_
              refine lv_aload_n hx hb dX8_read_71 rfl (lv_at hl 3 rfl) ?_
              have k282 : M66 a0 2 = x59 := (Fr.kp (k := 2) f64 hk_a0 rfl).trans k60
              refine tw_getk hx hb hW hown hK hS f_X8_36_8 hz_a0 hk_a0 (v := x59) k282 dX8_read_72 ?_
              refine lv_iconst (v := 4) hx hb dX8_read_75 (by decide) ?_
              refine tw_gov hS (md_runU (As := [.int x59, .int 4]) (rest := []) hx hb hml hown hW hK hT hS.1 (t_X10_fail l D cy tx base Z K N M66 R67 J68 hS.2.1 a0 hz_a0 hk_a0 x59 h58 4 (iv_mono (iv_c (c := 4) (n := 4) (by decide)) (by decide) (by decide))) s_X8_39_X8 ⟨rfl, rfl, ⟨Nat.le_of_ble_eq_true rfl, Nat.le_of_ble_eq_true rfl⟩, ⟨Nat.le_of_ble_eq_true rfl, Nat.le_of_ble_eq_true rfl⟩⟩ hz_a0 hk_a0 (by decide) rfl rfl hl.1 rfl (Nat.le_of_ble_eq_true rfl) dX8_read_76) rfl rfl (fun H locs M285 R286 J287 hS f283 g284 E288 => ?_)
              have p289 := E288
              obtain ⟨x291, k292, h290, q293⟩ := p289
              have k292 : M285 a0 3 = x291 := k292
              refine lv_goto (tgt := 140) hx hb dX8_read_79 (by decide) ?_
              refine lv_aload_n hx hb dX8_read_140 rfl (lv_at hl 3 rfl) ?_
              have k294 : R286 a0 0 = some a1 := ((Fr.kp (k := 0) g284 hk_a0 rfl).trans (Fr.kp (k := 0) g65 hk_a0 rfl)).trans k62
              have k295 : M285 a0 1 = x33 := ((Fr.kp (k := 1) f283 hk_a0 rfl).trans (Fr.kp (k := 1) f64 hk_a0 rfl)).trans k63
              have k296 : M285 a0 2 = x59 := (Fr.kp (k := 2) f283 hk_a0 rfl).trans k282
              refine tw_goi hS (md_runU (As := []) (rest := []) hx hb hml hown hW hK hT hS.1 (t_X10_goesOn l D cy tx base Z K N M285 R286 J287 hS.2.1 a0 hz_a0 hk_a0 a1 k294 x33 k295 (iv_mono h_x33 (by decide) (by decide)) x59 k296 (iv_mono h58 (by decide) (by decide)) x291 k292 (iv_mono h290 (by decide) (by decide))) s_X8_61_X8 ⟨rfl, rfl, ⟨Nat.le_of_ble_eq_true rfl, Nat.le_of_ble_eq_true rfl⟩, ⟨Nat.le_of_ble_eq_true rfl, Nat.le_of_ble_eq_true rfl⟩⟩ hz_a0 hk_a0 (by decide) rfl rfl hl.1 rfl (Nat.le_of_ble_eq_true rfl) dX8_read_141) rfl rfl (fun x303 H locs M299 R300 J301 hS f297 g298 E302 => ?_)
              obtain ⟨h_x303, p304⟩ := E302
              obtain ⟨x306, x308, k309, k310, h305, h307, q311⟩ := p304
              have k309 : M299 a0 2 = x306 := k309
              have k310 : M299 a0 3 = x308 := k310
              refine lv_istore_n (lv' := [(3, .int x303), (5, .int x70), (4, .int x27), (0, .ref (base + a0)), (1, .ref (base + a1)), (2, .int a2)]) hx hb dX8_read_144 rfl hl (by decide) rfl (fun ls hl => ?_)
              refine tw_iinc (lv' := fun x314 => [(4, .int x314), (3, .int x303), (5, .int x70), (0, .ref (base + a0)), (1, .ref (base + a1)), (2, .int a2)]) (lo := 13) (hi := 13) hx hb dX8_read_145 hl (k := 2) rfl h281 (by decide) ⟨by decide, by decide⟩ ⟨by decide, by decide⟩ (by decide) (fun _ => rfl) (fun x314 ls e313 h312 hl => ?_)
              refine lv_goto (tgt := 21) hx hb dX8_read_148 (by decide) ?_
              have k315 : M299 a0 1 = x33 := (Fr.kp (k := 1) f297 hk_a0 rfl).trans k295
              have k316 : R300 a0 0 = some a1 := (Fr.kp (k := 0) g298 hk_a0 rfl).trans k294
              have w317 : x303.toInt = 0 ∨ (x308.toInt = 0 ∧ x306.toInt ≤ x33.toInt) := by
                have := (h_a2).1; have := (h_a2).2; have := (h44).1; have := (h44).2; have := (h_x303).1; have := (h_x303).2; have := (h305).1; have := (h305).2; have := (h307).1; have := (h307).2; have := (h_x33).1; have := (h_x33).2; have := (h_x35).1; have := (h_x35).2; have := (h_x37).1; have := (h_x37).2; have := (h58).1; have := (h58).2; have := (h72).1; have := (h72).2; omega
              have hm318 : 13 - x314.toInt < (n_28 : Int) := by
                have := (h_a2).1; have := (h_a2).2; have := (h281).1; have := (h281).2; have := (h312).1; have := (h312).2; omega
              exact ih_28 x303 x314 x33 x306 x308 M299 R300 J301 H locs _ h_x303 (iv_mono h312 (by decide) (by decide)) h_x33 k315 h305 k309 h307 k310 k316 w317 hm318 hS (lv_sub hl [1, 0, 3, 4, 5] rfl)
          · have q319 : x70.toInt = (-1) := ti_eq c76
            have h320 : iv (-1) (-1) x70 := ⟨by have := (h_x70).1; have := ((iv_c (c := (-1)) (n := (-1)) (by decide))).1; omega, by have := (h_x70).2; have := ((iv_c (c := (-1)) (n := (-1)) (by decide))).2; omega⟩
            refine lv_aload_n hx hb dX8_read_51 rfl (lv_at hl 3 rfl) ?_
            refine lv_aload_n hx hb dX8_read_52 rfl (lv_at hl 3 rfl) ?_
            have k321 : M66 a0 2 = x59 := (Fr.kp (k := 2) f64 hk_a0 rfl).trans k60
            refine tw_getk hx hb hW hown hK hS f_X8_36_8 hz_a0 hk_a0 (v := x59) k321 dX8_read_53 ?_
            refine lv_iconst (v := 0) hx hb dX8_read_56 (by decide) ?_
            refine tw_gov hS (md_runU (As := [.int x59, .int 0]) (rest := []) hx hb hml hown hW hK hT hS.1 (t_X10_fail l D cy tx base Z K N M66 R67 J68 hS.2.1 a0 hz_a0 hk_a0 x59 h58 0 (iv_mono (iv_c (c := 0) (n := 0) (by decide)) (by decide) (by decide))) s_X8_39_X8 ⟨rfl, rfl, ⟨Nat.le_of_ble_eq_true rfl, Nat.le_of_ble_eq_true rfl⟩, ⟨Nat.le_of_ble_eq_true rfl, Nat.le_of_ble_eq_true rfl⟩⟩ hz_a0 hk_a0 (by decide) rfl rfl hl.1 rfl (Nat.le_of_ble_eq_true rfl) dX8_read_57) rfl rfl (fun H locs M324 R325 J326 hS f322 g323 E327 => ?_)
            have p328 := E327
            obtain ⟨x330, k331, h329, q332⟩ := p328
            have k331 : M324 a0 3 = x330 := k331
            refine lv_goto (tgt := 140) hx hb dX8_read_60 (by decide) ?_
            refine lv_aload_n hx hb dX8_read_140 rfl (lv_at hl 3 rfl) ?_
            have k333 : R325 a0 0 = some a1 := ((Fr.kp (k := 0) g323 hk_a0 rfl).trans (Fr.kp (k := 0) g65 hk_a0 rfl)).trans k62
            have k334 : M324 a0 1 = x33 := ((Fr.kp (k := 1) f322 hk_a0 rfl).trans (Fr.kp (k := 1) f64 hk_a0 rfl)).trans k63
            have k335 : M324 a0 2 = x59 := (Fr.kp (k := 2) f322 hk_a0 rfl).trans k321
            refine tw_goi hS (md_runU (As := []) (rest := []) hx hb hml hown hW hK hT hS.1 (t_X10_goesOn l D cy tx base Z K N M324 R325 J326 hS.2.1 a0 hz_a0 hk_a0 a1 k333 x33 k334 (iv_mono h_x33 (by decide) (by decide)) x59 k335 (iv_mono h58 (by decide) (by decide)) x330 k331 (iv_mono h329 (by decide) (by decide))) s_X8_61_X8 ⟨rfl, rfl, ⟨Nat.le_of_ble_eq_true rfl, Nat.le_of_ble_eq_true rfl⟩, ⟨Nat.le_of_ble_eq_true rfl, Nat.le_of_ble_eq_true rfl⟩⟩ hz_a0 hk_a0 (by decide) rfl rfl hl.1 rfl (Nat.le_of_ble_eq_true rfl) dX8_read_141) rfl rfl (fun x342 H locs M338 R339 J340 hS f336 g337 E341 => ?_)
            obtain ⟨h_x342, p343⟩ := E341
            obtain ⟨x345, x347, k348, k349, h344, h346, q350⟩ := p343
            have k348 : M338 a0 2 = x345 := k348
            have k349 : M338 a0 3 = x347 := k349
            refine lv_istore_n (lv' := [(3, .int x342), (5, .int x70), (4, .int x27), (0, .ref (base + a0)), (1, .ref (base + a1)), (2, .int a2)]) hx hb dX8_read_144 rfl hl (by decide) rfl (fun ls hl => ?_)
            refine tw_iinc (lv' := fun x353 => [(4, .int x353), (3, .int x342), (5, .int x70), (0, .ref (base + a0)), (1, .ref (base + a1)), (2, .int a2)]) (lo := 1) (hi := 13) hx hb dX8_read_145 hl (k := 2) rfl h49 (by decide) ⟨by decide, by decide⟩ ⟨by decide, by decide⟩ (by decide) (fun _ => rfl) (fun x353 ls e352 h351 hl => ?_)
            refine lv_goto (tgt := 21) hx hb dX8_read_148 (by decide) ?_
            have k354 : M338 a0 1 = x33 := (Fr.kp (k := 1) f336 hk_a0 rfl).trans k334
            have k355 : R339 a0 0 = some a1 := (Fr.kp (k := 0) g337 hk_a0 rfl).trans k333
            have w356 : x342.toInt = 0 ∨ (x347.toInt = 0 ∧ x345.toInt ≤ x33.toInt) := by
              have := (h_a2).1; have := (h_a2).2; have := (h44).1; have := (h44).2; have := (h_x33).1; have := (h_x33).2; have := (h_x342).1; have := (h_x342).2; have := (h344).1; have := (h344).2; have := (h346).1; have := (h346).2; have := (h_x35).1; have := (h_x35).2; have := (h_x37).1; have := (h_x37).2; have := (h58).1; have := (h58).2; have := (h72).1; have := (h72).2; omega
            have hm357 : 13 - x353.toInt < (n_28 : Int) := by
              have := (h_a2).1; have := (h_a2).2; have := (h49).1; have := (h49).2; have := (h351).1; have := (h351).2; omega
            exact ih_28 x342 x353 x33 x345 x347 M338 R339 J340 H locs _ h_x342 (iv_mono h351 (by decide) (by decide)) h_x33 k354 h344 k348 h346 k349 k355 w356 hm357 hS (lv_sub hl [1, 0, 3, 4, 5] rfl)
  have k358 : M25 a0 1 = x11 := ((Fr.kp (k := 1) f24 hk_a0 rfl).trans (Fr.kp (k := 1) f21 hk_a0 rfl)).trans k16
  have k359 : M25 a0 2 = x13 := ((Fr.kp (k := 2) f24 hk_a0 rfl).trans (Fr.kp (k := 2) f21 hk_a0 rfl)).trans k17
  have k360 : M25 a0 3 = x15 := ((Fr.kp (k := 3) f24 hk_a0 rfl).trans (Fr.kp (k := 3) f21 hk_a0 rfl)).trans k18
  have w361 : (1 : Int32).toInt = 0 ∨ (x15.toInt = 0 ∧ x13.toInt ≤ x11.toInt) := by
    have := (h_a2).1; have := (h_a2).2; have := (h10).1; have := (h10).2; have := (h12).1; have := (h12).2; have := (h14).1; have := (h14).2; have : (1 : Int32).toInt = 1 := (by decide); omega
  have hm362 : 13 - (0 : Int32).toInt < (((14 : Nat) : Int) : Int) := by
    have := (h_a2).1; have := (h_a2).2; have : (0 : Int32).toInt = 0 := (by decide); omega
  exact W21_28 14 1 0 x11 x13 x15 M25 R4 J5 H locs _ (iv_mono (iv_c (c := 1) (n := 1) (by decide)) (by decide) (by decide)) (iv_mono (iv_c (c := 0) (n := 0) (by decide)) (by decide) (by decide)) h10 k358 (iv_mono h12 (by decide) (by decide)) k359 (iv_mono h14 (by decide) (by decide)) k360 k9 w361 hm362 hS (lv_sub hl [1, 0, 2, 3, 4] rfl)
