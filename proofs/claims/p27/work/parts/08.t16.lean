def Lt_X8_sign : WL := [(9, 2, 4), (9, 7, 8)]
def LRt_X8_sign : WL := []
set_option maxRecDepth 100000 in
set_option maxHeartbeats 4000000 in
theorem t_X8_sign (l : Launch) (D : va_G) (cy : Nat → ClassId) (tx : (Nat → Nat) × (Nat → Nat)) (base Z : Nat) (K N : Nat → Nat) (Ma : MT) (Ra : RT) (Ja : JT) (hTy : Ty Z K N Ma Ra) (a0 : Nat) (hz_a0 : a0 < Z) (hk_a0 : K a0 = 9) (tb : Nat) (k_tb : Ra a0 0 = some tb) (ln : Int32) (k_ln : Ma a0 1 = ln) (h_ln : iv 0 400 ln) (pa : Int32) (k_pa : Ma a0 2 = pa) (h_pa : iv 0 420 pa) (fa : Int32) (k_fa : Ma a0 3 = fa) (h_fa : iv (-2147483648) 2147483647 fa) (hg : ¬ fa.toInt = 0 ∨ pa.toInt ≤ ln.toInt) : Met l yX8_sign [Cond.code yX8_sign cX8_sign 6 (some .int)] (md_rm 3 0 0) (va_Pc [.ref (base + a0)] (md_U D cy tx base Z K N Ma Ra Ja)) (mQi D cy tx base (fun r u => TP Z K N Lt_X8_sign LRt_X8_sign Ma Ra u ∧ (iv 6 10 r ∧ (∃ x0 x1 : Int32, u.2.2.2.1 a0 2 = x0 ∧ u.2.2.2.1 a0 3 = x1 ∧ iv 0 421 x0 ∧ iv (-2147483648) 2147483647 x1 ∧ ((x0.toInt ≤ ln.toInt + 1 ∨ x0.toInt ≤ pa.toInt + 1) ∧ (¬ x1.toInt = 0 ∨ x0.toInt ≤ ln.toInt) ∧ (¬ x1.toInt = 0 ∨ fa.toInt = 0)))))) 0 0 (fun q => base ≤ q) := by
  refine tw_ofW (L := Lt_X8_sign) (LR := LRt_X8_sign) (by decide) (Nat.le_of_ble_eq_true rfl) hTy ?_
  intro p e s m args below meth c Q ls hx hb hr hlocks hown hml hW hK hT hS hQ hl
  have hl : lv_has ls 6 [(0, .ref (base + a0))] := hl
  obtain ⟨hz_tb, hk_tb, hn_tb⟩ := hTy.refn hz_a0 hk_a0 (show rtR 9 0 = (13, 400, 1) from rfl) k_tb
  have hn_tb := hn_tb (by decide)
  refine lv_aload_n hx hb dX8_sign_0 rfl (lv_at hl 0 rfl) ?_
  refine tw_goi hS (md_runU (As := []) (rest := []) hx hb hml hown hW hK hT hS.1 (t_X10_hereBehindBlanks l D cy tx base Z K N Ma Ra Ja hS.2.1 a0 hz_a0 hk_a0 tb k_tb ln k_ln (iv_mono h_ln (by decide) (by decide)) pa k_pa (iv_mono h_pa (by decide) (by decide))) s_X8_26_X8 ⟨rfl, rfl, ⟨Nat.le_of_ble_eq_true rfl, Nat.le_of_ble_eq_true rfl⟩, ⟨Nat.le_of_ble_eq_true rfl, Nat.le_of_ble_eq_true rfl⟩⟩ hz_a0 hk_a0 (by decide) rfl rfl hl.1 rfl (Nat.le_of_ble_eq_true rfl) dX8_sign_1) rfl rfl (fun x7 H locs M4 R5 J3 hS f1 g2 E6 => ?_)
  have eR5 := Fr.nil g2 rfl
  subst eR5
  obtain ⟨h_x7, p8⟩ := E6
  obtain ⟨x10, k11, h9, q12⟩ := p8
  have k11 : M4 a0 2 = x10 := k11
  have h13 : iv 0 420 x10 := by
    have := (h_fa).1; have := (h_fa).2; have := (h_ln).1; have := (h_ln).2; have := (h_pa).1; have := (h_pa).2; have := (h9).1; have := (h9).2; exact ⟨by omega, by omega⟩
  refine lv_istore_n (lv' := [(1, .int x7), (0, .ref (base + a0))]) hx hb dX8_sign_4 rfl hl (by decide) rfl (fun ls hl => ?_)
  refine lv_aload_n hx hb dX8_sign_5 rfl (lv_at hl 1 rfl) ?_
  refine tw_getk hx hb hW hown hK hS f_X8_36_8 hz_a0 hk_a0 (v := x10) k11 dX8_sign_6 ?_
  refine lv_istore_n (lv' := [(2, .int x10), (1, .int x7), (0, .ref (base + a0))]) hx hb dX8_sign_9 rfl hl (by decide) rfl (fun ls hl => ?_)
  refine lv_iload_n hx hb dX8_sign_10 rfl (lv_at hl 1 rfl) ?_
  refine lv_bipush (v := 60) hx hb dX8_sign_11 (by decide) ?_
  refine lv_icmp_ne (tgt := 20) hx hb dX8_sign_13 (by decide) (fun c14 => ?_) (fun c14 => ?_)
  · have q15 : ¬ x7.toInt = 60 := ti_ne c14
    refine lv_iconst (v := 0) hx hb dX8_sign_20 (by decide) ?_
    refine lv_istore_n (lv' := [(3, .int 0), (2, .int x10), (1, .int x7), (0, .ref (base + a0))]) hx hb dX8_sign_21 rfl hl (by decide) rfl (fun ls hl => ?_)
    refine lv_iload_n hx hb dX8_sign_22 rfl (lv_at hl 2 rfl) ?_
    refine lv_bipush (v := 62) hx hb dX8_sign_23 (by decide) ?_
    refine lv_icmp_ne (tgt := 32) hx hb dX8_sign_25 (by decide) (fun c16 => ?_) (fun c16 => ?_)
    · have q17 : ¬ x7.toInt = 62 := ti_ne c16
      refine lv_iconst (v := 0) hx hb dX8_sign_32 (by decide) ?_
      refine lv_istore (lv' := [(4, .int 0), (3, .int 0), (2, .int x10), (1, .int x7), (0, .ref (base + a0))]) hx hb dX8_sign_33 hl (by decide) rfl (fun ls hl => ?_)
      refine lv_iload_n hx hb dX8_sign_35 rfl (lv_at hl 1 rfl) ?_
      refine lv_if_ne (tgt := 59) hx hb dX8_sign_36 (by decide) (fun h => absurd h (by decide)) (fun _ => ?_)
      refine lv_iload hx hb dX8_sign_39 (lv_at hl 0 rfl) ?_
      refine lv_if_ne (tgt := 59) hx hb dX8_sign_41 (by decide) (fun h => absurd h (by decide)) (fun _ => ?_)
      refine lv_iload_n hx hb dX8_sign_44 rfl (lv_at hl 3 rfl) ?_
      refine lv_bipush (v := 61) hx hb dX8_sign_45 (by decide) ?_
      refine lv_icmp_eq (tgt := 59) hx hb dX8_sign_47 (by decide) (fun c18 => ?_) (fun c18 => ?_)
      · have q19 : x7.toInt = 61 := ti_eq c18
        have h20 : iv 61 61 x7 := ⟨by have := (h_x7).1; have := ((iv_c (c := 61) (n := 61) (by decide))).1; omega, by have := (h_x7).2; have := ((iv_c (c := 61) (n := 61) (by decide))).2; omega⟩
        refine lv_aload_n hx hb dX8_sign_59 rfl (lv_at hl 4 rfl) ?_
        refine lv_iload_n hx hb dX8_sign_60 rfl (lv_at hl 2 rfl) ?_
        have k21 : M4 a0 3 = fa := (Fr.kp (k := 3) f1 hk_a0 rfl).trans k_fa
        refine tw_gov hS (md_runV (As := [.int x10]) (rest := []) hx hb hml hown hW hK hT hS.1 (t_X8_weigh l D cy tx base Z K N M4 Ra J3 hS.2.1 a0 hz_a0 hk_a0 x10 (iv_mono h13 (by decide) (by decide)) fa k21 (iv_mono h_fa (by decide) (by decide))) s_X8_88 ⟨rfl, rfl, ⟨Nat.le_of_ble_eq_true rfl, Nat.le_of_ble_eq_true rfl⟩, ⟨Nat.le_of_ble_eq_true rfl, Nat.le_of_ble_eq_true rfl⟩⟩ hz_a0 hk_a0 (by decide) rfl rfl hl.1 rfl (Nat.le_of_ble_eq_true rfl) dX8_sign_61) rfl rfl (fun H locs M25 R26 J24 hS f22 g23 E27 => ?_)
        have eR26 := Fr.nil g23 rfl
        subst eR26
        have p28 := E27
        clear E27
        obtain ⟨x30, k31, h29, q32⟩ := p28
        have k31 : M25 a0 3 = x30 := k31
        refine lv_aload_n hx hb dX8_sign_64 rfl (lv_at hl 4 rfl) ?_
        refine lv_dup hx hb dX8_sign_65 rfl ?_
        have k33 : M25 a0 2 = x10 := (Fr.kp (k := 2) f22 hk_a0 rfl).trans k11
        refine tw_getk hx hb hW hown hK hS f_X8_36_8 hz_a0 hk_a0 (v := x10) k33 dX8_sign_66 ?_
        refine lv_iconst (v := 1) hx hb dX8_sign_69 (by decide) ?_
        refine tw_iadd (lo := 1) (hi := 421) hx hb h13 (iv_c (c := 1) (n := 1) (by decide)) ⟨by decide, by decide⟩ ⟨by decide, by decide⟩ dX8_sign_70 (fun x36 e35 h34 => ?_)
        have e35 : x36.toInt = x10.toInt + 1 := e35
        refine tw_puti hx hb hW hown hK hS f_X8_36_8 hz_a0 hk_a0 rfl rfl (lo := 0) (hi := 1000) rfl (iv_mono h34 (by decide) (by decide)) rfl dX8_sign_71 (fun H locs M39 hS k37 f38 => ?_)
        refine lv_iload_n hx hb dX8_sign_74 rfl (lv_at hl 1 rfl) ?_
        refine lv_if_ne (tgt := 83) hx hb dX8_sign_75 (by decide) (fun h => absurd h (by decide)) (fun _ => ?_)
        refine lv_iload hx hb dX8_sign_78 (lv_at hl 0 rfl) ?_
        refine lv_if_eq (tgt := 96) hx hb dX8_sign_80 (by decide) (fun _ => ?_) (fun h => absurd h (by decide))
        refine lv_iconst (v := 0) hx hb dX8_sign_96 (by decide) ?_
        refine lv_istore (lv' := [(5, .int 0), (4, .int 0), (3, .int 0), (2, .int x10), (1, .int x7), (0, .ref (base + a0))]) hx hb dX8_sign_97 hl (by decide) rfl (fun ls hl => ?_)
        refine lv_iload hx hb dX8_sign_99 (lv_at hl 0 rfl) ?_
        refine lv_if_eq (tgt := 126) hx hb dX8_sign_101 (by decide) (fun _ => ?_) (fun h => absurd h (by decide))
        refine lv_iload_n hx hb dX8_sign_126 rfl (lv_at hl 2 rfl) ?_
        refine lv_if_eq (tgt := 135) hx hb dX8_sign_127 (by decide) (fun _ => ?_) (fun h => absurd h (by decide))
        refine lv_iload hx hb dX8_sign_135 (lv_at hl 1 rfl) ?_
        refine lv_if_eq (tgt := 145) hx hb dX8_sign_137 (by decide) (fun _ => ?_) (fun h => absurd h (by decide))
        refine lv_bipush (v := 8) hx hb dX8_sign_145 (by decide) ?_
        have k40 : M39 a0 3 = x30 := (Fr.kp (k := 3) f38 hk_a0 rfl).trans k31
        have q41 : (x36.toInt ≤ ln.toInt + 1 ∨ x36.toInt ≤ pa.toInt + 1) ∧ (¬ x30.toInt = 0 ∨ x36.toInt ≤ ln.toInt) ∧ (¬ x30.toInt = 0 ∨ fa.toInt = 0) := by
          have := (h_fa).1; have := (h_fa).2; have := (h_ln).1; have := (h_ln).2; have := (h_pa).1; have := (h_pa).2; have := (h13).1; have := (h13).2; have := (h29).1; have := (h29).2; have := (h34).1; have := (h34).2; omega
        exact tw_endi hx hb hr hlocks hK hT hS hQ (⟨(iv_mono (iv_c (c := 8) (n := 8) (by decide)) (by decide) (by decide)), ⟨x36, x30, k37, k40, (iv_mono h34 (by decide) (by decide)), h29, q41⟩⟩) dX8_sign_147
      · have q42 : ¬ x7.toInt = 61 := ti_ne c18
        refine lv_aload_n hx hb dX8_sign_50 rfl (lv_at hl 4 rfl) ?_
        refine lv_aload_n hx hb dX8_sign_51 rfl (lv_at hl 4 rfl) ?_
        refine tw_getk hx hb hW hown hK hS f_X8_36_8 hz_a0 hk_a0 (v := x10) k11 dX8_sign_52 ?_
        refine lv_iconst (v := 0) hx hb dX8_sign_55 (by decide) ?_
        refine tw_gov hS (md_runU (As := [.int x10, .int 0]) (rest := []) hx hb hml hown hW hK hT hS.1 (t_X10_fail l D cy tx base Z K N M4 Ra J3 hS.2.1 a0 hz_a0 hk_a0 x10 (iv_mono h13 (by decide) (by decide)) 0 (iv_mono (iv_c (c := 0) (n := 0) (by decide)) (by decide) (by decide))) s_X8_39_X8 ⟨rfl, rfl, ⟨Nat.le_of_ble_eq_true rfl, Nat.le_of_ble_eq_true rfl⟩, ⟨Nat.le_of_ble_eq_true rfl, Nat.le_of_ble_eq_true rfl⟩⟩ hz_a0 hk_a0 (by decide) rfl rfl hl.1 rfl (Nat.le_of_ble_eq_true rfl) dX8_sign_56) rfl rfl (fun H locs M46 R47 J45 hS f43 g44 E48 => ?_)
        have eR47 := Fr.nil g44 rfl
        subst eR47
        have p49 := E48
        clear E48
        obtain ⟨x51, k52, h50, q53⟩ := p49
        have k52 : M46 a0 3 = x51 := k52
        refine lv_aload_n hx hb dX8_sign_59 rfl (lv_at hl 4 rfl) ?_
        refine lv_iload_n hx hb dX8_sign_60 rfl (lv_at hl 2 rfl) ?_
        refine tw_gov hS (md_runV (As := [.int x10]) (rest := []) hx hb hml hown hW hK hT hS.1 (t_X8_weigh l D cy tx base Z K N M46 Ra J45 hS.2.1 a0 hz_a0 hk_a0 x10 (iv_mono h13 (by decide) (by decide)) x51 k52 (iv_mono h50 (by decide) (by decide))) s_X8_88 ⟨rfl, rfl, ⟨Nat.le_of_ble_eq_true rfl, Nat.le_of_ble_eq_true rfl⟩, ⟨Nat.le_of_ble_eq_true rfl, Nat.le_of_ble_eq_true rfl⟩⟩ hz_a0 hk_a0 (by decide) rfl rfl hl.1 rfl (Nat.le_of_ble_eq_true rfl) dX8_sign_61) rfl rfl (fun H locs M57 R58 J56 hS f54 g55 E59 => ?_)
        have eR58 := Fr.nil g55 rfl
        subst eR58
        have p60 := E59
        clear E59
        obtain ⟨x62, k63, h61, q64⟩ := p60
        have k63 : M57 a0 3 = x62 := k63
        refine lv_aload_n hx hb dX8_sign_64 rfl (lv_at hl 4 rfl) ?_
        refine lv_dup hx hb dX8_sign_65 rfl ?_
        have k65 : M57 a0 2 = x10 := ((Fr.kp (k := 2) f54 hk_a0 rfl).trans (Fr.kp (k := 2) f43 hk_a0 rfl)).trans k11
        refine tw_getk hx hb hW hown hK hS f_X8_36_8 hz_a0 hk_a0 (v := x10) k65 dX8_sign_66 ?_
        refine lv_iconst (v := 1) hx hb dX8_sign_69 (by decide) ?_
        refine tw_iadd (lo := 1) (hi := 421) hx hb h13 (iv_c (c := 1) (n := 1) (by decide)) ⟨by decide, by decide⟩ ⟨by decide, by decide⟩ dX8_sign_70 (fun x68 e67 h66 => ?_)
        have e67 : x68.toInt = x10.toInt + 1 := e67
        refine tw_puti hx hb hW hown hK hS f_X8_36_8 hz_a0 hk_a0 rfl rfl (lo := 0) (hi := 1000) rfl (iv_mono h66 (by decide) (by decide)) rfl dX8_sign_71 (fun H locs M71 hS k69 f70 => ?_)
        refine lv_iload_n hx hb dX8_sign_74 rfl (lv_at hl 1 rfl) ?_
        refine lv_if_ne (tgt := 83) hx hb dX8_sign_75 (by decide) (fun h => absurd h (by decide)) (fun _ => ?_)
        refine lv_iload hx hb dX8_sign_78 (lv_at hl 0 rfl) ?_
        refine lv_if_eq (tgt := 96) hx hb dX8_sign_80 (by decide) (fun _ => ?_) (fun h => absurd h (by decide))
        refine lv_iconst (v := 0) hx hb dX8_sign_96 (by decide) ?_
        refine lv_istore (lv' := [(5, .int 0), (4, .int 0), (3, .int 0), (2, .int x10), (1, .int x7), (0, .ref (base + a0))]) hx hb dX8_sign_97 hl (by decide) rfl (fun ls hl => ?_)
        refine lv_iload hx hb dX8_sign_99 (lv_at hl 0 rfl) ?_
        refine lv_if_eq (tgt := 126) hx hb dX8_sign_101 (by decide) (fun _ => ?_) (fun h => absurd h (by decide))
        refine lv_iload_n hx hb dX8_sign_126 rfl (lv_at hl 2 rfl) ?_
        refine lv_if_eq (tgt := 135) hx hb dX8_sign_127 (by decide) (fun _ => ?_) (fun h => absurd h (by decide))
        refine lv_iload hx hb dX8_sign_135 (lv_at hl 1 rfl) ?_
        refine lv_if_eq (tgt := 145) hx hb dX8_sign_137 (by decide) (fun _ => ?_) (fun h => absurd h (by decide))
        refine lv_bipush (v := 8) hx hb dX8_sign_145 (by decide) ?_
        have k72 : M71 a0 3 = x62 := (Fr.kp (k := 3) f70 hk_a0 rfl).trans k63
        have q73 : (x68.toInt ≤ ln.toInt + 1 ∨ x68.toInt ≤ pa.toInt + 1) ∧ (¬ x62.toInt = 0 ∨ x68.toInt ≤ ln.toInt) ∧ (¬ x62.toInt = 0 ∨ fa.toInt = 0) := by
          have := (h_fa).1; have := (h_fa).2; have := (h_ln).1; have := (h_ln).2; have := (h_pa).1; have := (h_pa).2; have := (h13).1; have := (h13).2; have := (h50).1; have := (h50).2; have := (h61).1; have := (h61).2; have := (h66).1; have := (h66).2; omega
        exact tw_endi hx hb hr hlocks hK hT hS hQ (⟨(iv_mono (iv_c (c := 8) (n := 8) (by decide)) (by decide) (by decide)), ⟨x68, x62, k69, k72, (iv_mono h66 (by decide) (by decide)), h61, q73⟩⟩) dX8_sign_147
    · have q74 : x7.toInt = 62 := ti_eq c16
      have h75 : iv 62 62 x7 := ⟨by have := (h_x7).1; have := ((iv_c (c := 62) (n := 62) (by decide))).1; omega, by have := (h_x7).2; have := ((iv_c (c := 62) (n := 62) (by decide))).2; omega⟩
      refine lv_iconst (v := 1) hx hb dX8_sign_28 (by decide) ?_
      refine lv_goto (tgt := 33) hx hb dX8_sign_29 (by decide) ?_
      refine lv_istore (lv' := [(4, .int 1), (3, .int 0), (2, .int x10), (1, .int x7), (0, .ref (base + a0))]) hx hb dX8_sign_33 hl (by decide) rfl (fun ls hl => ?_)
      refine lv_iload_n hx hb dX8_sign_35 rfl (lv_at hl 1 rfl) ?_
      refine lv_if_ne (tgt := 59) hx hb dX8_sign_36 (by decide) (fun h => absurd h (by decide)) (fun _ => ?_)
      refine lv_iload hx hb dX8_sign_39 (lv_at hl 0 rfl) ?_
      refine lv_if_ne (tgt := 59) hx hb dX8_sign_41 (by decide) (fun _ => ?_) (fun h => absurd h (by decide))
      refine lv_aload_n hx hb dX8_sign_59 rfl (lv_at hl 4 rfl) ?_
      refine lv_iload_n hx hb dX8_sign_60 rfl (lv_at hl 2 rfl) ?_
      have k76 : M4 a0 3 = fa := (Fr.kp (k := 3) f1 hk_a0 rfl).trans k_fa
      refine tw_gov hS (md_runV (As := [.int x10]) (rest := []) hx hb hml hown hW hK hT hS.1 (t_X8_weigh l D cy tx base Z K N M4 Ra J3 hS.2.1 a0 hz_a0 hk_a0 x10 (iv_mono h13 (by decide) (by decide)) fa k76 (iv_mono h_fa (by decide) (by decide))) s_X8_88 ⟨rfl, rfl, ⟨Nat.le_of_ble_eq_true rfl, Nat.le_of_ble_eq_true rfl⟩, ⟨Nat.le_of_ble_eq_true rfl, Nat.le_of_ble_eq_true rfl⟩⟩ hz_a0 hk_a0 (by decide) rfl rfl hl.1 rfl (Nat.le_of_ble_eq_true rfl) dX8_sign_61) rfl rfl (fun H locs M80 R81 J79 hS f77 g78 E82 => ?_)
      have eR81 := Fr.nil g78 rfl
      subst eR81
      have p83 := E82
      clear E82
      obtain ⟨x85, k86, h84, q87⟩ := p83
      have k86 : M80 a0 3 = x85 := k86
      refine lv_aload_n hx hb dX8_sign_64 rfl (lv_at hl 4 rfl) ?_
      refine lv_dup hx hb dX8_sign_65 rfl ?_
      have k88 : M80 a0 2 = x10 := (Fr.kp (k := 2) f77 hk_a0 rfl).trans k11
      refine tw_getk hx hb hW hown hK hS f_X8_36_8 hz_a0 hk_a0 (v := x10) k88 dX8_sign_66 ?_
      refine lv_iconst (v := 1) hx hb dX8_sign_69 (by decide) ?_
      refine tw_iadd (lo := 1) (hi := 421) hx hb h13 (iv_c (c := 1) (n := 1) (by decide)) ⟨by decide, by decide⟩ ⟨by decide, by decide⟩ dX8_sign_70 (fun x91 e90 h89 => ?_)
      have e90 : x91.toInt = x10.toInt + 1 := e90
      refine tw_puti hx hb hW hown hK hS f_X8_36_8 hz_a0 hk_a0 rfl rfl (lo := 0) (hi := 1000) rfl (iv_mono h89 (by decide) (by decide)) rfl dX8_sign_71 (fun H locs M94 hS k92 f93 => ?_)
      refine lv_iload_n hx hb dX8_sign_74 rfl (lv_at hl 1 rfl) ?_
      refine lv_if_ne (tgt := 83) hx hb dX8_sign_75 (by decide) (fun h => absurd h (by decide)) (fun _ => ?_)
      refine lv_iload hx hb dX8_sign_78 (lv_at hl 0 rfl) ?_
      refine lv_if_eq (tgt := 96) hx hb dX8_sign_80 (by decide) (fun h => absurd h (by decide)) (fun _ => ?_)
      refine lv_aload_n hx hb dX8_sign_83 rfl (lv_at hl 4 rfl) ?_
      have k95 : M94 a0 1 = ln := ((Fr.kp (k := 1) f93 hk_a0 rfl).trans ((Fr.kp (k := 1) f77 hk_a0 rfl).trans (Fr.kp (k := 1) f1 hk_a0 rfl))).trans k_ln
      refine tw_goi hS (md_runU (As := []) (rest := []) hx hb hml hown hW hK hT hS.1 (t_X10_here l D cy tx base Z K N M94 Ra J79 hS.2.1 a0 hz_a0 hk_a0 tb k_tb ln k95 (iv_mono h_ln (by decide) (by decide)) x91 k92 (iv_mono h89 (by decide) (by decide))) s_X8_91_X8 ⟨rfl, rfl, ⟨Nat.le_of_ble_eq_true rfl, Nat.le_of_ble_eq_true rfl⟩, ⟨Nat.le_of_ble_eq_true rfl, Nat.le_of_ble_eq_true rfl⟩⟩ hz_a0 hk_a0 (by decide) rfl rfl hl.1 rfl (Nat.le_of_ble_eq_true rfl) dX8_sign_84) rfl rfl (fun x102 H locs M99 R100 J98 hS f96 g97 E101 => ?_)
      have eM99 := Fr.nil f96 rfl
      subst eM99
      have eR100 := Fr.nil g97 rfl
      subst eR100
      obtain ⟨h_x102, p103⟩ := E101
      refine lv_bipush (v := 61) hx hb dX8_sign_87 (by decide) ?_
      refine lv_icmp_ne (tgt := 96) hx hb dX8_sign_89 (by decide) (fun c104 => ?_) (fun c104 => ?_)
      · have q105 : ¬ x102.toInt = 61 := ti_ne c104
        refine lv_iconst (v := 0) hx hb dX8_sign_96 (by decide) ?_
        refine lv_istore (lv' := [(5, .int 0), (4, .int 1), (3, .int 0), (2, .int x10), (1, .int x7), (0, .ref (base + a0))]) hx hb dX8_sign_97 hl (by decide) rfl (fun ls hl => ?_)
        refine lv_iload hx hb dX8_sign_99 (lv_at hl 0 rfl) ?_
        refine lv_if_eq (tgt := 126) hx hb dX8_sign_101 (by decide) (fun _ => ?_) (fun h => absurd h (by decide))
        refine lv_iload_n hx hb dX8_sign_126 rfl (lv_at hl 2 rfl) ?_
        refine lv_if_eq (tgt := 135) hx hb dX8_sign_127 (by decide) (fun _ => ?_) (fun h => absurd h (by decide))
        refine lv_iload hx hb dX8_sign_135 (lv_at hl 1 rfl) ?_
        refine lv_if_eq (tgt := 145) hx hb dX8_sign_137 (by decide) (fun h => absurd h (by decide)) (fun _ => ?_)
        refine lv_bipush (v := 10) hx hb dX8_sign_140 (by decide) ?_
        refine lv_goto (tgt := 147) hx hb dX8_sign_142 (by decide) ?_
        have k106 : M94 a0 3 = x85 := (Fr.kp (k := 3) f93 hk_a0 rfl).trans k86
        have q107 : (x91.toInt ≤ ln.toInt + 1 ∨ x91.toInt ≤ pa.toInt + 1) ∧ (¬ x85.toInt = 0 ∨ x91.toInt ≤ ln.toInt) ∧ (¬ x85.toInt = 0 ∨ fa.toInt = 0) := by
          have := (h_fa).1; have := (h_fa).2; have := (h_ln).1; have := (h_ln).2; have := (h_pa).1; have := (h_pa).2; have := (h13).1; have := (h13).2; have := (h_x102).1; have := (h_x102).2; have := (h84).1; have := (h84).2; have := (h89).1; have := (h89).2; omega
        exact tw_endi hx hb hr hlocks hK hT hS hQ (⟨(iv_mono (iv_c (c := 10) (n := 10) (by decide)) (by decide) (by decide)), ⟨x91, x85, k92, k106, (iv_mono h89 (by decide) (by decide)), h84, q107⟩⟩) dX8_sign_147
      · have q108 : x102.toInt = 61 := ti_eq c104
        have h109 : iv 61 61 x102 := ⟨by have := (h_x102).1; have := ((iv_c (c := 61) (n := 61) (by decide))).1; omega, by have := (h_x102).2; have := ((iv_c (c := 61) (n := 61) (by decide))).2; omega⟩
        refine lv_iconst (v := 1) hx hb dX8_sign_92 (by decide) ?_
        refine lv_goto (tgt := 97) hx hb dX8_sign_93 (by decide) ?_
        refine lv_istore (lv' := [(5, .int 1), (4, .int 1), (3, .int 0), (2, .int x10), (1, .int x7), (0, .ref (base + a0))]) hx hb dX8_sign_97 hl (by decide) rfl (fun ls hl => ?_)
        refine lv_iload hx hb dX8_sign_99 (lv_at hl 0 rfl) ?_
        refine lv_if_eq (tgt := 126) hx hb dX8_sign_101 (by decide) (fun h => absurd h (by decide)) (fun _ => ?_)
        refine lv_aload_n hx hb dX8_sign_104 rfl (lv_at hl 5 rfl) ?_
        refine lv_dup hx hb dX8_sign_105 rfl ?_
        refine tw_getk hx hb hW hown hK hS f_X8_36_8 hz_a0 hk_a0 (v := x91) k92 dX8_sign_106 ?_
        refine lv_iconst (v := 1) hx hb dX8_sign_109 (by decide) ?_
        refine tw_iadd (lo := 2) (hi := 422) hx hb h89 (iv_c (c := 1) (n := 1) (by decide)) ⟨by decide, by decide⟩ ⟨by decide, by decide⟩ dX8_sign_110 (fun x112 e111 h110 => ?_)
        have e111 : x112.toInt = x91.toInt + 1 := e111
        refine tw_puti hx hb hW hown hK hS f_X8_36_8 hz_a0 hk_a0 rfl rfl (lo := 0) (hi := 1000) rfl (iv_mono h110 (by decide) (by decide)) rfl dX8_sign_111 (fun H locs M115 hS k113 f114 => ?_)
        refine lv_iload_n hx hb dX8_sign_114 rfl (lv_at hl 2 rfl) ?_
        refine lv_if_eq (tgt := 123) hx hb dX8_sign_115 (by decide) (fun _ => ?_) (fun h => absurd h (by decide))
        refine lv_bipush (v := 9) hx hb dX8_sign_123 (by decide) ?_
        have h116 : iv 0 421 x112 := by
          have := (h_fa).1; have := (h_fa).2; have := (h_ln).1; have := (h_ln).2; have := (h_pa).1; have := (h_pa).2; have := (h13).1; have := (h13).2; have := (h109).1; have := (h109).2; have := (h110).1; have := (h110).2; have := (h89).1; have := (h89).2; exact ⟨by omega, by omega⟩
        have k117 : M115 a0 3 = x85 := ((Fr.kp (k := 3) f114 hk_a0 rfl).trans (Fr.kp (k := 3) f93 hk_a0 rfl)).trans k86
        have q118 : (x112.toInt ≤ ln.toInt + 1 ∨ x112.toInt ≤ pa.toInt + 1) ∧ (¬ x85.toInt = 0 ∨ x112.toInt ≤ ln.toInt) ∧ (¬ x85.toInt = 0 ∨ fa.toInt = 0) := by
          have := (h_fa).1; have := (h_fa).2; have := (h_ln).1; have := (h_ln).2; have := (h_pa).1; have := (h_pa).2; have := (h13).1; have := (h13).2; have := (h109).1; have := (h109).2; have := (h110).1; have := (h110).2; have := (h84).1; have := (h84).2; have := (h89).1; have := (h89).2; omega
        exact tw_endi hx hb hr hlocks hK hT hS hQ (⟨(iv_mono (iv_c (c := 9) (n := 9) (by decide)) (by decide) (by decide)), ⟨x112, x85, k113, k117, h116, h84, q118⟩⟩) dX8_sign_125
  · have q119 : x7.toInt = 60 := ti_eq c14
    have h120 : iv 60 60 x7 := ⟨by have := (h_x7).1; have := ((iv_c (c := 60) (n := 60) (by decide))).1; omega, by have := (h_x7).2; have := ((iv_c (c := 60) (n := 60) (by decide))).2; omega⟩
    refine lv_iconst (v := 1) hx hb dX8_sign_16 (by decide) ?_
    refine lv_goto (tgt := 21) hx hb dX8_sign_17 (by decide) ?_
    refine lv_istore_n (lv' := [(3, .int 1), (2, .int x10), (1, .int x7), (0, .ref (base + a0))]) hx hb dX8_sign_21 rfl hl (by decide) rfl (fun ls hl => ?_)
    refine lv_iload_n hx hb dX8_sign_22 rfl (lv_at hl 2 rfl) ?_
    refine lv_bipush (v := 62) hx hb dX8_sign_23 (by decide) ?_
    refine lv_icmp_ne (tgt := 32) hx hb dX8_sign_25 (by decide) (fun c121 => ?_) (fun c121 => False.elim (by have q : x7.toInt = 62 := ti_eq c121; have := (h120).1; have := (h120).2; omega))
    have q122 : ¬ x7.toInt = 62 := ti_ne c121
    refine lv_iconst (v := 0) hx hb dX8_sign_32 (by decide) ?_
    refine lv_istore (lv' := [(4, .int 0), (3, .int 1), (2, .int x10), (1, .int x7), (0, .ref (base + a0))]) hx hb dX8_sign_33 hl (by decide) rfl (fun ls hl => ?_)
    refine lv_iload_n hx hb dX8_sign_35 rfl (lv_at hl 1 rfl) ?_
    refine lv_if_ne (tgt := 59) hx hb dX8_sign_36 (by decide) (fun _ => ?_) (fun h => absurd h (by decide))
    refine lv_aload_n hx hb dX8_sign_59 rfl (lv_at hl 4 rfl) ?_
    refine lv_iload_n hx hb dX8_sign_60 rfl (lv_at hl 2 rfl) ?_
    have k123 : M4 a0 3 = fa := (Fr.kp (k := 3) f1 hk_a0 rfl).trans k_fa
    refine tw_gov hS (md_runV (As := [.int x10]) (rest := []) hx hb hml hown hW hK hT hS.1 (t_X8_weigh l D cy tx base Z K N M4 Ra J3 hS.2.1 a0 hz_a0 hk_a0 x10 (iv_mono h13 (by decide) (by decide)) fa k123 (iv_mono h_fa (by decide) (by decide))) s_X8_88 ⟨rfl, rfl, ⟨Nat.le_of_ble_eq_true rfl, Nat.le_of_ble_eq_true rfl⟩, ⟨Nat.le_of_ble_eq_true rfl, Nat.le_of_ble_eq_true rfl⟩⟩ hz_a0 hk_a0 (by decide) rfl rfl hl.1 rfl (Nat.le_of_ble_eq_true rfl) dX8_sign_61) rfl rfl (fun H locs M127 R128 J126 hS f124 g125 E129 => ?_)
    have eR128 := Fr.nil g125 rfl
    subst eR128
    have p130 := E129
    clear E129
    obtain ⟨x132, k133, h131, q134⟩ := p130
    have k133 : M127 a0 3 = x132 := k133
    refine lv_aload_n hx hb dX8_sign_64 rfl (lv_at hl 4 rfl) ?_
    refine lv_dup hx hb dX8_sign_65 rfl ?_
    have k135 : M127 a0 2 = x10 := (Fr.kp (k := 2) f124 hk_a0 rfl).trans k11
    refine tw_getk hx hb hW hown hK hS f_X8_36_8 hz_a0 hk_a0 (v := x10) k135 dX8_sign_66 ?_
    refine lv_iconst (v := 1) hx hb dX8_sign_69 (by decide) ?_
    refine tw_iadd (lo := 1) (hi := 421) hx hb h13 (iv_c (c := 1) (n := 1) (by decide)) ⟨by decide, by decide⟩ ⟨by decide, by decide⟩ dX8_sign_70 (fun x138 e137 h136 => ?_)
    have e137 : x138.toInt = x10.toInt + 1 := e137
    refine tw_puti hx hb hW hown hK hS f_X8_36_8 hz_a0 hk_a0 rfl rfl (lo := 0) (hi := 1000) rfl (iv_mono h136 (by decide) (by decide)) rfl dX8_sign_71 (fun H locs M141 hS k139 f140 => ?_)
    refine lv_iload_n hx hb dX8_sign_74 rfl (lv_at hl 1 rfl) ?_
    refine lv_if_ne (tgt := 83) hx hb dX8_sign_75 (by decide) (fun _ => ?_) (fun h => absurd h (by decide))
    refine lv_aload_n hx hb dX8_sign_83 rfl (lv_at hl 4 rfl) ?_
    have k142 : M141 a0 1 = ln := ((Fr.kp (k := 1) f140 hk_a0 rfl).trans ((Fr.kp (k := 1) f124 hk_a0 rfl).trans (Fr.kp (k := 1) f1 hk_a0 rfl))).trans k_ln
    refine tw_goi hS (md_runU (As := []) (rest := []) hx hb hml hown hW hK hT hS.1 (t_X10_here l D cy tx base Z K N M141 Ra J126 hS.2.1 a0 hz_a0 hk_a0 tb k_tb ln k142 (iv_mono h_ln (by decide) (by decide)) x138 k139 (iv_mono h136 (by decide) (by decide))) s_X8_91_X8 ⟨rfl, rfl, ⟨Nat.le_of_ble_eq_true rfl, Nat.le_of_ble_eq_true rfl⟩, ⟨Nat.le_of_ble_eq_true rfl, Nat.le_of_ble_eq_true rfl⟩⟩ hz_a0 hk_a0 (by decide) rfl rfl hl.1 rfl (Nat.le_of_ble_eq_true rfl) dX8_sign_84) rfl rfl (fun x149 H locs M146 R147 J145 hS f143 g144 E148 => ?_)
    have eM146 := Fr.nil f143 rfl
    subst eM146
    have eR147 := Fr.nil g144 rfl
    subst eR147
    obtain ⟨h_x149, p150⟩ := E148
    refine lv_bipush (v := 61) hx hb dX8_sign_87 (by decide) ?_
    refine lv_icmp_ne (tgt := 96) hx hb dX8_sign_89 (by decide) (fun c151 => ?_) (fun c151 => ?_)
    · have q152 : ¬ x149.toInt = 61 := ti_ne c151
      refine lv_iconst (v := 0) hx hb dX8_sign_96 (by decide) ?_
      refine lv_istore (lv' := [(5, .int 0), (4, .int 0), (3, .int 1), (2, .int x10), (1, .int x7), (0, .ref (base + a0))]) hx hb dX8_sign_97 hl (by decide) rfl (fun ls hl => ?_)
      refine lv_iload hx hb dX8_sign_99 (lv_at hl 0 rfl) ?_
      refine lv_if_eq (tgt := 126) hx hb dX8_sign_101 (by decide) (fun _ => ?_) (fun h => absurd h (by decide))
      refine lv_iload_n hx hb dX8_sign_126 rfl (lv_at hl 2 rfl) ?_
      refine lv_if_eq (tgt := 135) hx hb dX8_sign_127 (by decide) (fun h => absurd h (by decide)) (fun _ => ?_)
      refine lv_bipush (v := 6) hx hb dX8_sign_130 (by decide) ?_
      refine lv_goto (tgt := 147) hx hb dX8_sign_132 (by decide) ?_
      have k153 : M141 a0 3 = x132 := (Fr.kp (k := 3) f140 hk_a0 rfl).trans k133
      have q154 : (x138.toInt ≤ ln.toInt + 1 ∨ x138.toInt ≤ pa.toInt + 1) ∧ (¬ x132.toInt = 0 ∨ x138.toInt ≤ ln.toInt) ∧ (¬ x132.toInt = 0 ∨ fa.toInt = 0) := by
        have := (h_fa).1; have := (h_fa).2; have := (h_ln).1; have := (h_ln).2; have := (h_pa).1; have := (h_pa).2; have := (h13).1; have := (h13).2; have := (h131).1; have := (h131).2; have := (h136).1; have := (h136).2; have := (h_x149).1; have := (h_x149).2; omega
      exact tw_endi hx hb hr hlocks hK hT hS hQ (⟨(iv_mono (iv_c (c := 6) (n := 6) (by decide)) (by decide) (by decide)), ⟨x138, x132, k139, k153, (iv_mono h136 (by decide) (by decide)), h131, q154⟩⟩) dX8_sign_147
    · have q155 : x149.toInt = 61 := ti_eq c151
      have h156 : iv 61 61 x149 := ⟨by have := (h_x149).1; have := ((iv_c (c := 61) (n := 61) (by decide))).1; omega, by have := (h_x149).2; have := ((iv_c (c := 61) (n := 61) (by decide))).2; omega⟩
      refine lv_iconst (v := 1) hx hb dX8_sign_92 (by decide) ?_
      refine lv_goto (tgt := 97) hx hb dX8_sign_93 (by decide) ?_
      refine lv_istore (lv' := [(5, .int 1), (4, .int 0), (3, .int 1), (2, .int x10), (1, .int x7), (0, .ref (base + a0))]) hx hb dX8_sign_97 hl (by decide) rfl (fun ls hl => ?_)
      refine lv_iload hx hb dX8_sign_99 (lv_at hl 0 rfl) ?_
      refine lv_if_eq (tgt := 126) hx hb dX8_sign_101 (by decide) (fun h => absurd h (by decide)) (fun _ => ?_)
      refine lv_aload_n hx hb dX8_sign_104 rfl (lv_at hl 5 rfl) ?_
      refine lv_dup hx hb dX8_sign_105 rfl ?_
      refine tw_getk hx hb hW hown hK hS f_X8_36_8 hz_a0 hk_a0 (v := x138) k139 dX8_sign_106 ?_
      refine lv_iconst (v := 1) hx hb dX8_sign_109 (by decide) ?_
      refine tw_iadd (lo := 2) (hi := 422) hx hb h136 (iv_c (c := 1) (n := 1) (by decide)) ⟨by decide, by decide⟩ ⟨by decide, by decide⟩ dX8_sign_110 (fun x159 e158 h157 => ?_)
      have e158 : x159.toInt = x138.toInt + 1 := e158
      refine tw_puti hx hb hW hown hK hS f_X8_36_8 hz_a0 hk_a0 rfl rfl (lo := 0) (hi := 1000) rfl (iv_mono h157 (by decide) (by decide)) rfl dX8_sign_111 (fun H locs M162 hS k160 f161 => ?_)
      refine lv_iload_n hx hb dX8_sign_114 rfl (lv_at hl 2 rfl) ?_
      refine lv_if_eq (tgt := 123) hx hb dX8_sign_115 (by decide) (fun h => absurd h (by decide)) (fun _ => ?_)
      refine lv_bipush (v := 7) hx hb dX8_sign_118 (by decide) ?_
      refine lv_goto (tgt := 125) hx hb dX8_sign_120 (by decide) ?_
      have h163 : iv 0 421 x159 := by
        have := (h_fa).1; have := (h_fa).2; have := (h_ln).1; have := (h_ln).2; have := (h_pa).1; have := (h_pa).2; have := (h13).1; have := (h13).2; have := (h136).1; have := (h136).2; have := (h156).1; have := (h156).2; have := (h157).1; have := (h157).2; exact ⟨by omega, by omega⟩
      have k164 : M162 a0 3 = x132 := ((Fr.kp (k := 3) f161 hk_a0 rfl).trans (Fr.kp (k := 3) f140 hk_a0 rfl)).trans k133
      have q165 : (x159.toInt ≤ ln.toInt + 1 ∨ x159.toInt ≤ pa.toInt + 1) ∧ (¬ x132.toInt = 0 ∨ x159.toInt ≤ ln.toInt) ∧ (¬ x132.toInt = 0 ∨ fa.toInt = 0) := by
        have := (h_fa).1; have := (h_fa).2; have := (h_ln).1; have := (h_ln).2; have := (h_pa).1; have := (h_pa).2; have := (h13).1; have := (h13).2; have := (h131).1; have := (h131).2; have := (h136).1; have := (h136).2; have := (h156).1; have := (h156).2; have := (h157).1; have := (h157).2; omega
      exact tw_endi hx hb hr hlocks hK hT hS hQ (⟨(iv_mono (iv_c (c := 7) (n := 7) (by decide)) (by decide) (by decide)), ⟨x159, x132, k160, k164, h163, h131, q165⟩⟩) dX8_sign_125
def Lt_X8_value : WL := [(9, 2, 5), (9, 6, 8), (14, 0, 2000000)]
def LRt_X8_value : WL := []
set_option maxRecDepth 100000 in
set_option maxHeartbeats 4000000 in
theorem t_X8_value (l : Launch) (D : va_G) (cy : Nat → ClassId) (tx : (Nat → Nat) × (Nat → Nat)) (base Z : Nat) (K N : Nat → Nat) (Ma : MT) (Ra : RT) (Ja : JT) (hTy : Ty Z K N Ma Ra) (a0 : Nat) (hz_a0 : a0 < Z) (hk_a0 : K a0 = 9) (tb : Nat) (k_tb : Ra a0 0 = some tb) (ln : Int32) (k_ln : Ma a0 1 = ln) (h_ln : iv 0 400 ln) (pa : Int32) (k_pa : Ma a0 2 = pa) (h_pa : iv 0 420 pa) (fa : Int32) (k_fa : Ma a0 3 = fa) (h_fa : iv (-2147483648) 2147483647 fa) (hg : ¬ fa.toInt = 0 ∨ pa.toInt ≤ ln.toInt) : Met l yX8_value [Cond.code yX8_value cX8_value 3 none] (md_rm 7 0 0) (va_Pc [.ref (base + a0)] (md_U D cy tx base Z K N Ma Ra Ja)) (mQv D cy tx base (fun u => TP Z K N Lt_X8_value LRt_X8_value Ma Ra u ∧ ((∃ x0 x1 : Int32, u.2.2.2.1 a0 2 = x0 ∧ u.2.2.2.1 a0 3 = x1 ∧ iv 0 420 x0 ∧ iv (-2147483648) 2147483647 x1 ∧ ((x0.toInt ≤ ln.toInt ∨ x0.toInt ≤ pa.toInt) ∧ (¬ x1.toInt = 0 ∨ x0.toInt ≤ ln.toInt) ∧ (¬ x1.toInt = 0 ∨ fa.toInt = 0)))))) 0 0 (fun q => base ≤ q) := by
  refine tw_ofW (L := Lt_X8_value) (LR := LRt_X8_value) (by decide) (Nat.le_of_ble_eq_true rfl) hTy ?_
  intro p e s m args below meth c Q ls hx hb hr hlocks hown hml hW hK hT hS hQ hl
  have hl : lv_has ls 3 [(0, .ref (base + a0))] := hl
  obtain ⟨hz_tb, hk_tb, hn_tb⟩ := hTy.refn hz_a0 hk_a0 (show rtR 9 0 = (13, 400, 1) from rfl) k_tb
  have hn_tb := hn_tb (by decide)
  refine lv_aload_n hx hb dX8_value_0 rfl (lv_at hl 0 rfl) ?_
  refine tw_goi hS (md_runU (As := []) (rest := []) hx hb hml hown hW hK hT hS.1 (t_X10_hereBehindBlanks l D cy tx base Z K N Ma Ra Ja hS.2.1 a0 hz_a0 hk_a0 tb k_tb ln k_ln (iv_mono h_ln (by decide) (by decide)) pa k_pa (iv_mono h_pa (by decide) (by decide))) s_X8_26_X8 ⟨rfl, rfl, ⟨Nat.le_of_ble_eq_true rfl, Nat.le_of_ble_eq_true rfl⟩, ⟨Nat.le_of_ble_eq_true rfl, Nat.le_of_ble_eq_true rfl⟩⟩ hz_a0 hk_a0 (by decide) rfl rfl hl.1 rfl (Nat.le_of_ble_eq_true rfl) dX8_value_1) rfl rfl (fun x7 H locs M4 R5 J3 hS f1 g2 E6 => ?_)
  have eR5 := Fr.nil g2 rfl
  subst eR5
  obtain ⟨h_x7, p8⟩ := E6
  obtain ⟨x10, k11, h9, q12⟩ := p8
  have k11 : M4 a0 2 = x10 := k11
  have h13 : iv 0 420 x10 := by
    have := (h_fa).1; have := (h_fa).2; have := (h_ln).1; have := (h_ln).2; have := (h_pa).1; have := (h_pa).2; have := (h9).1; have := (h9).2; exact ⟨by omega, by omega⟩
  refine lv_pop hx hb dX8_value_4 rfl ?_
  refine lv_aload_n hx hb dX8_value_5 rfl (lv_at hl 0 rfl) ?_
  refine tw_getk hx hb hW hown hK hS f_X8_36_8 hz_a0 hk_a0 (v := x10) k11 dX8_value_6 ?_
  refine lv_istore_n (lv' := [(1, .int x10), (0, .ref (base + a0))]) hx hb dX8_value_9 rfl hl (by decide) rfl (fun ls hl => ?_)
  refine lv_aload_n hx hb dX8_value_10 rfl (lv_at hl 1 rfl) ?_
  have k14 : M4 a0 1 = ln := (Fr.kp (k := 1) f1 hk_a0 rfl).trans k_ln
  refine tw_goi hS (md_runU (As := []) (rest := []) hx hb hml hown hW hK hT hS.1 (t_X10_isDigitHere l D cy tx base Z K N M4 Ra J3 hS.2.1 a0 hz_a0 hk_a0 tb k_tb ln k14 (iv_mono h_ln (by decide) (by decide)) x10 k11 (iv_mono h13 (by decide) (by decide))) s_X8_97_X8 ⟨rfl, rfl, ⟨Nat.le_of_ble_eq_true rfl, Nat.le_of_ble_eq_true rfl⟩, ⟨Nat.le_of_ble_eq_true rfl, Nat.le_of_ble_eq_true rfl⟩⟩ hz_a0 hk_a0 (by decide) rfl rfl hl.1 rfl (Nat.le_of_ble_eq_true rfl) dX8_value_11) rfl rfl (fun x21 H locs M18 R19 J17 hS f15 g16 E20 => ?_)
  have eM18 := Fr.nil f15 rfl
  subst eM18
  have eR19 := Fr.nil g16 rfl
  subst eR19
  obtain ⟨h_x21, p22⟩ := E20
  refine lv_if_eq (tgt := 33) hx hb dX8_value_14 (by decide) (fun c23 => ?_) (fun c23 => ?_)
  · have q24 : x21.toInt = 0 := ti_eq c23
    have h25 : iv 0 0 x21 := ⟨by have := (h_x21).1; have := ((iv_c (c := 0) (n := 0) (by decide))).1; omega, by have := (h_x21).2; have := ((iv_c (c := 0) (n := 0) (by decide))).2; omega⟩
    refine lv_aload_n hx hb dX8_value_33 rfl (lv_at hl 1 rfl) ?_
    refine va_ldcS hx hb hown hT.2.1.2.1 dX8_value_34 ?_
    have k26 : M4 a0 1 = ln := (Fr.kp (k := 1) f1 hk_a0 rfl).trans k_ln
    refine tw_goi hS (md_runU (As := [.ref (tx.1 1)]) (rest := []) hx hb hml hown hW hK hT hS.1 (t_X10_whichWord l D cy tx base Z K N M4 Ra J17 hS.2.1 a0 hz_a0 hk_a0 1 (by decide) tb k_tb ln k26 (iv_mono h_ln (by decide) (by decide)) x10 k11 (iv_mono h13 (by decide) (by decide))) s_X8_32_X8 ⟨rfl, rfl, ⟨Nat.le_of_ble_eq_true rfl, Nat.le_of_ble_eq_true rfl⟩, ⟨Nat.le_of_ble_eq_true rfl, Nat.le_of_ble_eq_true rfl⟩⟩ hz_a0 hk_a0 (by decide) rfl rfl hl.1 rfl (Nat.le_of_ble_eq_true rfl) dX8_value_36) rfl rfl (fun x33 H locs M30 R31 J29 hS f27 g28 E32 => ?_)
    have eR31 := Fr.nil g28 rfl
    subst eR31
    obtain ⟨h_x33, p34⟩ := E32
    obtain ⟨x36, k37, h35, q38⟩ := p34
    have k37 : M30 a0 4 = x36 := k37
    have h39 : iv 0 420 x36 := by
      have := (h_fa).1; have := (h_fa).2; have := (h_ln).1; have := (h_ln).2; have := (h_pa).1; have := (h_pa).2; have := (h13).1; have := (h13).2; have := (h35).1; have := (h35).2; exact ⟨by omega, by omega⟩
    refine lv_istore_n (lv' := [(2, .int x33), (1, .int x10), (0, .ref (base + a0))]) hx hb dX8_value_39 rfl hl (by decide) rfl (fun ls hl => ?_)
    refine lv_iload_n hx hb dX8_value_40 rfl (lv_at hl 0 rfl) ?_
    refine lv_iconst (v := (-1)) hx hb dX8_value_41 (by decide) ?_
    refine lv_icmp_ne (tgt := 54) hx hb dX8_value_42 (by decide) (fun c40 => ?_) (fun c40 => ?_)
    · have q41 : ¬ x33.toInt = (-1) := ti_ne c40
      refine lv_aload_n hx hb dX8_value_54 rfl (lv_at hl 2 rfl) ?_
      refine tw_gov hS (md_runU (As := []) (rest := []) hx hb hml hown hW hK hT hS.1 (t_X10_passWord l D cy tx base Z K N M30 Ra J29 hS.2.1 a0 hz_a0 hk_a0 x36 k37 (iv_mono h39 (by decide) (by decide))) s_X8_43_X8 ⟨rfl, rfl, ⟨Nat.le_of_ble_eq_true rfl, Nat.le_of_ble_eq_true rfl⟩, ⟨Nat.le_of_ble_eq_true rfl, Nat.le_of_ble_eq_true rfl⟩⟩ hz_a0 hk_a0 (by decide) rfl rfl hl.1 rfl (Nat.le_of_ble_eq_true rfl) dX8_value_55) rfl rfl (fun H locs M45 R46 J44 hS f42 g43 E47 => ?_)
      have eR46 := Fr.nil g43 rfl
      subst eR46
      have p48 := E47
      clear E47
      have k49 : M45 a0 2 = x36 := p48
      refine lv_aload_n hx hb dX8_value_58 rfl (lv_at hl 2 rfl) ?_
      refine lv_iconst (v := 1) hx hb dX8_value_59 (by decide) ?_
      refine lv_iload_n hx hb dX8_value_60 rfl (lv_at hl 0 rfl) ?_
      refine tw_goi hS (md_runV (As := [.int 1, .int x33]) (rest := []) hx hb hml hown hW hK hT hS.1 (t_X8_put l D cy tx base Z K N M45 Ra J44 hS.2.1 a0 hz_a0 hk_a0 1 (iv_mono (iv_c (c := 1) (n := 1) (by decide)) (by decide) (by decide)) x33 h_x33) s_X8_54 ⟨rfl, rfl, ⟨Nat.le_of_ble_eq_true rfl, Nat.le_of_ble_eq_true rfl⟩, ⟨Nat.le_of_ble_eq_true rfl, Nat.le_of_ble_eq_true rfl⟩⟩ hz_a0 hk_a0 (by decide) rfl rfl hl.1 rfl (Nat.le_of_ble_eq_true rfl) dX8_value_61) rfl rfl (fun x56 H locs M53 R54 J52 hS f50 g51 E55 => ?_)
      have eR54 := Fr.nil g51 rfl
      subst eR54
      have h_x56 := E55
      clear E55
      refine lv_pop hx hb dX8_value_64 rfl ?_
      refine lv_aload_n hx hb dX8_value_65 rfl (lv_at hl 2 rfl) ?_
      refine lv_iload_n hx hb dX8_value_66 rfl (lv_at hl 1 rfl) ?_
      have k57 : M53 a0 3 = fa := ((Fr.kp (k := 3) f50 hk_a0 rfl).trans ((Fr.kp (k := 3) f42 hk_a0 rfl).trans ((Fr.kp (k := 3) f27 hk_a0 rfl).trans (Fr.kp (k := 3) f1 hk_a0 rfl)))).trans k_fa
      refine tw_gov hS (md_runV (As := [.int x10]) (rest := []) hx hb hml hown hW hK hT hS.1 (t_X8_weigh l D cy tx base Z K N M53 Ra J52 hS.2.1 a0 hz_a0 hk_a0 x10 (iv_mono h13 (by decide) (by decide)) fa k57 (iv_mono h_fa (by decide) (by decide))) s_X8_88 ⟨rfl, rfl, ⟨Nat.le_of_ble_eq_true rfl, Nat.le_of_ble_eq_true rfl⟩, ⟨Nat.le_of_ble_eq_true rfl, Nat.le_of_ble_eq_true rfl⟩⟩ hz_a0 hk_a0 (by decide) rfl rfl hl.1 rfl (Nat.le_of_ble_eq_true rfl) dX8_value_67) rfl rfl (fun H locs M61 R62 J60 hS f58 g59 E63 => ?_)
      have eR62 := Fr.nil g59 rfl
      subst eR62
      have p64 := E63
      clear E63
      obtain ⟨x66, k67, h65, q68⟩ := p64
      have k67 : M61 a0 3 = x66 := k67
      have k69 : M61 a0 2 = x36 := ((Fr.kp (k := 2) f58 hk_a0 rfl).trans (Fr.kp (k := 2) f50 hk_a0 rfl)).trans k49
      have q70 : (x36.toInt ≤ ln.toInt ∨ x36.toInt ≤ pa.toInt) ∧ (¬ x66.toInt = 0 ∨ x36.toInt ≤ ln.toInt) ∧ (¬ x66.toInt = 0 ∨ fa.toInt = 0) := by
        have := (h_fa).1; have := (h_fa).2; have := (h_ln).1; have := (h_ln).2; have := (h_pa).1; have := (h_pa).2; have := (h13).1; have := (h13).2; have := (h39).1; have := (h39).2; have := (h65).1; have := (h65).2; omega
      exact tw_endv hx hb hr hlocks hK hT hS hQ (⟨x36, x66, k69, k67, h39, h65, q70⟩) dX8_value_70
    · have q71 : x33.toInt = (-1) := ti_eq c40
      have h72 : iv (-1) (-1) x33 := ⟨by have := (h_x33).1; have := ((iv_c (c := (-1)) (n := (-1)) (by decide))).1; omega, by have := (h_x33).2; have := ((iv_c (c := (-1)) (n := (-1)) (by decide))).2; omega⟩
      refine lv_aload_n hx hb dX8_value_45 rfl (lv_at hl 2 rfl) ?_
      refine lv_aload_n hx hb dX8_value_46 rfl (lv_at hl 2 rfl) ?_
      have k73 : M30 a0 2 = x10 := (Fr.kp (k := 2) f27 hk_a0 rfl).trans k11
      refine tw_getk hx hb hW hown hK hS f_X8_36_8 hz_a0 hk_a0 (v := x10) k73 dX8_value_47 ?_
      refine lv_iconst (v := 0) hx hb dX8_value_50 (by decide) ?_
      refine tw_gov hS (md_runU (As := [.int x10, .int 0]) (rest := []) hx hb hml hown hW hK hT hS.1 (t_X10_fail l D cy tx base Z K N M30 Ra J29 hS.2.1 a0 hz_a0 hk_a0 x10 (iv_mono h13 (by decide) (by decide)) 0 (iv_mono (iv_c (c := 0) (n := 0) (by decide)) (by decide) (by decide))) s_X8_39_X8 ⟨rfl, rfl, ⟨Nat.le_of_ble_eq_true rfl, Nat.le_of_ble_eq_true rfl⟩, ⟨Nat.le_of_ble_eq_true rfl, Nat.le_of_ble_eq_true rfl⟩⟩ hz_a0 hk_a0 (by decide) rfl rfl hl.1 rfl (Nat.le_of_ble_eq_true rfl) dX8_value_51) rfl rfl (fun H locs M77 R78 J76 hS f74 g75 E79 => ?_)
      have eR78 := Fr.nil g75 rfl
      subst eR78
      have p80 := E79
      clear E79
      obtain ⟨x82, k83, h81, q84⟩ := p80
      have k83 : M77 a0 3 = x82 := k83
      refine lv_aload_n hx hb dX8_value_54 rfl (lv_at hl 2 rfl) ?_
      have k85 : M77 a0 4 = x36 := (Fr.kp (k := 4) f74 hk_a0 rfl).trans k37
      refine tw_gov hS (md_runU (As := []) (rest := []) hx hb hml hown hW hK hT hS.1 (t_X10_passWord l D cy tx base Z K N M77 Ra J76 hS.2.1 a0 hz_a0 hk_a0 x36 k85 (iv_mono h39 (by decide) (by decide))) s_X8_43_X8 ⟨rfl, rfl, ⟨Nat.le_of_ble_eq_true rfl, Nat.le_of_ble_eq_true rfl⟩, ⟨Nat.le_of_ble_eq_true rfl, Nat.le_of_ble_eq_true rfl⟩⟩ hz_a0 hk_a0 (by decide) rfl rfl hl.1 rfl (Nat.le_of_ble_eq_true rfl) dX8_value_55) rfl rfl (fun H locs M89 R90 J88 hS f86 g87 E91 => ?_)
      have eR90 := Fr.nil g87 rfl
      subst eR90
      have p92 := E91
      clear E91
      have k93 : M89 a0 2 = x36 := p92
      refine lv_aload_n hx hb dX8_value_58 rfl (lv_at hl 2 rfl) ?_
      refine lv_iconst (v := 1) hx hb dX8_value_59 (by decide) ?_
      refine lv_iload_n hx hb dX8_value_60 rfl (lv_at hl 0 rfl) ?_
      refine tw_goi hS (md_runV (As := [.int 1, .int x33]) (rest := []) hx hb hml hown hW hK hT hS.1 (t_X8_put l D cy tx base Z K N M89 Ra J88 hS.2.1 a0 hz_a0 hk_a0 1 (iv_mono (iv_c (c := 1) (n := 1) (by decide)) (by decide) (by decide)) x33 (iv_mono h72 (by decide) (by decide))) s_X8_54 ⟨rfl, rfl, ⟨Nat.le_of_ble_eq_true rfl, Nat.le_of_ble_eq_true rfl⟩, ⟨Nat.le_of_ble_eq_true rfl, Nat.le_of_ble_eq_true rfl⟩⟩ hz_a0 hk_a0 (by decide) rfl rfl hl.1 rfl (Nat.le_of_ble_eq_true rfl) dX8_value_61) rfl rfl (fun x100 H locs M97 R98 J96 hS f94 g95 E99 => ?_)
      have eR98 := Fr.nil g95 rfl
      subst eR98
      have h_x100 := E99
      clear E99
      refine lv_pop hx hb dX8_value_64 rfl ?_
      refine lv_aload_n hx hb dX8_value_65 rfl (lv_at hl 2 rfl) ?_
      refine lv_iload_n hx hb dX8_value_66 rfl (lv_at hl 1 rfl) ?_
      have k101 : M97 a0 3 = x82 := ((Fr.kp (k := 3) f94 hk_a0 rfl).trans (Fr.kp (k := 3) f86 hk_a0 rfl)).trans k83
      refine tw_gov hS (md_runV (As := [.int x10]) (rest := []) hx hb hml hown hW hK hT hS.1 (t_X8_weigh l D cy tx base Z K N M97 Ra J96 hS.2.1 a0 hz_a0 hk_a0 x10 (iv_mono h13 (by decide) (by decide)) x82 k101 (iv_mono h81 (by decide) (by decide))) s_X8_88 ⟨rfl, rfl, ⟨Nat.le_of_ble_eq_true rfl, Nat.le_of_ble_eq_true rfl⟩, ⟨Nat.le_of_ble_eq_true rfl, Nat.le_of_ble_eq_true rfl⟩⟩ hz_a0 hk_a0 (by decide) rfl rfl hl.1 rfl (Nat.le_of_ble_eq_true rfl) dX8_value_67) rfl rfl (fun H locs M105 R106 J104 hS f102 g103 E107 => ?_)
      have eR106 := Fr.nil g103 rfl
      subst eR106
      have p108 := E107
      clear E107
      obtain ⟨x110, k111, h109, q112⟩ := p108
      have k111 : M105 a0 3 = x110 := k111
      have k113 : M105 a0 2 = x36 := ((Fr.kp (k := 2) f102 hk_a0 rfl).trans (Fr.kp (k := 2) f94 hk_a0 rfl)).trans k93
      have q114 : (x36.toInt ≤ ln.toInt ∨ x36.toInt ≤ pa.toInt) ∧ (¬ x110.toInt = 0 ∨ x36.toInt ≤ ln.toInt) ∧ (¬ x110.toInt = 0 ∨ fa.toInt = 0) := by
        have := (h_fa).1; have := (h_fa).2; have := (h_ln).1; have := (h_ln).2; have := (h_pa).1; have := (h_pa).2; have := (h13).1; have := (h13).2; have := (h109).1; have := (h109).2; have := (h39).1; have := (h39).2; have := (h81).1; have := (h81).2; omega
      exact tw_endv hx hb hr hlocks hK hT hS hQ (⟨x36, x110, k113, k111, h39, h109, q114⟩) dX8_value_70
  · have q115 : ¬ x21.toInt = 0 := ti_ne c23
    have h116 : iv 1 1 x21 := ⟨by have := (h_x21).1; have := ((iv_c (c := 0) (n := 0) (by decide))).1; have := ((iv_c (c := 0) (n := 0) (by decide))).2; omega, by have := (h_x21).2; have := ((iv_c (c := 0) (n := 0) (by decide))).1; have := ((iv_c (c := 0) (n := 0) (by decide))).2; omega⟩
    have q117 := p22 c23
    have h118 : iv 0 399 x10 := iv_ltL (y := ln) h13 h_ln q117 (by decide)
    refine lv_aload_n hx hb dX8_value_17 rfl (lv_at hl 1 rfl) ?_
    refine lv_iconst (v := 0) hx hb dX8_value_18 (by decide) ?_
    refine lv_aload_n hx hb dX8_value_19 rfl (lv_at hl 1 rfl) ?_
    refine lv_iconst (v := 0) hx hb dX8_value_20 (by decide) ?_
    refine lv_ldc hx hb hown (hW _ w_4_33 rfl) dX8_value_21 ?_
    have k119 : M4 a0 1 = ln := (Fr.kp (k := 1) f1 hk_a0 rfl).trans k_ln
    have k120 : M4 a0 3 = fa := (Fr.kp (k := 3) f1 hk_a0 rfl).trans k_fa
    refine tw_goi hS (md_runU (As := [.int 0, .int 99999]) (rest := [.int 0, .ref (base + a0)]) hx hb hml hown hW hK hT hS.1 (t_X10_number l D cy tx base Z K N M4 Ra J17 hS.2.1 a0 hz_a0 hk_a0 0 (iv_c (c := 0) (n := 0) (by decide)) 99999 (iv_c (c := 99999) (n := 99999) (by decide)) tb k_tb ln k119 (iv_mono h_ln (by decide) (by decide)) x10 k11 (iv_mono h118 (by decide) (by decide)) fa k120 (iv_mono h_fa (by decide) (by decide))) s_X8_101_X8 ⟨rfl, rfl, ⟨Nat.le_of_ble_eq_true rfl, Nat.le_of_ble_eq_true rfl⟩, ⟨Nat.le_of_ble_eq_true rfl, Nat.le_of_ble_eq_true rfl⟩⟩ hz_a0 hk_a0 (by decide) rfl rfl hl.1 rfl (Nat.le_of_ble_eq_true rfl) dX8_value_23) rfl rfl (fun x127 H locs M124 R125 J123 hS f121 g122 E126 => ?_)
    have eR125 := Fr.nil g122 rfl
    subst eR125
    obtain ⟨h_x127, p128⟩ := E126
    obtain ⟨x130, x132, k133, k134, h129, h131, q135⟩ := p128
    have k133 : M124 a0 2 = x130 := k133
    have k134 : M124 a0 3 = x132 := k134
    have h136 : iv 0 400 x130 := by
      have := (h_fa).1; have := (h_fa).2; have := (h_ln).1; have := (h_ln).2; have := (h_pa).1; have := (h_pa).2; have := (h118).1; have := (h118).2; have := (h129).1; have := (h129).2; have := (h131).1; have := (h131).2; exact ⟨by omega, by omega⟩
    refine tw_goi hS (md_runV (As := [.int 0, .int x127]) (rest := []) hx hb hml hown hW hK hT hS.1 (t_X8_put l D cy tx base Z K N M124 Ra J123 hS.2.1 a0 hz_a0 hk_a0 0 (iv_mono (iv_c (c := 0) (n := 0) (by decide)) (by decide) (by decide)) x127 h_x127) s_X8_54 ⟨rfl, rfl, ⟨Nat.le_of_ble_eq_true rfl, Nat.le_of_ble_eq_true rfl⟩, ⟨Nat.le_of_ble_eq_true rfl, Nat.le_of_ble_eq_true rfl⟩⟩ hz_a0 hk_a0 (by decide) rfl rfl hl.1 rfl (Nat.le_of_ble_eq_true rfl) dX8_value_26) rfl rfl (fun x143 H locs M140 R141 J139 hS f137 g138 E142 => ?_)
    have eR141 := Fr.nil g138 rfl
    subst eR141
    have h_x143 := E142
    clear E142
    refine lv_pop hx hb dX8_value_29 rfl ?_
    refine lv_goto (tgt := 65) hx hb dX8_value_30 (by decide) ?_
    refine lv_aload_n hx hb dX8_value_65 rfl (lv_at hl 1 rfl) ?_
    refine lv_iload_n hx hb dX8_value_66 rfl (lv_at hl 0 rfl) ?_
    have k144 : M140 a0 3 = x132 := (Fr.kp (k := 3) f137 hk_a0 rfl).trans k134
    refine tw_gov hS (md_runV (As := [.int x10]) (rest := []) hx hb hml hown hW hK hT hS.1 (t_X8_weigh l D cy tx base Z K N M140 Ra J139 hS.2.1 a0 hz_a0 hk_a0 x10 (iv_mono h118 (by decide) (by decide)) x132 k144 (iv_mono h131 (by decide) (by decide))) s_X8_88 ⟨rfl, rfl, ⟨Nat.le_of_ble_eq_true rfl, Nat.le_of_ble_eq_true rfl⟩, ⟨Nat.le_of_ble_eq_true rfl, Nat.le_of_ble_eq_true rfl⟩⟩ hz_a0 hk_a0 (by decide) rfl rfl hl.1 rfl (Nat.le_of_ble_eq_true rfl) dX8_value_67) rfl rfl (fun H locs M148 R149 J147 hS f145 g146 E150 => ?_)
    have eR149 := Fr.nil g146 rfl
    subst eR149
    have p151 := E150
    clear E150
    obtain ⟨x153, k154, h152, q155⟩ := p151
    have k154 : M148 a0 3 = x153 := k154
    have k156 : M148 a0 2 = x130 := ((Fr.kp (k := 2) f145 hk_a0 rfl).trans (Fr.kp (k := 2) f137 hk_a0 rfl)).trans k133
    have q157 : (x130.toInt ≤ ln.toInt ∨ x130.toInt ≤ pa.toInt) ∧ (¬ x153.toInt = 0 ∨ x130.toInt ≤ ln.toInt) ∧ (¬ x153.toInt = 0 ∨ fa.toInt = 0) := by
      have := (h_fa).1; have := (h_fa).2; have := (h_ln).1; have := (h_ln).2; have := (h_pa).1; have := (h_pa).2; have := (h118).1; have := (h118).2; have := (h136).1; have := (h136).2; have := (h131).1; have := (h131).2; have := (h152).1; have := (h152).2; omega
    exact tw_endv hx hb hr hlocks hK hT hS hQ (⟨x130, x153, k156, k154, (iv_mono h136 (by decide) (by decide)), h152, q157⟩) dX8_value_70
def Lt_X8_sum : WL := [(9, 2, 5), (9, 6, 8), (14, 0, 2000000)]
def LRt_X8_sum : WL := []
set_option maxRecDepth 100000 in
set_option maxHeartbeats 4000000 in
theorem t_X8_sum (l : Launch) (D : va_G) (cy : Nat → ClassId) (tx : (Nat → Nat) × (Nat → Nat)) (base Z : Nat) (K N : Nat → Nat) (Ma : MT) (Ra : RT) (Ja : JT) (hTy : Ty Z K N Ma Ra) (a0 : Nat) (hz_a0 : a0 < Z) (hk_a0 : K a0 = 9) (tb : Nat) (k_tb : Ra a0 0 = some tb) (ln : Int32) (k_ln : Ma a0 1 = ln) (h_ln : iv 0 400 ln) (pa : Int32) (k_pa : Ma a0 2 = pa) (h_pa : iv 0 420 pa) (fa : Int32) (k_fa : Ma a0 3 = fa) (h_fa : iv (-2147483648) 2147483647 fa) (hg : ¬ fa.toInt = 0 ∨ pa.toInt ≤ ln.toInt) : Met l yX8_sum [Cond.code yX8_sum cX8_sum 5 none] (md_rm 8 0 0) (va_Pc [.ref (base + a0)] (md_U D cy tx base Z K N Ma Ra Ja)) (mQv D cy tx base (fun u => TP Z K N Lt_X8_sum LRt_X8_sum Ma Ra u ∧ ((∃ x0 x1 : Int32, u.2.2.2.1 a0 2 = x0 ∧ u.2.2.2.1 a0 3 = x1 ∧ iv 0 420 x0 ∧ iv (-2147483648) 2147483647 x1 ∧ ((x0.toInt ≤ ln.toInt ∨ x0.toInt ≤ pa.toInt) ∧ (¬ x1.toInt = 0 ∨ x0.toInt ≤ ln.toInt) ∧ (¬ x1.toInt = 0 ∨ fa.toInt = 0)))))) 0 0 (fun q => base ≤ q) := by
  refine tw_ofW (L := Lt_X8_sum) (LR := LRt_X8_sum) (by decide) (Nat.le_of_ble_eq_true rfl) hTy ?_
  intro p e s m args below meth c Q ls hx hb hr hlocks hown hml hW hK hT hS hQ hl
  have hl : lv_has ls 5 [(0, .ref (base + a0))] := hl
  obtain ⟨hz_tb, hk_tb, hn_tb⟩ := hTy.refn hz_a0 hk_a0 (show rtR 9 0 = (13, 400, 1) from rfl) k_tb
  have hn_tb := hn_tb (by decide)
  refine lv_iconst (v := (-1)) hx hb dX8_sum_0 (by decide) ?_
  refine lv_istore_n (lv' := [(1, .int (-1)), (0, .ref (base + a0))]) hx hb dX8_sum_1 rfl hl (by decide) rfl (fun ls hl => ?_)
  refine lv_iconst (v := 1) hx hb dX8_sum_2 (by decide) ?_
  refine lv_istore_n (lv' := [(2, .int 1), (1, .int (-1)), (0, .ref (base + a0))]) hx hb dX8_sum_3 rfl hl (by decide) rfl (fun ls hl => ?_)
  refine lv_aload_n hx hb dX8_sum_4 rfl (lv_at hl 2 rfl) ?_
  have q1 : ¬ fa.toInt = 0 ∨ pa.toInt ≤ ln.toInt := by
    have := (h_fa).1; have := (h_fa).2; have := (h_ln).1; have := (h_ln).2; have := (h_pa).1; have := (h_pa).2; omega
  refine tw_gov hS (md_runV (As := []) (rest := []) hx hb hml hown hW hK hT hS.1 (t_X8_value l D cy tx base Z K N Ma Ra Ja hS.2.1 a0 hz_a0 hk_a0 tb k_tb ln k_ln (iv_mono h_ln (by decide) (by decide)) pa k_pa (iv_mono h_pa (by decide) (by decide)) fa k_fa (iv_mono h_fa (by decide) (by decide)) q1) s_X8_94 ⟨rfl, rfl, ⟨Nat.le_of_ble_eq_true rfl, Nat.le_of_ble_eq_true rfl⟩, ⟨Nat.le_of_ble_eq_true rfl, Nat.le_of_ble_eq_true rfl⟩⟩ hz_a0 hk_a0 (by decide) rfl rfl hl.1 rfl (Nat.le_of_ble_eq_true rfl) dX8_sum_5) rfl rfl (fun H locs M5 R6 J4 hS f2 g3 E7 => ?_)
  have eR6 := Fr.nil g3 rfl
  subst eR6
  have p8 := E7
  clear E7
  obtain ⟨x10, x12, k13, k14, h9, h11, q15⟩ := p8
  have k13 : M5 a0 2 = x10 := k13
  have k14 : M5 a0 3 = x12 := k14
  refine lv_iconst (v := 0) hx hb dX8_sum_8 (by decide) ?_
  refine lv_istore_n (lv' := [(3, .int 0), (2, .int 1), (1, .int (-1)), (0, .ref (base + a0))]) hx hb dX8_sum_9 rfl hl (by decide) rfl (fun ls hl => ?_)
  have W10_19 : ∀ (n_19 : Nat) (x16 : Int32) (x17 : Int32) (x18 : Int32) (x24 : Int32) (x26 : Int32) (M19 : MT) (R20 : RT) (J21 : JT) (H : Heap) (locs : List Loc) (ls : Array Slot) (h_x16 : iv (-1) 3 x16) (h_x17 : iv 0 1 x17) (h_x18 : iv 0 400 x18) (h_x24 : iv 0 420 x24) (k25 : M19 a0 2 = x24) (h_x26 : iv (-2147483648) 2147483647 x26) (k27 : M19 a0 3 = x26) (w0_19 : (x24.toInt ≤ ln.toInt ∨ x24.toInt ≤ pa.toInt) ∧ (¬ x26.toInt = 0 ∨ x24.toInt ≤ ln.toInt) ∧ (¬ x26.toInt = 0 ∨ fa.toInt = 0)) (hm_19 : 400 - x18.toInt < (n_19 : Int)) (hS : SB D cy base Z K N Lt_X8_sum LRt_X8_sum Ma Ra M19 R20 J21 s H locs) (hl : lv_has ls 5 [(1, .int x16), (2, .int x17), (3, .int x18), (0, .ref (base + a0))]), W p l e (md_rm 8 0 0) s m args below meth c H locs 0 0 Q (F0 m 10 ls []) := by
    intro n_19
    induction n_19 with
    | zero =>
      intro x16 x17 x18 x24 x26 M19 R20 J21 H locs ls h_x16 h_x17 h_x18 h_x24 k25 h_x26 k27 w0_19 hm_19 hS hl
      exfalso
      have := (h_fa).1; have := (h_fa).2; have := (h_ln).1; have := (h_ln).2; have := (h_pa).1; have := (h_pa).2; have := (h_x18).1; have := (h_x18).2; omega
    | succ n_19 ih_19 =>
      intro x16 x17 x18 x24 x26 M19 R20 J21 H locs ls h_x16 h_x17 h_x18 h_x24 k25 h_x26 k27 w0_19 hm_19 hS hl
      have f22 := hS.2.2.1
      have g23 := hS.2.2.2
      refine lv_iload_n hx hb dX8_sum_10 rfl (lv_at hl 1 rfl) ?_
      refine lv_if_eq (tgt := 152) hx hb dX8_sum_11 (by decide) (fun c28 => ?_) (fun c28 => ?_)
      · have q29 : x17.toInt = 0 := ti_eq c28
        have h30 : iv 0 0 x17 := ⟨by have := (h_x17).1; have := ((iv_c (c := 0) (n := 0) (by decide))).1; omega, by have := (h_x17).2; have := ((iv_c (c := 0) (n := 0) (by decide))).2; omega⟩
        have q31 : (x24.toInt ≤ ln.toInt ∨ x24.toInt ≤ pa.toInt) ∧ (¬ x26.toInt = 0 ∨ x24.toInt ≤ ln.toInt) ∧ (¬ x26.toInt = 0 ∨ fa.toInt = 0) := by
          have := (h_fa).1; have := (h_fa).2; have := (h_ln).1; have := (h_ln).2; have := (h_pa).1; have := (h_pa).2; have := (h9).1; have := (h9).2; have := (h11).1; have := (h11).2; have := (h_x24).1; have := (h_x24).2; have := (h_x26).1; have := (h_x26).2; omega
        exact tw_endv hx hb hr hlocks hK hT hS hQ (⟨x24, x26, k25, k27, h_x24, h_x26, q31⟩) dX8_sum_152
      · have q32 : ¬ x17.toInt = 0 := ti_ne c28
        have h33 : iv 1 1 x17 := ⟨by have := (h_x17).1; have := ((iv_c (c := 0) (n := 0) (by decide))).1; have := ((iv_c (c := 0) (n := 0) (by decide))).2; omega, by have := (h_x17).2; have := ((iv_c (c := 0) (n := 0) (by decide))).1; have := ((iv_c (c := 0) (n := 0) (by decide))).2; omega⟩
        refine lv_aload_n hx hb dX8_sum_14 rfl (lv_at hl 3 rfl) ?_
        refine tw_getk hx hb hW hown hK hS f_X8_65_8 hz_a0 hk_a0 (v := x26) k27 dX8_sum_15 ?_
        refine lv_if_ne (tgt := 152) hx hb dX8_sum_18 (by decide) (fun c34 => ?_) (fun c34 => ?_)
        · have q35 : ¬ x26.toInt = 0 := ti_ne c34
          have q36 : (x24.toInt ≤ ln.toInt ∨ x24.toInt ≤ pa.toInt) ∧ (¬ x26.toInt = 0 ∨ x24.toInt ≤ ln.toInt) ∧ (¬ x26.toInt = 0 ∨ fa.toInt = 0) := by
            have := (h_fa).1; have := (h_fa).2; have := (h_ln).1; have := (h_ln).2; have := (h_pa).1; have := (h_pa).2; have := (h9).1; have := (h9).2; have := (h11).1; have := (h11).2; have := (h_x24).1; have := (h_x24).2; have := (h_x26).1; have := (h_x26).2; omega
          exact tw_endv hx hb hr hlocks hK hT hS hQ (⟨x24, x26, k25, k27, h_x24, h_x26, q36⟩) dX8_sum_152
        · have q37 : x26.toInt = 0 := ti_eq c34
          have h38 : iv 0 0 x26 := ⟨by have := (h_x26).1; have := ((iv_c (c := 0) (n := 0) (by decide))).1; omega, by have := (h_x26).2; have := ((iv_c (c := 0) (n := 0) (by decide))).2; omega⟩
          refine lv_iload_n hx hb dX8_sum_21 rfl (lv_at hl 2 rfl) ?_
          refine lv_sipush (v := 400) hx hb dX8_sum_22 (by decide) ?_
          refine lv_icmp_ge (tgt := 152) hx hb dX8_sum_25 (by decide) (fun c39 => ?_) (fun c39 => ?_)
          · have q40 : 400 ≤ x18.toInt := ti_le c39
            have h41 : iv 400 400 x18 := iv_geL (y := 400) h_x18 (iv_c (c := 400) (n := 400) (by decide)) q40 (by decide)
            have q42 : (x24.toInt ≤ ln.toInt ∨ x24.toInt ≤ pa.toInt) ∧ (¬ x26.toInt = 0 ∨ x24.toInt ≤ ln.toInt) ∧ (¬ x26.toInt = 0 ∨ fa.toInt = 0) := by
              have := (h_fa).1; have := (h_fa).2; have := (h_ln).1; have := (h_ln).2; have := (h_pa).1; have := (h_pa).2; have := (h9).1; have := (h9).2; have := (h11).1; have := (h11).2; have := (h_x24).1; have := (h_x24).2; have := (h38).1; have := (h38).2; omega
            exact tw_endv hx hb hr hlocks hK hT hS hQ (⟨x24, x26, k25, k27, h_x24, (iv_mono h38 (by decide) (by decide)), q42⟩) dX8_sum_152
          · have q43 : x18.toInt < 400 := ti_nle c39
            have h44 : iv 0 399 x18 := iv_ltL (y := 400) h_x18 (iv_c (c := 400) (n := 400) (by decide)) q43 (by decide)
            refine lv_aload_n hx hb dX8_sum_28 rfl (lv_at hl 3 rfl) ?_
            have k45 : R20 a0 0 = some tb := (Fr.kp (k := 0) g23 hk_a0 rfl).trans k_tb
            have k46 : M19 a0 1 = ln := (Fr.kp (k := 1) f22 hk_a0 rfl).trans k_ln
            refine tw_goi hS (md_runU (As := []) (rest := []) hx hb hml hown hW hK hT hS.1 (t_X10_hereBehindBlanks l D cy tx base Z K N M19 R20 J21 hS.2.1 a0 hz_a0 hk_a0 tb k45 ln k46 (iv_mono h_ln (by decide) (by decide)) x24 k25 (iv_mono h_x24 (by decide) (by decide))) s_X8_26_X8 ⟨rfl, rfl, ⟨Nat.le_of_ble_eq_true rfl, Nat.le_of_ble_eq_true rfl⟩, ⟨Nat.le_of_ble_eq_true rfl, Nat.le_of_ble_eq_true rfl⟩⟩ hz_a0 hk_a0 (by decide) rfl rfl hl.1 rfl (Nat.le_of_ble_eq_true rfl) dX8_sum_29) rfl rfl (fun x53 H locs M50 R51 J49 hS f47 g48 E52 => ?_)
            have eR51 := Fr.nil g48 rfl
            subst eR51
            obtain ⟨h_x53, p54⟩ := E52
            obtain ⟨x56, k57, h55, q58⟩ := p54
            have k57 : M50 a0 2 = x56 := k57
            have h59 : iv 0 420 x56 := by
              have := (h_fa).1; have := (h_fa).2; have := (h_ln).1; have := (h_ln).2; have := (h_pa).1; have := (h_pa).2; have := (h9).1; have := (h9).2; have := (h11).1; have := (h11).2; have := (h_x24).1; have := (h_x24).2; have := (h38).1; have := (h38).2; have := (h55).1; have := (h55).2; exact ⟨by omega, by omega⟩
            refine lv_istore (lv' := [(4, .int x53), (1, .int x16), (2, .int x17), (3, .int x18), (0, .ref (base + a0))]) hx hb dX8_sum_32 hl (by decide) rfl (fun ls hl => ?_)
            refine lv_iload hx hb dX8_sum_34 (lv_at hl 0 rfl) ?_
            refine lv_bipush (v := 42) hx hb dX8_sum_36 (by decide) ?_
            refine lv_icmp_eq (tgt := 48) hx hb dX8_sum_38 (by decide) (fun c60 => ?_) (fun c60 => ?_)
            · have q61 : x53.toInt = 42 := ti_eq c60
              have h62 : iv 42 42 x53 := ⟨by have := (h_x53).1; have := ((iv_c (c := 42) (n := 42) (by decide))).1; omega, by have := (h_x53).2; have := ((iv_c (c := 42) (n := 42) (by decide))).2; omega⟩
              refine lv_aload_n hx hb dX8_sum_48 rfl (lv_at hl 4 rfl) ?_
              refine lv_dup hx hb dX8_sum_49 rfl ?_
              refine tw_getk hx hb hW hown hK hS f_X8_36_8 hz_a0 hk_a0 (v := x56) k57 dX8_sum_50 ?_
              refine lv_iconst (v := 1) hx hb dX8_sum_53 (by decide) ?_
              refine tw_iadd (lo := 1) (hi := 421) hx hb h59 (iv_c (c := 1) (n := 1) (by decide)) ⟨by decide, by decide⟩ ⟨by decide, by decide⟩ dX8_sum_54 (fun x65 e64 h63 => ?_)
              have e64 : x65.toInt = x56.toInt + 1 := e64
              refine tw_puti hx hb hW hown hK hS f_X8_36_8 hz_a0 hk_a0 rfl rfl (lo := 0) (hi := 1000) rfl (iv_mono h63 (by decide) (by decide)) rfl dX8_sum_55 (fun H locs M68 hS k66 f67 => ?_)
              refine lv_aload_n hx hb dX8_sum_58 rfl (lv_at hl 4 rfl) ?_
              have k69 : R20 a0 0 = some tb := (Fr.kp (k := 0) g23 hk_a0 rfl).trans k_tb
              have k70 : M68 a0 1 = ln := ((Fr.kp (k := 1) f67 hk_a0 rfl).trans ((Fr.kp (k := 1) f47 hk_a0 rfl).trans (Fr.kp (k := 1) f22 hk_a0 rfl))).trans k_ln
              have h71 : iv 0 420 x65 := by
                have := (h_fa).1; have := (h_fa).2; have := (h_ln).1; have := (h_ln).2; have := (h_pa).1; have := (h_pa).2; have := (h9).1; have := (h9).2; have := (h11).1; have := (h11).2; have := (h_x24).1; have := (h_x24).2; have := (h38).1; have := (h38).2; have := (h59).1; have := (h59).2; have := (h63).1; have := (h63).2; exact ⟨by omega, by omega⟩
              have k72 : M68 a0 3 = x26 := ((Fr.kp (k := 3) f67 hk_a0 rfl).trans (Fr.kp (k := 3) f47 hk_a0 rfl)).trans k27
              have q73 : ¬ x26.toInt = 0 ∨ x65.toInt ≤ ln.toInt := by
                have := (h_fa).1; have := (h_fa).2; have := (h_ln).1; have := (h_ln).2; have := (h_pa).1; have := (h_pa).2; have := (h9).1; have := (h9).2; have := (h11).1; have := (h11).2; have := (h_x24).1; have := (h_x24).2; have := (h38).1; have := (h38).2; have := (h59).1; have := (h59).2; have := (h63).1; have := (h63).2; omega
              refine tw_gov hS (md_runV (As := []) (rest := []) hx hb hml hown hW hK hT hS.1 (t_X8_value l D cy tx base Z K N M68 R20 J49 hS.2.1 a0 hz_a0 hk_a0 tb k69 ln k70 (iv_mono h_ln (by decide) (by decide)) x65 k66 h71 x26 k72 (iv_mono h38 (by decide) (by decide)) q73) s_X8_94 ⟨rfl, rfl, ⟨Nat.le_of_ble_eq_true rfl, Nat.le_of_ble_eq_true rfl⟩, ⟨Nat.le_of_ble_eq_true rfl, Nat.le_of_ble_eq_true rfl⟩⟩ hz_a0 hk_a0 (by decide) rfl rfl hl.1 rfl (Nat.le_of_ble_eq_true rfl) dX8_sum_59) rfl rfl (fun H locs M77 R78 J76 hS f74 g75 E79 => ?_)
              have eR78 := Fr.nil g75 rfl
              subst eR78
              have p80 := E79
              clear E79
              obtain ⟨x82, x84, k85, k86, h81, h83, q87⟩ := p80
              have k85 : M77 a0 2 = x82 := k85
              have k86 : M77 a0 3 = x84 := k86
              refine lv_aload_n hx hb dX8_sum_62 rfl (lv_at hl 4 rfl) ?_
              refine lv_iload hx hb dX8_sum_63 (lv_at hl 0 rfl) ?_
              refine lv_bipush (v := 42) hx hb dX8_sum_65 (by decide) ?_
              refine lv_icmp_ne (tgt := 74) hx hb dX8_sum_67 (by decide) (fun c88 => False.elim (by have q : ¬ x53.toInt = 42 := ti_ne c88; have := (h62).1; have := (h62).2; omega)) (fun c88 => ?_)
              have q89 : x53.toInt = 42 := ti_eq c88
              refine lv_iconst (v := 4) hx hb dX8_sum_70 (by decide) ?_
              refine lv_goto (tgt := 75) hx hb dX8_sum_71 (by decide) ?_
              refine lv_iconst (v := 0) hx hb dX8_sum_75 (by decide) ?_
              refine tw_goi hS (md_runV (As := [.int 4, .int 0]) (rest := []) hx hb hml hown hW hK hT hS.1 (t_X8_put l D cy tx base Z K N M77 R20 J76 hS.2.1 a0 hz_a0 hk_a0 4 (iv_mono (iv_c (c := 4) (n := 4) (by decide)) (by decide) (by decide)) 0 (iv_mono (iv_c (c := 0) (n := 0) (by decide)) (by decide) (by decide))) s_X8_54 ⟨rfl, rfl, ⟨Nat.le_of_ble_eq_true rfl, Nat.le_of_ble_eq_true rfl⟩, ⟨Nat.le_of_ble_eq_true rfl, Nat.le_of_ble_eq_true rfl⟩⟩ hz_a0 hk_a0 (by decide) rfl rfl hl.1 rfl (Nat.le_of_ble_eq_true rfl) dX8_sum_76) rfl rfl (fun x96 H locs M93 R94 J92 hS f90 g91 E95 => ?_)
              have eR94 := Fr.nil g91 rfl
              subst eR94
              have h_x96 := E95
              clear E95
              refine lv_pop hx hb dX8_sum_79 rfl ?_
              refine lv_goto (tgt := 146) hx hb dX8_sum_80 (by decide) ?_
              refine tw_iinc (lv' := fun x99 => [(3, .int x99), (4, .int x53), (1, .int x16), (2, .int x17), (0, .ref (base + a0))]) (lo := 1) (hi := 400) hx hb dX8_sum_146 hl (k := 3) rfl h44 (by decide) ⟨by decide, by decide⟩ ⟨by decide, by decide⟩ (by decide) (fun _ => rfl) (fun x99 ls e98 h97 hl => ?_)
              refine lv_goto (tgt := 10) hx hb dX8_sum_149 (by decide) ?_
              have k100 : M93 a0 2 = x82 := (Fr.kp (k := 2) f90 hk_a0 rfl).trans k85
              have k101 : M93 a0 3 = x84 := (Fr.kp (k := 3) f90 hk_a0 rfl).trans k86
              have w102 : (x82.toInt ≤ ln.toInt ∨ x82.toInt ≤ pa.toInt) ∧ (¬ x84.toInt = 0 ∨ x82.toInt ≤ ln.toInt) ∧ (¬ x84.toInt = 0 ∨ fa.toInt = 0) := by
                have := (h_fa).1; have := (h_fa).2; have := (h_ln).1; have := (h_ln).2; have := (h_pa).1; have := (h_pa).2; have := (h9).1; have := (h9).2; have := (h11).1; have := (h11).2; have := (h_x24).1; have := (h_x24).2; have := (h38).1; have := (h38).2; have := (h59).1; have := (h59).2; have := (h63).1; have := (h63).2; have := (h81).1; have := (h81).2; have := (h83).1; have := (h83).2; omega
              have hm103 : 400 - x99.toInt < (n_19 : Int) := by
                have := (h_fa).1; have := (h_fa).2; have := (h_ln).1; have := (h_ln).2; have := (h_pa).1; have := (h_pa).2; have := (h44).1; have := (h44).2; have := (h97).1; have := (h97).2; omega
              exact ih_19 x16 x17 x99 x82 x84 M93 R20 J92 H locs _ h_x16 (iv_mono h33 (by decide) (by decide)) (iv_mono h97 (by decide) (by decide)) h81 k100 h83 k101 w102 hm103 hS (lv_sub hl [2, 3, 0, 4] rfl)
            · have q104 : ¬ x53.toInt = 42 := ti_ne c60
              refine lv_iload hx hb dX8_sum_41 (lv_at hl 0 rfl) ?_
              refine lv_bipush (v := 47) hx hb dX8_sum_43 (by decide) ?_
              refine lv_icmp_ne (tgt := 83) hx hb dX8_sum_45 (by decide) (fun c105 => ?_) (fun c105 => ?_)
              · have q106 : ¬ x53.toInt = 47 := ti_ne c105
                refine lv_iload_n hx hb dX8_sum_83 rfl (lv_at hl 1 rfl) ?_
                refine lv_iconst (v := (-1)) hx hb dX8_sum_84 (by decide) ?_
                refine lv_icmp_eq (tgt := 95) hx hb dX8_sum_85 (by decide) (fun c107 => ?_) (fun c107 => ?_)
                · have q108 : x16.toInt = (-1) := ti_eq c107
                  have h109 : iv (-1) (-1) x16 := ⟨by have := (h_x16).1; have := ((iv_c (c := (-1)) (n := (-1)) (by decide))).1; omega, by have := (h_x16).2; have := ((iv_c (c := (-1)) (n := (-1)) (by decide))).2; omega⟩
                  refine lv_iload hx hb dX8_sum_95 (lv_at hl 0 rfl) ?_
                  refine lv_bipush (v := 43) hx hb dX8_sum_97 (by decide) ?_
                  refine lv_icmp_eq (tgt := 109) hx hb dX8_sum_99 (by decide) (fun c110 => ?_) (fun c110 => ?_)
                  · have q111 : x53.toInt = 43 := ti_eq c110
                    have h112 : iv 43 43 x53 := ⟨by have := (h_x53).1; have := ((iv_c (c := 43) (n := 43) (by decide))).1; omega, by have := (h_x53).2; have := ((iv_c (c := 43) (n := 43) (by decide))).2; omega⟩
                    refine lv_iconst (v := 1) hx hb dX8_sum_109 (by decide) ?_
                    refine lv_goto (tgt := 114) hx hb dX8_sum_110 (by decide) ?_
                    refine lv_istore_n (lv' := [(2, .int 1), (4, .int x53), (1, .int x16), (3, .int x18), (0, .ref (base + a0))]) hx hb dX8_sum_114 rfl hl (by decide) rfl (fun ls hl => ?_)
                    refine lv_iload_n hx hb dX8_sum_115 rfl (lv_at hl 0 rfl) ?_
                    refine lv_if_eq (tgt := 146) hx hb dX8_sum_116 (by decide) (fun h => absurd h (by decide)) (fun _ => ?_)
                    refine lv_aload_n hx hb dX8_sum_119 rfl (lv_at hl 4 rfl) ?_
                    refine lv_dup hx hb dX8_sum_120 rfl ?_
                    refine tw_getk hx hb hW hown hK hS f_X8_36_8 hz_a0 hk_a0 (v := x56) k57 dX8_sum_121 ?_
                    refine lv_iconst (v := 1) hx hb dX8_sum_124 (by decide) ?_
                    refine tw_iadd (lo := 1) (hi := 421) hx hb h59 (iv_c (c := 1) (n := 1) (by decide)) ⟨by decide, by decide⟩ ⟨by decide, by decide⟩ dX8_sum_125 (fun x115 e114 h113 => ?_)
                    have e114 : x115.toInt = x56.toInt + 1 := e114
                    refine tw_puti hx hb hW hown hK hS f_X8_36_8 hz_a0 hk_a0 rfl rfl (lo := 0) (hi := 1000) rfl (iv_mono h113 (by decide) (by decide)) rfl dX8_sum_126 (fun H locs M118 hS k116 f117 => ?_)
                    refine lv_iload hx hb dX8_sum_129 (lv_at hl 1 rfl) ?_
                    refine lv_bipush (v := 43) hx hb dX8_sum_131 (by decide) ?_
                    refine lv_icmp_ne (tgt := 140) hx hb dX8_sum_133 (by decide) (fun c119 => False.elim (by have q : ¬ x53.toInt = 43 := ti_ne c119; have := (h112).1; have := (h112).2; omega)) (fun c119 => ?_)
                    have q120 : x53.toInt = 43 := ti_eq c119
                    refine lv_iconst (v := 2) hx hb dX8_sum_136 (by decide) ?_
                    refine lv_goto (tgt := 141) hx hb dX8_sum_137 (by decide) ?_
                    refine lv_istore_n (lv' := [(1, .int 2), (2, .int 1), (4, .int x53), (3, .int x18), (0, .ref (base + a0))]) hx hb dX8_sum_141 rfl hl (by decide) rfl (fun ls hl => ?_)
                    refine lv_aload_n hx hb dX8_sum_142 rfl (lv_at hl 4 rfl) ?_
                    have k121 : R20 a0 0 = some tb := (Fr.kp (k := 0) g23 hk_a0 rfl).trans k_tb
                    have k122 : M118 a0 1 = ln := ((Fr.kp (k := 1) f117 hk_a0 rfl).trans ((Fr.kp (k := 1) f47 hk_a0 rfl).trans (Fr.kp (k := 1) f22 hk_a0 rfl))).trans k_ln
                    have h123 : iv 0 420 x115 := by
                      have := (h_fa).1; have := (h_fa).2; have := (h_ln).1; have := (h_ln).2; have := (h_pa).1; have := (h_pa).2; have := (h9).1; have := (h9).2; have := (h113).1; have := (h113).2; have := (h11).1; have := (h11).2; have := (h_x24).1; have := (h_x24).2; have := (h38).1; have := (h38).2; have := (h59).1; have := (h59).2; exact ⟨by omega, by omega⟩
                    have k124 : M118 a0 3 = x26 := ((Fr.kp (k := 3) f117 hk_a0 rfl).trans (Fr.kp (k := 3) f47 hk_a0 rfl)).trans k27
                    have q125 : ¬ x26.toInt = 0 ∨ x115.toInt ≤ ln.toInt := by
                      have := (h_fa).1; have := (h_fa).2; have := (h_ln).1; have := (h_ln).2; have := (h_pa).1; have := (h_pa).2; have := (h9).1; have := (h9).2; have := (h113).1; have := (h113).2; have := (h11).1; have := (h11).2; have := (h_x24).1; have := (h_x24).2; have := (h38).1; have := (h38).2; have := (h59).1; have := (h59).2; omega
                    refine tw_gov hS (md_runV (As := []) (rest := []) hx hb hml hown hW hK hT hS.1 (t_X8_value l D cy tx base Z K N M118 R20 J49 hS.2.1 a0 hz_a0 hk_a0 tb k121 ln k122 (iv_mono h_ln (by decide) (by decide)) x115 k116 h123 x26 k124 (iv_mono h38 (by decide) (by decide)) q125) s_X8_94 ⟨rfl, rfl, ⟨Nat.le_of_ble_eq_true rfl, Nat.le_of_ble_eq_true rfl⟩, ⟨Nat.le_of_ble_eq_true rfl, Nat.le_of_ble_eq_true rfl⟩⟩ hz_a0 hk_a0 (by decide) rfl rfl hl.1 rfl (Nat.le_of_ble_eq_true rfl) dX8_sum_143) rfl rfl (fun H locs M129 R130 J128 hS f126 g127 E131 => ?_)
                    have eR130 := Fr.nil g127 rfl
                    subst eR130
                    have p132 := E131
                    clear E131
                    obtain ⟨x134, x136, k137, k138, h133, h135, q139⟩ := p132
                    have k137 : M129 a0 2 = x134 := k137
                    have k138 : M129 a0 3 = x136 := k138
                    refine tw_iinc (lv' := fun x142 => [(3, .int x142), (1, .int 2), (2, .int 1), (4, .int x53), (0, .ref (base + a0))]) (lo := 1) (hi := 400) hx hb dX8_sum_146 hl (k := 3) rfl h44 (by decide) ⟨by decide, by decide⟩ ⟨by decide, by decide⟩ (by decide) (fun _ => rfl) (fun x142 ls e141 h140 hl => ?_)
                    refine lv_goto (tgt := 10) hx hb dX8_sum_149 (by decide) ?_
                    have w143 : (x134.toInt ≤ ln.toInt ∨ x134.toInt ≤ pa.toInt) ∧ (¬ x136.toInt = 0 ∨ x134.toInt ≤ ln.toInt) ∧ (¬ x136.toInt = 0 ∨ fa.toInt = 0) := by
                      have := (h_fa).1; have := (h_fa).2; have := (h_ln).1; have := (h_ln).2; have := (h_pa).1; have := (h_pa).2; have := (h9).1; have := (h9).2; have := (h113).1; have := (h113).2; have := (h11).1; have := (h11).2; have := (h133).1; have := (h133).2; have := (h135).1; have := (h135).2; have := (h_x24).1; have := (h_x24).2; have := (h38).1; have := (h38).2; have := (h59).1; have := (h59).2; omega
                    have hm144 : 400 - x142.toInt < (n_19 : Int) := by
                      have := (h_fa).1; have := (h_fa).2; have := (h_ln).1; have := (h_ln).2; have := (h_pa).1; have := (h_pa).2; have := (h140).1; have := (h140).2; have := (h44).1; have := (h44).2; omega
                    exact ih_19 2 1 x142 x134 x136 M129 R20 J128 H locs _ (iv_mono (iv_c (c := 2) (n := 2) (by decide)) (by decide) (by decide)) (iv_mono (iv_c (c := 1) (n := 1) (by decide)) (by decide) (by decide)) (iv_mono h140 (by decide) (by decide)) h133 k137 h135 k138 w143 hm144 hS (lv_sub hl [1, 2, 0, 4] rfl)
                  · have q145 : ¬ x53.toInt = 43 := ti_ne c110
                    refine lv_iload hx hb dX8_sum_102 (lv_at hl 0 rfl) ?_
                    refine lv_bipush (v := 45) hx hb dX8_sum_104 (by decide) ?_
                    refine lv_icmp_ne (tgt := 113) hx hb dX8_sum_106 (by decide) (fun c146 => ?_) (fun c146 => ?_)
                    · have q147 : ¬ x53.toInt = 45 := ti_ne c146
                      refine lv_iconst (v := 0) hx hb dX8_sum_113 (by decide) ?_
                      refine lv_istore_n (lv' := [(2, .int 0), (4, .int x53), (1, .int x16), (3, .int x18), (0, .ref (base + a0))]) hx hb dX8_sum_114 rfl hl (by decide) rfl (fun ls hl => ?_)
                      refine lv_iload_n hx hb dX8_sum_115 rfl (lv_at hl 0 rfl) ?_
                      refine lv_if_eq (tgt := 146) hx hb dX8_sum_116 (by decide) (fun _ => ?_) (fun h => absurd h (by decide))
                      refine tw_iinc (lv' := fun x150 => [(3, .int x150), (2, .int 0), (4, .int x53), (1, .int x16), (0, .ref (base + a0))]) (lo := 1) (hi := 400) hx hb dX8_sum_146 hl (k := 3) rfl h44 (by decide) ⟨by decide, by decide⟩ ⟨by decide, by decide⟩ (by decide) (fun _ => rfl) (fun x150 ls e149 h148 hl => ?_)
                      refine lv_goto (tgt := 10) hx hb dX8_sum_149 (by decide) ?_
                      have k151 : M50 a0 3 = x26 := (Fr.kp (k := 3) f47 hk_a0 rfl).trans k27
                      have w152 : (x56.toInt ≤ ln.toInt ∨ x56.toInt ≤ pa.toInt) ∧ (¬ x26.toInt = 0 ∨ x56.toInt ≤ ln.toInt) ∧ (¬ x26.toInt = 0 ∨ fa.toInt = 0) := by
                        have := (h_fa).1; have := (h_fa).2; have := (h_ln).1; have := (h_ln).2; have := (h_pa).1; have := (h_pa).2; have := (h9).1; have := (h9).2; have := (h11).1; have := (h11).2; have := (h_x24).1; have := (h_x24).2; have := (h38).1; have := (h38).2; have := (h59).1; have := (h59).2; omega
                      have hm153 : 400 - x150.toInt < (n_19 : Int) := by
                        have := (h_fa).1; have := (h_fa).2; have := (h_ln).1; have := (h_ln).2; have := (h_pa).1; have := (h_pa).2; have := (h148).1; have := (h148).2; have := (h44).1; have := (h44).2; omega
                      exact ih_19 x16 0 x150 x56 x26 M50 R20 J49 H locs _ (iv_mono h109 (by decide) (by decide)) (iv_mono (iv_c (c := 0) (n := 0) (by decide)) (by decide) (by decide)) (iv_mono h148 (by decide) (by decide)) h59 k57 (iv_mono h38 (by decide) (by decide)) k151 w152 hm153 hS (lv_sub hl [3, 1, 0, 4] rfl)
                    · have q154 : x53.toInt = 45 := ti_eq c146
                      have h155 : iv 45 45 x53 := ⟨by have := (h_x53).1; have := ((iv_c (c := 45) (n := 45) (by decide))).1; omega, by have := (h_x53).2; have := ((iv_c (c := 45) (n := 45) (by decide))).2; omega⟩
                      refine lv_iconst (v := 1) hx hb dX8_sum_109 (by decide) ?_
                      refine lv_goto (tgt := 114) hx hb dX8_sum_110 (by decide) ?_
                      refine lv_istore_n (lv' := [(2, .int 1), (4, .int x53), (1, .int x16), (3, .int x18), (0, .ref (base + a0))]) hx hb dX8_sum_114 rfl hl (by decide) rfl (fun ls hl => ?_)
                      refine lv_iload_n hx hb dX8_sum_115 rfl (lv_at hl 0 rfl) ?_
                      refine lv_if_eq (tgt := 146) hx hb dX8_sum_116 (by decide) (fun h => absurd h (by decide)) (fun _ => ?_)
                      refine lv_aload_n hx hb dX8_sum_119 rfl (lv_at hl 4 rfl) ?_
                      refine lv_dup hx hb dX8_sum_120 rfl ?_
                      refine tw_getk hx hb hW hown hK hS f_X8_36_8 hz_a0 hk_a0 (v := x56) k57 dX8_sum_121 ?_
                      refine lv_iconst (v := 1) hx hb dX8_sum_124 (by decide) ?_
                      refine tw_iadd (lo := 1) (hi := 421) hx hb h59 (iv_c (c := 1) (n := 1) (by decide)) ⟨by decide, by decide⟩ ⟨by decide, by decide⟩ dX8_sum_125 (fun x158 e157 h156 => ?_)
                      have e157 : x158.toInt = x56.toInt + 1 := e157
                      refine tw_puti hx hb hW hown hK hS f_X8_36_8 hz_a0 hk_a0 rfl rfl (lo := 0) (hi := 1000) rfl (iv_mono h156 (by decide) (by decide)) rfl dX8_sum_126 (fun H locs M161 hS k159 f160 => ?_)
                      refine lv_iload hx hb dX8_sum_129 (lv_at hl 1 rfl) ?_
                      refine lv_bipush (v := 43) hx hb dX8_sum_131 (by decide) ?_
                      refine lv_icmp_ne (tgt := 140) hx hb dX8_sum_133 (by decide) (fun c162 => ?_) (fun c162 => False.elim (by have q : x53.toInt = 43 := ti_eq c162; have := (h155).1; have := (h155).2; omega))
                      have q163 : ¬ x53.toInt = 43 := ti_ne c162
                      refine lv_iconst (v := 3) hx hb dX8_sum_140 (by decide) ?_
                      refine lv_istore_n (lv' := [(1, .int 3), (2, .int 1), (4, .int x53), (3, .int x18), (0, .ref (base + a0))]) hx hb dX8_sum_141 rfl hl (by decide) rfl (fun ls hl => ?_)
                      refine lv_aload_n hx hb dX8_sum_142 rfl (lv_at hl 4 rfl) ?_
                      have k164 : R20 a0 0 = some tb := (Fr.kp (k := 0) g23 hk_a0 rfl).trans k_tb
                      have k165 : M161 a0 1 = ln := ((Fr.kp (k := 1) f160 hk_a0 rfl).trans ((Fr.kp (k := 1) f47 hk_a0 rfl).trans (Fr.kp (k := 1) f22 hk_a0 rfl))).trans k_ln
                      have h166 : iv 0 420 x158 := by
                        have := (h_fa).1; have := (h_fa).2; have := (h_ln).1; have := (h_ln).2; have := (h_pa).1; have := (h_pa).2; have := (h9).1; have := (h9).2; have := (h11).1; have := (h11).2; have := (h156).1; have := (h156).2; have := (h_x24).1; have := (h_x24).2; have := (h38).1; have := (h38).2; have := (h59).1; have := (h59).2; exact ⟨by omega, by omega⟩
                      have k167 : M161 a0 3 = x26 := ((Fr.kp (k := 3) f160 hk_a0 rfl).trans (Fr.kp (k := 3) f47 hk_a0 rfl)).trans k27
                      have q168 : ¬ x26.toInt = 0 ∨ x158.toInt ≤ ln.toInt := by
                        have := (h_fa).1; have := (h_fa).2; have := (h_ln).1; have := (h_ln).2; have := (h_pa).1; have := (h_pa).2; have := (h9).1; have := (h9).2; have := (h11).1; have := (h11).2; have := (h156).1; have := (h156).2; have := (h_x24).1; have := (h_x24).2; have := (h38).1; have := (h38).2; have := (h59).1; have := (h59).2; omega
                      refine tw_gov hS (md_runV (As := []) (rest := []) hx hb hml hown hW hK hT hS.1 (t_X8_value l D cy tx base Z K N M161 R20 J49 hS.2.1 a0 hz_a0 hk_a0 tb k164 ln k165 (iv_mono h_ln (by decide) (by decide)) x158 k159 h166 x26 k167 (iv_mono h38 (by decide) (by decide)) q168) s_X8_94 ⟨rfl, rfl, ⟨Nat.le_of_ble_eq_true rfl, Nat.le_of_ble_eq_true rfl⟩, ⟨Nat.le_of_ble_eq_true rfl, Nat.le_of_ble_eq_true rfl⟩⟩ hz_a0 hk_a0 (by decide) rfl rfl hl.1 rfl (Nat.le_of_ble_eq_true rfl) dX8_sum_143) rfl rfl (fun H locs M172 R173 J171 hS f169 g170 E174 => ?_)
                      have eR173 := Fr.nil g170 rfl
                      subst eR173
                      have p175 := E174
                      clear E174
                      obtain ⟨x177, x179, k180, k181, h176, h178, q182⟩ := p175
                      have k180 : M172 a0 2 = x177 := k180
                      have k181 : M172 a0 3 = x179 := k181
                      refine tw_iinc (lv' := fun x185 => [(3, .int x185), (1, .int 3), (2, .int 1), (4, .int x53), (0, .ref (base + a0))]) (lo := 1) (hi := 400) hx hb dX8_sum_146 hl (k := 3) rfl h44 (by decide) ⟨by decide, by decide⟩ ⟨by decide, by decide⟩ (by decide) (fun _ => rfl) (fun x185 ls e184 h183 hl => ?_)
                      refine lv_goto (tgt := 10) hx hb dX8_sum_149 (by decide) ?_
                      have w186 : (x177.toInt ≤ ln.toInt ∨ x177.toInt ≤ pa.toInt) ∧ (¬ x179.toInt = 0 ∨ x177.toInt ≤ ln.toInt) ∧ (¬ x179.toInt = 0 ∨ fa.toInt = 0) := by
                        have := (h_fa).1; have := (h_fa).2; have := (h_ln).1; have := (h_ln).2; have := (h_pa).1; have := (h_pa).2; have := (h9).1; have := (h9).2; have := (h11).1; have := (h11).2; have := (h156).1; have := (h156).2; have := (h176).1; have := (h176).2; have := (h178).1; have := (h178).2; have := (h_x24).1; have := (h_x24).2; have := (h38).1; have := (h38).2; have := (h59).1; have := (h59).2; omega
                      have hm187 : 400 - x185.toInt < (n_19 : Int) := by
                        have := (h_fa).1; have := (h_fa).2; have := (h_ln).1; have := (h_ln).2; have := (h_pa).1; have := (h_pa).2; have := (h44).1; have := (h44).2; have := (h183).1; have := (h183).2; omega
                      exact ih_19 3 1 x185 x177 x179 M172 R20 J171 H locs _ (iv_mono (iv_c (c := 3) (n := 3) (by decide)) (by decide) (by decide)) (iv_mono (iv_c (c := 1) (n := 1) (by decide)) (by decide) (by decide)) (iv_mono h183 (by decide) (by decide)) h176 k180 h178 k181 w186 hm187 hS (lv_sub hl [1, 2, 0, 4] rfl)
                · have q188 : ¬ x16.toInt = (-1) := ti_ne c107
                  have h189 : iv 0 3 x16 := ⟨by have := (h_x16).1; have := ((iv_c (c := (-1)) (n := (-1)) (by decide))).1; have := ((iv_c (c := (-1)) (n := (-1)) (by decide))).2; omega, by have := (h_x16).2; have := ((iv_c (c := (-1)) (n := (-1)) (by decide))).1; have := ((iv_c (c := (-1)) (n := (-1)) (by decide))).2; omega⟩
                  refine lv_aload_n hx hb dX8_sum_88 rfl (lv_at hl 4 rfl) ?_
                  refine lv_iload_n hx hb dX8_sum_89 rfl (lv_at hl 1 rfl) ?_
                  refine lv_iconst (v := 0) hx hb dX8_sum_90 (by decide) ?_
                  refine tw_goi hS (md_runV (As := [.int x16, .int 0]) (rest := []) hx hb hml hown hW hK hT hS.1 (t_X8_put l D cy tx base Z K N M50 R20 J49 hS.2.1 a0 hz_a0 hk_a0 x16 (iv_mono h189 (by decide) (by decide)) 0 (iv_mono (iv_c (c := 0) (n := 0) (by decide)) (by decide) (by decide))) s_X8_54 ⟨rfl, rfl, ⟨Nat.le_of_ble_eq_true rfl, Nat.le_of_ble_eq_true rfl⟩, ⟨Nat.le_of_ble_eq_true rfl, Nat.le_of_ble_eq_true rfl⟩⟩ hz_a0 hk_a0 (by decide) rfl rfl hl.1 rfl (Nat.le_of_ble_eq_true rfl) dX8_sum_91) rfl rfl (fun x196 H locs M193 R194 J192 hS f190 g191 E195 => ?_)
                  have eR194 := Fr.nil g191 rfl
                  subst eR194
                  have h_x196 := E195
                  clear E195
                  refine lv_pop hx hb dX8_sum_94 rfl ?_
                  refine lv_iload hx hb dX8_sum_95 (lv_at hl 0 rfl) ?_
                  refine lv_bipush (v := 43) hx hb dX8_sum_97 (by decide) ?_
                  refine lv_icmp_eq (tgt := 109) hx hb dX8_sum_99 (by decide) (fun c197 => ?_) (fun c197 => ?_)
                  · have q198 : x53.toInt = 43 := ti_eq c197
                    have h199 : iv 43 43 x53 := ⟨by have := (h_x53).1; have := ((iv_c (c := 43) (n := 43) (by decide))).1; omega, by have := (h_x53).2; have := ((iv_c (c := 43) (n := 43) (by decide))).2; omega⟩
                    refine lv_iconst (v := 1) hx hb dX8_sum_109 (by decide) ?_
                    refine lv_goto (tgt := 114) hx hb dX8_sum_110 (by decide) ?_
                    refine lv_istore_n (lv' := [(2, .int 1), (4, .int x53), (1, .int x16), (3, .int x18), (0, .ref (base + a0))]) hx hb dX8_sum_114 rfl hl (by decide) rfl (fun ls hl => ?_)
                    refine lv_iload_n hx hb dX8_sum_115 rfl (lv_at hl 0 rfl) ?_
                    refine lv_if_eq (tgt := 146) hx hb dX8_sum_116 (by decide) (fun h => absurd h (by decide)) (fun _ => ?_)
                    refine lv_aload_n hx hb dX8_sum_119 rfl (lv_at hl 4 rfl) ?_
                    refine lv_dup hx hb dX8_sum_120 rfl ?_
                    have k200 : M193 a0 2 = x56 := (Fr.kp (k := 2) f190 hk_a0 rfl).trans k57
                    refine tw_getk hx hb hW hown hK hS f_X8_36_8 hz_a0 hk_a0 (v := x56) k200 dX8_sum_121 ?_
                    refine lv_iconst (v := 1) hx hb dX8_sum_124 (by decide) ?_
                    refine tw_iadd (lo := 1) (hi := 421) hx hb h59 (iv_c (c := 1) (n := 1) (by decide)) ⟨by decide, by decide⟩ ⟨by decide, by decide⟩ dX8_sum_125 (fun x203 e202 h201 => ?_)
                    have e202 : x203.toInt = x56.toInt + 1 := e202
                    refine tw_puti hx hb hW hown hK hS f_X8_36_8 hz_a0 hk_a0 rfl rfl (lo := 0) (hi := 1000) rfl (iv_mono h201 (by decide) (by decide)) rfl dX8_sum_126 (fun H locs M206 hS k204 f205 => ?_)
                    refine lv_iload hx hb dX8_sum_129 (lv_at hl 1 rfl) ?_
                    refine lv_bipush (v := 43) hx hb dX8_sum_131 (by decide) ?_
                    refine lv_icmp_ne (tgt := 140) hx hb dX8_sum_133 (by decide) (fun c207 => False.elim (by have q : ¬ x53.toInt = 43 := ti_ne c207; have := (h199).1; have := (h199).2; omega)) (fun c207 => ?_)
                    have q208 : x53.toInt = 43 := ti_eq c207
                    refine lv_iconst (v := 2) hx hb dX8_sum_136 (by decide) ?_
                    refine lv_goto (tgt := 141) hx hb dX8_sum_137 (by decide) ?_
                    refine lv_istore_n (lv' := [(1, .int 2), (2, .int 1), (4, .int x53), (3, .int x18), (0, .ref (base + a0))]) hx hb dX8_sum_141 rfl hl (by decide) rfl (fun ls hl => ?_)
                    refine lv_aload_n hx hb dX8_sum_142 rfl (lv_at hl 4 rfl) ?_
                    have k209 : R20 a0 0 = some tb := (Fr.kp (k := 0) g23 hk_a0 rfl).trans k_tb
                    have k210 : M206 a0 1 = ln := ((Fr.kp (k := 1) f205 hk_a0 rfl).trans ((Fr.kp (k := 1) f190 hk_a0 rfl).trans ((Fr.kp (k := 1) f47 hk_a0 rfl).trans (Fr.kp (k := 1) f22 hk_a0 rfl)))).trans k_ln
                    have h211 : iv 0 420 x203 := by
                      have := (h_fa).1; have := (h_fa).2; have := (h_ln).1; have := (h_ln).2; have := (h_pa).1; have := (h_pa).2; have := (h9).1; have := (h9).2; have := (h11).1; have := (h11).2; have := (h201).1; have := (h201).2; have := (h_x24).1; have := (h_x24).2; have := (h38).1; have := (h38).2; have := (h59).1; have := (h59).2; exact ⟨by omega, by omega⟩
                    have k212 : M206 a0 3 = x26 := ((Fr.kp (k := 3) f205 hk_a0 rfl).trans ((Fr.kp (k := 3) f190 hk_a0 rfl).trans (Fr.kp (k := 3) f47 hk_a0 rfl))).trans k27
                    have q213 : ¬ x26.toInt = 0 ∨ x203.toInt ≤ ln.toInt := by
                      have := (h_fa).1; have := (h_fa).2; have := (h_ln).1; have := (h_ln).2; have := (h_pa).1; have := (h_pa).2; have := (h9).1; have := (h9).2; have := (h11).1; have := (h11).2; have := (h201).1; have := (h201).2; have := (h_x24).1; have := (h_x24).2; have := (h38).1; have := (h38).2; have := (h59).1; have := (h59).2; omega
                    refine tw_gov hS (md_runV (As := []) (rest := []) hx hb hml hown hW hK hT hS.1 (t_X8_value l D cy tx base Z K N M206 R20 J192 hS.2.1 a0 hz_a0 hk_a0 tb k209 ln k210 (iv_mono h_ln (by decide) (by decide)) x203 k204 h211 x26 k212 (iv_mono h38 (by decide) (by decide)) q213) s_X8_94 ⟨rfl, rfl, ⟨Nat.le_of_ble_eq_true rfl, Nat.le_of_ble_eq_true rfl⟩, ⟨Nat.le_of_ble_eq_true rfl, Nat.le_of_ble_eq_true rfl⟩⟩ hz_a0 hk_a0 (by decide) rfl rfl hl.1 rfl (Nat.le_of_ble_eq_true rfl) dX8_sum_143) rfl rfl (fun H locs M217 R218 J216 hS f214 g215 E219 => ?_)
                    have eR218 := Fr.nil g215 rfl
                    subst eR218
                    have p220 := E219
                    clear E219
                    obtain ⟨x222, x224, k225, k226, h221, h223, q227⟩ := p220
                    have k225 : M217 a0 2 = x222 := k225
                    have k226 : M217 a0 3 = x224 := k226
                    refine tw_iinc (lv' := fun x230 => [(3, .int x230), (1, .int 2), (2, .int 1), (4, .int x53), (0, .ref (base + a0))]) (lo := 1) (hi := 400) hx hb dX8_sum_146 hl (k := 3) rfl h44 (by decide) ⟨by decide, by decide⟩ ⟨by decide, by decide⟩ (by decide) (fun _ => rfl) (fun x230 ls e229 h228 hl => ?_)
                    refine lv_goto (tgt := 10) hx hb dX8_sum_149 (by decide) ?_
                    have w231 : (x222.toInt ≤ ln.toInt ∨ x222.toInt ≤ pa.toInt) ∧ (¬ x224.toInt = 0 ∨ x222.toInt ≤ ln.toInt) ∧ (¬ x224.toInt = 0 ∨ fa.toInt = 0) := by
                      have := (h_fa).1; have := (h_fa).2; have := (h_ln).1; have := (h_ln).2; have := (h_pa).1; have := (h_pa).2; have := (h9).1; have := (h9).2; have := (h11).1; have := (h11).2; have := (h201).1; have := (h201).2; have := (h221).1; have := (h221).2; have := (h223).1; have := (h223).2; have := (h_x24).1; have := (h_x24).2; have := (h38).1; have := (h38).2; have := (h59).1; have := (h59).2; omega
                    have hm232 : 400 - x230.toInt < (n_19 : Int) := by
                      have := (h_fa).1; have := (h_fa).2; have := (h_ln).1; have := (h_ln).2; have := (h_pa).1; have := (h_pa).2; have := (h44).1; have := (h44).2; have := (h228).1; have := (h228).2; omega
                    exact ih_19 2 1 x230 x222 x224 M217 R20 J216 H locs _ (iv_mono (iv_c (c := 2) (n := 2) (by decide)) (by decide) (by decide)) (iv_mono (iv_c (c := 1) (n := 1) (by decide)) (by decide) (by decide)) (iv_mono h228 (by decide) (by decide)) h221 k225 h223 k226 w231 hm232 hS (lv_sub hl [1, 2, 0, 4] rfl)
                  · have q233 : ¬ x53.toInt = 43 := ti_ne c197
                    refine lv_iload hx hb dX8_sum_102 (lv_at hl 0 rfl) ?_
                    refine lv_bipush (v := 45) hx hb dX8_sum_104 (by decide) ?_
                    refine lv_icmp_ne (tgt := 113) hx hb dX8_sum_106 (by decide) (fun c234 => ?_) (fun c234 => ?_)
                    · have q235 : ¬ x53.toInt = 45 := ti_ne c234
                      refine lv_iconst (v := 0) hx hb dX8_sum_113 (by decide) ?_
                      refine lv_istore_n (lv' := [(2, .int 0), (4, .int x53), (1, .int x16), (3, .int x18), (0, .ref (base + a0))]) hx hb dX8_sum_114 rfl hl (by decide) rfl (fun ls hl => ?_)
                      refine lv_iload_n hx hb dX8_sum_115 rfl (lv_at hl 0 rfl) ?_
                      refine lv_if_eq (tgt := 146) hx hb dX8_sum_116 (by decide) (fun _ => ?_) (fun h => absurd h (by decide))
                      refine tw_iinc (lv' := fun x238 => [(3, .int x238), (2, .int 0), (4, .int x53), (1, .int x16), (0, .ref (base + a0))]) (lo := 1) (hi := 400) hx hb dX8_sum_146 hl (k := 3) rfl h44 (by decide) ⟨by decide, by decide⟩ ⟨by decide, by decide⟩ (by decide) (fun _ => rfl) (fun x238 ls e237 h236 hl => ?_)
                      refine lv_goto (tgt := 10) hx hb dX8_sum_149 (by decide) ?_
                      have k239 : M193 a0 2 = x56 := (Fr.kp (k := 2) f190 hk_a0 rfl).trans k57
                      have k240 : M193 a0 3 = x26 := ((Fr.kp (k := 3) f190 hk_a0 rfl).trans (Fr.kp (k := 3) f47 hk_a0 rfl)).trans k27
                      have w241 : (x56.toInt ≤ ln.toInt ∨ x56.toInt ≤ pa.toInt) ∧ (¬ x26.toInt = 0 ∨ x56.toInt ≤ ln.toInt) ∧ (¬ x26.toInt = 0 ∨ fa.toInt = 0) := by
                        have := (h_fa).1; have := (h_fa).2; have := (h_ln).1; have := (h_ln).2; have := (h_pa).1; have := (h_pa).2; have := (h9).1; have := (h9).2; have := (h11).1; have := (h11).2; have := (h_x24).1; have := (h_x24).2; have := (h38).1; have := (h38).2; have := (h59).1; have := (h59).2; omega
                      have hm242 : 400 - x238.toInt < (n_19 : Int) := by
                        have := (h_fa).1; have := (h_fa).2; have := (h_ln).1; have := (h_ln).2; have := (h_pa).1; have := (h_pa).2; have := (h44).1; have := (h44).2; have := (h236).1; have := (h236).2; omega
                      exact ih_19 x16 0 x238 x56 x26 M193 R20 J192 H locs _ (iv_mono h189 (by decide) (by decide)) (iv_mono (iv_c (c := 0) (n := 0) (by decide)) (by decide) (by decide)) (iv_mono h236 (by decide) (by decide)) h59 k239 (iv_mono h38 (by decide) (by decide)) k240 w241 hm242 hS (lv_sub hl [3, 1, 0, 4] rfl)
                    · have q243 : x53.toInt = 45 := ti_eq c234
                      have h244 : iv 45 45 x53 := ⟨by have := (h_x53).1; have := ((iv_c (c := 45) (n := 45) (by decide))).1; omega, by have := (h_x53).2; have := ((iv_c (c := 45) (n := 45) (by decide))).2; omega⟩
                      refine lv_iconst (v := 1) hx hb dX8_sum_109 (by decide) ?_
                      refine lv_goto (tgt := 114) hx hb dX8_sum_110 (by decide) ?_
                      refine lv_istore_n (lv' := [(2, .int 1), (4, .int x53), (1, .int x16), (3, .int x18), (0, .ref (base + a0))]) hx hb dX8_sum_114 rfl hl (by decide) rfl (fun ls hl => ?_)
                      refine lv_iload_n hx hb dX8_sum_115 rfl (lv_at hl 0 rfl) ?_
                      refine lv_if_eq (tgt := 146) hx hb dX8_sum_116 (by decide) (fun h => absurd h (by decide)) (fun _ => ?_)
                      refine lv_aload_n hx hb dX8_sum_119 rfl (lv_at hl 4 rfl) ?_
                      refine lv_dup hx hb dX8_sum_120 rfl ?_
                      have k245 : M193 a0 2 = x56 := (Fr.kp (k := 2) f190 hk_a0 rfl).trans k57
                      refine tw_getk hx hb hW hown hK hS f_X8_36_8 hz_a0 hk_a0 (v := x56) k245 dX8_sum_121 ?_
                      refine lv_iconst (v := 1) hx hb dX8_sum_124 (by decide) ?_
                      refine tw_iadd (lo := 1) (hi := 421) hx hb h59 (iv_c (c := 1) (n := 1) (by decide)) ⟨by decide, by decide⟩ ⟨by decide, by decide⟩ dX8_sum_125 (fun x248 e247 h246 => ?_)
                      have e247 : x248.toInt = x56.toInt + 1 := e247
                      refine tw_puti hx hb hW hown hK hS f_X8_36_8 hz_a0 hk_a0 rfl rfl (lo := 0) (hi := 1000) rfl (iv_mono h246 (by decide) (by decide)) rfl dX8_sum_126 (fun H locs M251 hS k249 f250 => ?_)
                      refine lv_iload hx hb dX8_sum_129 (lv_at hl 1 rfl) ?_
                      refine lv_bipush (v := 43) hx hb dX8_sum_131 (by decide) ?_
                      refine lv_icmp_ne (tgt := 140) hx hb dX8_sum_133 (by decide) (fun c252 => ?_) (fun c252 => False.elim (by have q : x53.toInt = 43 := ti_eq c252; have := (h244).1; have := (h244).2; omega))
                      have q253 : ¬ x53.toInt = 43 := ti_ne c252
                      refine lv_iconst (v := 3) hx hb dX8_sum_140 (by decide) ?_
                      refine lv_istore_n (lv' := [(1, .int 3), (2, .int 1), (4, .int x53), (3, .int x18), (0, .ref (base + a0))]) hx hb dX8_sum_141 rfl hl (by decide) rfl (fun ls hl => ?_)
                      refine lv_aload_n hx hb dX8_sum_142 rfl (lv_at hl 4 rfl) ?_
                      have k254 : R20 a0 0 = some tb := (Fr.kp (k := 0) g23 hk_a0 rfl).trans k_tb
                      have k255 : M251 a0 1 = ln := ((Fr.kp (k := 1) f250 hk_a0 rfl).trans ((Fr.kp (k := 1) f190 hk_a0 rfl).trans ((Fr.kp (k := 1) f47 hk_a0 rfl).trans (Fr.kp (k := 1) f22 hk_a0 rfl)))).trans k_ln
                      have h256 : iv 0 420 x248 := by
                        have := (h_fa).1; have := (h_fa).2; have := (h_ln).1; have := (h_ln).2; have := (h_pa).1; have := (h_pa).2; have := (h9).1; have := (h9).2; have := (h11).1; have := (h11).2; have := (h_x24).1; have := (h_x24).2; have := (h246).1; have := (h246).2; have := (h38).1; have := (h38).2; have := (h59).1; have := (h59).2; exact ⟨by omega, by omega⟩
                      have k257 : M251 a0 3 = x26 := ((Fr.kp (k := 3) f250 hk_a0 rfl).trans ((Fr.kp (k := 3) f190 hk_a0 rfl).trans (Fr.kp (k := 3) f47 hk_a0 rfl))).trans k27
                      have q258 : ¬ x26.toInt = 0 ∨ x248.toInt ≤ ln.toInt := by
                        have := (h_fa).1; have := (h_fa).2; have := (h_ln).1; have := (h_ln).2; have := (h_pa).1; have := (h_pa).2; have := (h9).1; have := (h9).2; have := (h11).1; have := (h11).2; have := (h_x24).1; have := (h_x24).2; have := (h246).1; have := (h246).2; have := (h38).1; have := (h38).2; have := (h59).1; have := (h59).2; omega
                      refine tw_gov hS (md_runV (As := []) (rest := []) hx hb hml hown hW hK hT hS.1 (t_X8_value l D cy tx base Z K N M251 R20 J192 hS.2.1 a0 hz_a0 hk_a0 tb k254 ln k255 (iv_mono h_ln (by decide) (by decide)) x248 k249 h256 x26 k257 (iv_mono h38 (by decide) (by decide)) q258) s_X8_94 ⟨rfl, rfl, ⟨Nat.le_of_ble_eq_true rfl, Nat.le_of_ble_eq_true rfl⟩, ⟨Nat.le_of_ble_eq_true rfl, Nat.le_of_ble_eq_true rfl⟩⟩ hz_a0 hk_a0 (by decide) rfl rfl hl.1 rfl (Nat.le_of_ble_eq_true rfl) dX8_sum_143) rfl rfl (fun H locs M262 R263 J261 hS f259 g260 E264 => ?_)
                      have eR263 := Fr.nil g260 rfl
                      subst eR263
                      have p265 := E264
                      clear E264
                      obtain ⟨x267, x269, k270, k271, h266, h268, q272⟩ := p265
                      have k270 : M262 a0 2 = x267 := k270
                      have k271 : M262 a0 3 = x269 := k271
                      refine tw_iinc (lv' := fun x275 => [(3, .int x275), (1, .int 3), (2, .int 1), (4, .int x53), (0, .ref (base + a0))]) (lo := 1) (hi := 400) hx hb dX8_sum_146 hl (k := 3) rfl h44 (by decide) ⟨by decide, by decide⟩ ⟨by decide, by decide⟩ (by decide) (fun _ => rfl) (fun x275 ls e274 h273 hl => ?_)
                      refine lv_goto (tgt := 10) hx hb dX8_sum_149 (by decide) ?_
                      have w276 : (x267.toInt ≤ ln.toInt ∨ x267.toInt ≤ pa.toInt) ∧ (¬ x269.toInt = 0 ∨ x267.toInt ≤ ln.toInt) ∧ (¬ x269.toInt = 0 ∨ fa.toInt = 0) := by
                        have := (h_fa).1; have := (h_fa).2; have := (h_ln).1; have := (h_ln).2; have := (h_pa).1; have := (h_pa).2; have := (h9).1; have := (h9).2; have := (h11).1; have := (h11).2; have := (h_x24).1; have := (h_x24).2; have := (h246).1; have := (h246).2; have := (h38).1; have := (h38).2; have := (h266).1; have := (h266).2; have := (h268).1; have := (h268).2; have := (h59).1; have := (h59).2; omega
                      have hm277 : 400 - x275.toInt < (n_19 : Int) := by
                        have := (h_fa).1; have := (h_fa).2; have := (h_ln).1; have := (h_ln).2; have := (h_pa).1; have := (h_pa).2; have := (h44).1; have := (h44).2; have := (h273).1; have := (h273).2; omega
                      exact ih_19 3 1 x275 x267 x269 M262 R20 J261 H locs _ (iv_mono (iv_c (c := 3) (n := 3) (by decide)) (by decide) (by decide)) (iv_mono (iv_c (c := 1) (n := 1) (by decide)) (by decide) (by decide)) (iv_mono h273 (by decide) (by decide)) h266 k270 h268 k271 w276 hm277 hS (lv_sub hl [1, 2, 0, 4] rfl)
              · have q278 : x53.toInt = 47 := ti_eq c105
                have h279 : iv 47 47 x53 := ⟨by have := (h_x53).1; have := ((iv_c (c := 47) (n := 47) (by decide))).1; omega, by have := (h_x53).2; have := ((iv_c (c := 47) (n := 47) (by decide))).2; omega⟩
                refine lv_aload_n hx hb dX8_sum_48 rfl (lv_at hl 4 rfl) ?_
                refine lv_dup hx hb dX8_sum_49 rfl ?_
                refine tw_getk hx hb hW hown hK hS f_X8_36_8 hz_a0 hk_a0 (v := x56) k57 dX8_sum_50 ?_
                refine lv_iconst (v := 1) hx hb dX8_sum_53 (by decide) ?_
                refine tw_iadd (lo := 1) (hi := 421) hx hb h59 (iv_c (c := 1) (n := 1) (by decide)) ⟨by decide, by decide⟩ ⟨by decide, by decide⟩ dX8_sum_54 (fun x282 e281 h280 => ?_)
                have e281 : x282.toInt = x56.toInt + 1 := e281
                refine tw_puti hx hb hW hown hK hS f_X8_36_8 hz_a0 hk_a0 rfl rfl (lo := 0) (hi := 1000) rfl (iv_mono h280 (by decide) (by decide)) rfl dX8_sum_55 (fun H locs M285 hS k283 f284 => ?_)
                refine lv_aload_n hx hb dX8_sum_58 rfl (lv_at hl 4 rfl) ?_
                have k286 : R20 a0 0 = some tb := (Fr.kp (k := 0) g23 hk_a0 rfl).trans k_tb
                have k287 : M285 a0 1 = ln := ((Fr.kp (k := 1) f284 hk_a0 rfl).trans ((Fr.kp (k := 1) f47 hk_a0 rfl).trans (Fr.kp (k := 1) f22 hk_a0 rfl))).trans k_ln
                have h288 : iv 0 420 x282 := by
                  have := (h_fa).1; have := (h_fa).2; have := (h_ln).1; have := (h_ln).2; have := (h_pa).1; have := (h_pa).2; have := (h9).1; have := (h9).2; have := (h11).1; have := (h11).2; have := (h_x24).1; have := (h_x24).2; have := (h38).1; have := (h38).2; have := (h280).1; have := (h280).2; have := (h59).1; have := (h59).2; exact ⟨by omega, by omega⟩
                have k289 : M285 a0 3 = x26 := ((Fr.kp (k := 3) f284 hk_a0 rfl).trans (Fr.kp (k := 3) f47 hk_a0 rfl)).trans k27
                have q290 : ¬ x26.toInt = 0 ∨ x282.toInt ≤ ln.toInt := by
                  have := (h_fa).1; have := (h_fa).2; have := (h_ln).1; have := (h_ln).2; have := (h_pa).1; have := (h_pa).2; have := (h9).1; have := (h9).2; have := (h11).1; have := (h11).2; have := (h_x24).1; have := (h_x24).2; have := (h38).1; have := (h38).2; have := (h280).1; have := (h280).2; have := (h59).1; have := (h59).2; omega
                refine tw_gov hS (md_runV (As := []) (rest := []) hx hb hml hown hW hK hT hS.1 (t_X8_value l D cy tx base Z K N M285 R20 J49 hS.2.1 a0 hz_a0 hk_a0 tb k286 ln k287 (iv_mono h_ln (by decide) (by decide)) x282 k283 h288 x26 k289 (iv_mono h38 (by decide) (by decide)) q290) s_X8_94 ⟨rfl, rfl, ⟨Nat.le_of_ble_eq_true rfl, Nat.le_of_ble_eq_true rfl⟩, ⟨Nat.le_of_ble_eq_true rfl, Nat.le_of_ble_eq_true rfl⟩⟩ hz_a0 hk_a0 (by decide) rfl rfl hl.1 rfl (Nat.le_of_ble_eq_true rfl) dX8_sum_59) rfl rfl (fun H locs M294 R295 J293 hS f291 g292 E296 => ?_)
                have eR295 := Fr.nil g292 rfl
                subst eR295
                have p297 := E296
                clear E296
                obtain ⟨x299, x301, k302, k303, h298, h300, q304⟩ := p297
                have k302 : M294 a0 2 = x299 := k302
                have k303 : M294 a0 3 = x301 := k303
                refine lv_aload_n hx hb dX8_sum_62 rfl (lv_at hl 4 rfl) ?_
                refine lv_iload hx hb dX8_sum_63 (lv_at hl 0 rfl) ?_
                refine lv_bipush (v := 42) hx hb dX8_sum_65 (by decide) ?_
                refine lv_icmp_ne (tgt := 74) hx hb dX8_sum_67 (by decide) (fun c305 => ?_) (fun c305 => False.elim (by have q : x53.toInt = 42 := ti_eq c305; have := (h279).1; have := (h279).2; omega))
                have q306 : ¬ x53.toInt = 42 := ti_ne c305
                refine lv_iconst (v := 5) hx hb dX8_sum_74 (by decide) ?_
                refine lv_iconst (v := 0) hx hb dX8_sum_75 (by decide) ?_
                refine tw_goi hS (md_runV (As := [.int 5, .int 0]) (rest := []) hx hb hml hown hW hK hT hS.1 (t_X8_put l D cy tx base Z K N M294 R20 J293 hS.2.1 a0 hz_a0 hk_a0 5 (iv_mono (iv_c (c := 5) (n := 5) (by decide)) (by decide) (by decide)) 0 (iv_mono (iv_c (c := 0) (n := 0) (by decide)) (by decide) (by decide))) s_X8_54 ⟨rfl, rfl, ⟨Nat.le_of_ble_eq_true rfl, Nat.le_of_ble_eq_true rfl⟩, ⟨Nat.le_of_ble_eq_true rfl, Nat.le_of_ble_eq_true rfl⟩⟩ hz_a0 hk_a0 (by decide) rfl rfl hl.1 rfl (Nat.le_of_ble_eq_true rfl) dX8_sum_76) rfl rfl (fun x313 H locs M310 R311 J309 hS f307 g308 E312 => ?_)
                have eR311 := Fr.nil g308 rfl
                subst eR311
                have h_x313 := E312
                clear E312
                refine lv_pop hx hb dX8_sum_79 rfl ?_
                refine lv_goto (tgt := 146) hx hb dX8_sum_80 (by decide) ?_
                refine tw_iinc (lv' := fun x316 => [(3, .int x316), (4, .int x53), (1, .int x16), (2, .int x17), (0, .ref (base + a0))]) (lo := 1) (hi := 400) hx hb dX8_sum_146 hl (k := 3) rfl h44 (by decide) ⟨by decide, by decide⟩ ⟨by decide, by decide⟩ (by decide) (fun _ => rfl) (fun x316 ls e315 h314 hl => ?_)
                refine lv_goto (tgt := 10) hx hb dX8_sum_149 (by decide) ?_
                have k317 : M310 a0 2 = x299 := (Fr.kp (k := 2) f307 hk_a0 rfl).trans k302
                have k318 : M310 a0 3 = x301 := (Fr.kp (k := 3) f307 hk_a0 rfl).trans k303
                have w319 : (x299.toInt ≤ ln.toInt ∨ x299.toInt ≤ pa.toInt) ∧ (¬ x301.toInt = 0 ∨ x299.toInt ≤ ln.toInt) ∧ (¬ x301.toInt = 0 ∨ fa.toInt = 0) := by
                  have := (h_fa).1; have := (h_fa).2; have := (h_ln).1; have := (h_ln).2; have := (h_pa).1; have := (h_pa).2; have := (h9).1; have := (h9).2; have := (h11).1; have := (h11).2; have := (h_x24).1; have := (h_x24).2; have := (h38).1; have := (h38).2; have := (h280).1; have := (h280).2; have := (h298).1; have := (h298).2; have := (h300).1; have := (h300).2; have := (h59).1; have := (h59).2; omega
                have hm320 : 400 - x316.toInt < (n_19 : Int) := by
                  have := (h_fa).1; have := (h_fa).2; have := (h_ln).1; have := (h_ln).2; have := (h_pa).1; have := (h_pa).2; have := (h44).1; have := (h44).2; have := (h314).1; have := (h314).2; omega
                exact ih_19 x16 x17 x316 x299 x301 M310 R20 J309 H locs _ h_x16 (iv_mono h33 (by decide) (by decide)) (iv_mono h314 (by decide) (by decide)) h298 k317 h300 k318 w319 hm320 hS (lv_sub hl [2, 3, 0, 4] rfl)
  have w321 : (x10.toInt ≤ ln.toInt ∨ x10.toInt ≤ pa.toInt) ∧ (¬ x12.toInt = 0 ∨ x10.toInt ≤ ln.toInt) ∧ (¬ x12.toInt = 0 ∨ fa.toInt = 0) := by
    have := (h_fa).1; have := (h_fa).2; have := (h_ln).1; have := (h_ln).2; have := (h_pa).1; have := (h_pa).2; have := (h9).1; have := (h9).2; have := (h11).1; have := (h11).2; omega
  have hm322 : 400 - (0 : Int32).toInt < (((401 : Nat) : Int) : Int) := by
    have := (h_fa).1; have := (h_fa).2; have := (h_ln).1; have := (h_ln).2; have := (h_pa).1; have := (h_pa).2; have : (0 : Int32).toInt = 0 := (by decide); omega
  exact W10_19 401 (-1) 1 0 x10 x12 M5 Ra J4 H locs _ (iv_mono (iv_c (c := (-1)) (n := (-1)) (by decide)) (by decide) (by decide)) (iv_mono (iv_c (c := 1) (n := 1) (by decide)) (by decide) (by decide)) (iv_mono (iv_c (c := 0) (n := 0) (by decide)) (by decide) (by decide)) h9 k13 h11 k14 w321 hm322 hS (lv_sub hl [2, 1, 0, 3] rfl)
set_option maxRecDepth 100000 in
set_option maxHeartbeats 4000000 in
theorem t_X8_fact (l : Launch) (D : va_G) (cy : Nat → ClassId) (tx : (Nat → Nat) × (Nat → Nat)) (base Z : Nat) (K N : Nat → Nat) : ∀ (d : Nat), ∀ (Ma : MT) (Ra : RT) (Ja : JT) (hTy : Ty Z K N Ma Ra) (a0 : Nat) (hz_a0 : a0 < Z) (hk_a0 : K a0 = 9) (a1 : Int32) (h_a1 : iv 0 10 a1) (tb : Nat) (k_tb : Ra a0 0 = some tb) (ln : Int32) (k_ln : Ma a0 1 = ln) (h_ln : iv 0 400 ln) (pa : Int32) (k_pa : Ma a0 2 = pa) (h_pa : iv 0 400 pa) (fa : Int32) (k_fa : Ma a0 3 = fa) (h_fa : iv 0 0 fa) (hin : pa.toInt ≤ ln.toInt) (hmd : 10 - a1.toInt < (d : Int)), Met l yX8_fact [Cond.code yX8_fact cX8_fact 5 none] (md_rm (9 + 2 * d) 0 0) (va_Pc [.ref (base + a0), .int a1] (md_U D cy tx base Z K N Ma Ra Ja)) (mQv D cy tx base (fun u => TP Z K N Lt_X8_fact LRt_X8_fact Ma Ra u ∧ ((∃ x0 x1 : Int32, u.2.2.2.1 a0 2 = x0 ∧ u.2.2.2.1 a0 3 = x1 ∧ iv 0 420 x0 ∧ iv (-2147483648) 2147483647 x1 ∧ (x0.toInt ≤ 420 - a1.toInt ∧ (¬ x1.toInt = 0 ∨ x0.toInt ≤ ln.toInt)))))) 0 0 (fun q => base ≤ q) := by
  intro d
  induction d with
  | zero =>
    intro Ma Ra Ja hTy a0 hz_a0 hk_a0 a1 h_a1 tb k_tb ln k_ln h_ln pa k_pa h_pa fa k_fa h_fa hin hmd
    exfalso
    have := h_a1.2
    omega
  | succ d ih =>
    intro Ma Ra Ja hTy a0 hz_a0 hk_a0 a1 h_a1 tb k_tb ln k_ln h_ln pa k_pa h_pa fa k_fa h_fa hin hmd
    refine tw_ofW (L := Lt_X8_fact) (LR := LRt_X8_fact) (by decide) (Nat.le_of_ble_eq_true rfl) hTy ?_
    intro p e s m args below meth c Q ls hx hb hr hlocks hown hml hW hK hT hS hQ hl
    have hl : lv_has ls 5 [(0, .ref (base + a0)), (1, .int a1)] := hl
    obtain ⟨hz_tb, hk_tb, hn_tb⟩ := hTy.refn hz_a0 hk_a0 (show rtR 9 0 = (13, 400, 1) from rfl) k_tb
    have hn_tb := hn_tb (by decide)
    refine lv_aload_n hx hb dX8_fact_0 rfl (lv_at hl 0 rfl) ?_
    refine tw_goi hS (md_runU (As := []) (rest := []) hx hb hml hown hW hK hT hS.1 (t_X10_hereBehindBlanks l D cy tx base Z K N Ma Ra Ja hS.2.1 a0 hz_a0 hk_a0 tb k_tb ln k_ln (iv_mono h_ln (by decide) (by decide)) pa k_pa (iv_mono h_pa (by decide) (by decide))) s_X8_26_X8 ⟨rfl, rfl, ⟨by simp only [md_rm]; omega, by simp only [md_rm]; omega⟩, ⟨Nat.le_of_ble_eq_true rfl, Nat.le_of_ble_eq_true rfl⟩⟩ hz_a0 hk_a0 (by decide) rfl rfl hl.1 rfl (Nat.le_of_ble_eq_true rfl) dX8_fact_1) rfl rfl (fun x7 H locs M4 R5 J3 hS f1 g2 E6 => ?_)
    have eR5 := Fr.nil g2 rfl
    subst eR5
    obtain ⟨h_x7, p8⟩ := E6
    obtain ⟨x10, k11, h9, q12⟩ := p8
    have k11 : M4 a0 2 = x10 := k11
    have h13 : iv 0 400 x10 := by
      have := (h_a1).1; have := (h_a1).2; have := (h_fa).1; have := (h_fa).2; have := (h_ln).1; have := (h_ln).2; have := (h_pa).1; have := (h_pa).2; have := (h9).1; have := (h9).2; exact ⟨by omega, by omega⟩
    refine lv_bipush (v := 91) hx hb dX8_fact_4 (by decide) ?_
    refine lv_icmp_ne (tgt := 13) hx hb dX8_fact_6 (by decide) (fun c14 => ?_) (fun c14 => ?_)
    · have q15 : ¬ x7.toInt = 91 := ti_ne c14
      refine lv_iconst (v := 0) hx hb dX8_fact_13 (by decide) ?_
      refine lv_istore_n (lv' := [(2, .int 0), (0, .ref (base + a0)), (1, .int a1)]) hx hb dX8_fact_14 rfl hl (by decide) rfl (fun ls hl => ?_)
      refine lv_iload_n hx hb dX8_fact_15 rfl (lv_at hl 0 rfl) ?_
      refine lv_if_ne (tgt := 32) hx hb dX8_fact_16 (by decide) (fun h => absurd h (by decide)) (fun _ => ?_)
      refine lv_aload_n hx hb dX8_fact_19 rfl (lv_at hl 1 rfl) ?_
      refine va_ldcS hx hb hown hT.2.1.2.2.2.2.2 dX8_fact_20 ?_
      have k16 : M4 a0 1 = ln := (Fr.kp (k := 1) f1 hk_a0 rfl).trans k_ln
      refine tw_goi hS (md_runU (As := [.ref (tx.1 5)]) (rest := []) hx hb hml hown hW hK hT hS.1 (t_X10_whichWord l D cy tx base Z K N M4 Ra J3 hS.2.1 a0 hz_a0 hk_a0 5 (by decide) tb k_tb ln k16 (iv_mono h_ln (by decide) (by decide)) x10 k11 (iv_mono h13 (by decide) (by decide))) s_X8_32_X8 ⟨rfl, rfl, ⟨by simp only [md_rm]; omega, by simp only [md_rm]; omega⟩, ⟨Nat.le_of_ble_eq_true rfl, Nat.le_of_ble_eq_true rfl⟩⟩ hz_a0 hk_a0 (by decide) rfl rfl hl.1 rfl (Nat.le_of_ble_eq_true rfl) dX8_fact_22) rfl rfl (fun x23 H locs M20 R21 J19 hS f17 g18 E22 => ?_)
      have eR21 := Fr.nil g18 rfl
      subst eR21
      obtain ⟨h_x23, p24⟩ := E22
      obtain ⟨x26, k27, h25, q28⟩ := p24
      have k27 : M20 a0 4 = x26 := k27
      have h29 : iv 0 400 x26 := by
        have := (h_a1).1; have := (h_a1).2; have := (h_fa).1; have := (h_fa).2; have := (h_ln).1; have := (h_ln).2; have := (h_pa).1; have := (h_pa).2; have := (h13).1; have := (h13).2; have := (h25).1; have := (h25).2; exact ⟨by omega, by omega⟩
      refine lv_if_ne (tgt := 32) hx hb dX8_fact_25 (by decide) (fun c30 => ?_) (fun c30 => ?_)
      · have q31 : ¬ x23.toInt = 0 := ti_ne c30
        refine lv_iconst (v := 0) hx hb dX8_fact_32 (by decide) ?_
        refine lv_istore_n (lv' := [(3, .int 0), (2, .int 0), (0, .ref (base + a0)), (1, .int a1)]) hx hb dX8_fact_33 rfl hl (by decide) rfl (fun ls hl => ?_)
        refine lv_iload_n hx hb dX8_fact_34 rfl (lv_at hl 1 rfl) ?_
        refine lv_if_ne (tgt := 67) hx hb dX8_fact_35 (by decide) (fun h => absurd h (by decide)) (fun _ => ?_)
        refine lv_iload_n hx hb dX8_fact_38 rfl (lv_at hl 0 rfl) ?_
        refine lv_if_ne (tgt := 67) hx hb dX8_fact_39 (by decide) (fun h => absurd h (by decide)) (fun _ => ?_)
        refine lv_aload_n hx hb dX8_fact_42 rfl (lv_at hl 2 rfl) ?_
        have k32 : M20 a0 1 = ln := ((Fr.kp (k := 1) f17 hk_a0 rfl).trans (Fr.kp (k := 1) f1 hk_a0 rfl)).trans k_ln
        have k33 : M20 a0 2 = x10 := (Fr.kp (k := 2) f17 hk_a0 rfl).trans k11
        have k34 : M20 a0 3 = fa := ((Fr.kp (k := 3) f17 hk_a0 rfl).trans (Fr.kp (k := 3) f1 hk_a0 rfl)).trans k_fa
        have q35 : ¬ fa.toInt = 0 ∨ x10.toInt ≤ ln.toInt := by
          have := (h_a1).1; have := (h_a1).2; have := (h_fa).1; have := (h_fa).2; have := (h_ln).1; have := (h_ln).2; have := (h_pa).1; have := (h_pa).2; have := (h13).1; have := (h13).2; have := (h29).1; have := (h29).2; omega
        refine tw_gov hS (md_runV (As := []) (rest := []) hx hb hml hown hW hK hT hS.1 (t_X8_sum l D cy tx base Z K N M20 Ra J19 hS.2.1 a0 hz_a0 hk_a0 tb k_tb ln k32 (iv_mono h_ln (by decide) (by decide)) x10 k33 (iv_mono h13 (by decide) (by decide)) fa k34 (iv_mono h_fa (by decide) (by decide)) q35) s_X8_82 ⟨rfl, rfl, ⟨by simp only [md_rm]; omega, by simp only [md_rm]; omega⟩, ⟨Nat.le_of_ble_eq_true rfl, Nat.le_of_ble_eq_true rfl⟩⟩ hz_a0 hk_a0 (by decide) rfl rfl hl.1 rfl (Nat.le_of_ble_eq_true rfl) dX8_fact_43) rfl rfl (fun H locs M39 R40 J38 hS f36 g37 E41 => ?_)
        have eR40 := Fr.nil g37 rfl
        subst eR40
        have p42 := E41
        clear E41
        obtain ⟨x44, x46, k47, k48, h43, h45, q49⟩ := p42
        have k47 : M39 a0 2 = x44 := k47
        have k48 : M39 a0 3 = x46 := k48
        have h50 : iv 0 400 x44 := by
          have := (h_a1).1; have := (h_a1).2; have := (h_fa).1; have := (h_fa).2; have := (h_ln).1; have := (h_ln).2; have := (h_pa).1; have := (h_pa).2; have := (h13).1; have := (h13).2; have := (h29).1; have := (h29).2; have := (h43).1; have := (h43).2; have := (h45).1; have := (h45).2; exact ⟨by omega, by omega⟩
        refine lv_aload_n hx hb dX8_fact_46 rfl (lv_at hl 2 rfl) ?_
        have k51 : M39 a0 1 = ln := ((Fr.kp (k := 1) f36 hk_a0 rfl).trans ((Fr.kp (k := 1) f17 hk_a0 rfl).trans (Fr.kp (k := 1) f1 hk_a0 rfl))).trans k_ln
        have q52 : ¬ x46.toInt = 0 ∨ x44.toInt ≤ ln.toInt := by
          have := (h_a1).1; have := (h_a1).2; have := (h_fa).1; have := (h_fa).2; have := (h_ln).1; have := (h_ln).2; have := (h_pa).1; have := (h_pa).2; have := (h13).1; have := (h13).2; have := (h29).1; have := (h29).2; have := (h50).1; have := (h50).2; have := (h45).1; have := (h45).2; omega
        refine tw_goi hS (md_runV (As := []) (rest := []) hx hb hml hown hW hK hT hS.1 (t_X8_sign l D cy tx base Z K N M39 Ra J38 hS.2.1 a0 hz_a0 hk_a0 tb k_tb ln k51 (iv_mono h_ln (by decide) (by decide)) x44 k47 (iv_mono h50 (by decide) (by decide)) x46 k48 (iv_mono h45 (by decide) (by decide)) q52) s_X8_85 ⟨rfl, rfl, ⟨by simp only [md_rm]; omega, by simp only [md_rm]; omega⟩, ⟨Nat.le_of_ble_eq_true rfl, Nat.le_of_ble_eq_true rfl⟩⟩ hz_a0 hk_a0 (by decide) rfl rfl hl.1 rfl (Nat.le_of_ble_eq_true rfl) dX8_fact_47) rfl rfl (fun x59 H locs M56 R57 J55 hS f53 g54 E58 => ?_)
        have eR57 := Fr.nil g54 rfl
        subst eR57
        obtain ⟨h_x59, p60⟩ := E58
        obtain ⟨x62, x64, k65, k66, h61, h63, q67⟩ := p60
        have k65 : M56 a0 2 = x62 := k65
        have k66 : M56 a0 3 = x64 := k66
        refine lv_istore (lv' := [(4, .int x59), (3, .int 0), (2, .int 0), (0, .ref (base + a0)), (1, .int a1)]) hx hb dX8_fact_50 hl (by decide) rfl (fun ls hl => ?_)
        refine lv_aload_n hx hb dX8_fact_52 rfl (lv_at hl 3 rfl) ?_
        have k68 : M56 a0 1 = ln := ((Fr.kp (k := 1) f53 hk_a0 rfl).trans ((Fr.kp (k := 1) f36 hk_a0 rfl).trans ((Fr.kp (k := 1) f17 hk_a0 rfl).trans (Fr.kp (k := 1) f1 hk_a0 rfl)))).trans k_ln
        have h69 : iv 0 420 x62 := by
          have := (h_a1).1; have := (h_a1).2; have := (h_fa).1; have := (h_fa).2; have := (h_ln).1; have := (h_ln).2; have := (h_pa).1; have := (h_pa).2; have := (h13).1; have := (h13).2; have := (h29).1; have := (h29).2; have := (h50).1; have := (h50).2; have := (h45).1; have := (h45).2; have := (h61).1; have := (h61).2; have := (h63).1; have := (h63).2; exact ⟨by omega, by omega⟩
        have q70 : ¬ x64.toInt = 0 ∨ x62.toInt ≤ ln.toInt := by
          have := (h_a1).1; have := (h_a1).2; have := (h_fa).1; have := (h_fa).2; have := (h_ln).1; have := (h_ln).2; have := (h_pa).1; have := (h_pa).2; have := (h13).1; have := (h13).2; have := (h29).1; have := (h29).2; have := (h50).1; have := (h50).2; have := (h45).1; have := (h45).2; have := (h61).1; have := (h61).2; have := (h63).1; have := (h63).2; omega
        refine tw_gov hS (md_runV (As := []) (rest := []) hx hb hml hown hW hK hT hS.1 (t_X8_sum l D cy tx base Z K N M56 Ra J55 hS.2.1 a0 hz_a0 hk_a0 tb k_tb ln k68 (iv_mono h_ln (by decide) (by decide)) x62 k65 h69 x64 k66 (iv_mono h63 (by decide) (by decide)) q70) s_X8_82 ⟨rfl, rfl, ⟨by simp only [md_rm]; omega, by simp only [md_rm]; omega⟩, ⟨Nat.le_of_ble_eq_true rfl, Nat.le_of_ble_eq_true rfl⟩⟩ hz_a0 hk_a0 (by decide) rfl rfl hl.1 rfl (Nat.le_of_ble_eq_true rfl) dX8_fact_53) rfl rfl (fun H locs M74 R75 J73 hS f71 g72 E76 => ?_)
        have eR75 := Fr.nil g72 rfl
        subst eR75
        have p77 := E76
        clear E76
        obtain ⟨x79, x81, k82, k83, h78, h80, q84⟩ := p77
        have k82 : M74 a0 2 = x79 := k82
        have k83 : M74 a0 3 = x81 := k83
        refine lv_aload_n hx hb dX8_fact_56 rfl (lv_at hl 3 rfl) ?_
        refine lv_iload hx hb dX8_fact_57 (lv_at hl 0 rfl) ?_
        refine lv_iconst (v := 0) hx hb dX8_fact_59 (by decide) ?_
        refine tw_goi hS (md_runV (As := [.int x59, .int 0]) (rest := []) hx hb hml hown hW hK hT hS.1 (t_X8_put l D cy tx base Z K N M74 Ra J73 hS.2.1 a0 hz_a0 hk_a0 x59 (iv_mono h_x59 (by decide) (by decide)) 0 (iv_mono (iv_c (c := 0) (n := 0) (by decide)) (by decide) (by decide))) s_X8_54 ⟨rfl, rfl, ⟨by simp only [md_rm]; omega, by simp only [md_rm]; omega⟩, ⟨Nat.le_of_ble_eq_true rfl, Nat.le_of_ble_eq_true rfl⟩⟩ hz_a0 hk_a0 (by decide) rfl rfl hl.1 rfl (Nat.le_of_ble_eq_true rfl) dX8_fact_60) rfl rfl (fun x91 H locs M88 R89 J87 hS f85 g86 E90 => ?_)
        have eR89 := Fr.nil g86 rfl
        subst eR89
        have h_x91 := E90
        clear E90
        refine lv_pop hx hb dX8_fact_63 rfl ?_
        refine lv_goto (tgt := 156) hx hb dX8_fact_64 (by decide) ?_
        have k92 : M88 a0 2 = x79 := (Fr.kp (k := 2) f85 hk_a0 rfl).trans k82
        have k93 : M88 a0 3 = x81 := (Fr.kp (k := 3) f85 hk_a0 rfl).trans k83
        have q94 : x79.toInt ≤ 420 - a1.toInt ∧ (¬ x81.toInt = 0 ∨ x79.toInt ≤ ln.toInt) := by
          have := (h_a1).1; have := (h_a1).2; have := (h_fa).1; have := (h_fa).2; have := (h_ln).1; have := (h_ln).2; have := (h_pa).1; have := (h_pa).2; have := (h13).1; have := (h13).2; have := (h29).1; have := (h29).2; have := (h50).1; have := (h50).2; have := (h45).1; have := (h45).2; have := (h61).1; have := (h61).2; have := (h63).1; have := (h63).2; have := (h78).1; have := (h78).2; have := (h80).1; have := (h80).2; omega
        exact tw_endv hx hb hr hlocks hK hT hS hQ (⟨x79, x81, k92, k93, h78, h80, q94⟩) dX8_fact_156
      · have q95 : x23.toInt = 0 := ti_eq c30
        have h96 : iv 0 0 x23 := ⟨by have := (h_x23).1; have := ((iv_c (c := 0) (n := 0) (by decide))).1; omega, by have := (h_x23).2; have := ((iv_c (c := 0) (n := 0) (by decide))).2; omega⟩
        refine lv_iconst (v := 1) hx hb dX8_fact_28 (by decide) ?_
        refine lv_goto (tgt := 33) hx hb dX8_fact_29 (by decide) ?_
        refine lv_istore_n (lv' := [(3, .int 1), (2, .int 0), (0, .ref (base + a0)), (1, .int a1)]) hx hb dX8_fact_33 rfl hl (by decide) rfl (fun ls hl => ?_)
        refine lv_iload_n hx hb dX8_fact_34 rfl (lv_at hl 1 rfl) ?_
        refine lv_if_ne (tgt := 67) hx hb dX8_fact_35 (by decide) (fun h => absurd h (by decide)) (fun _ => ?_)
        refine lv_iload_n hx hb dX8_fact_38 rfl (lv_at hl 0 rfl) ?_
        refine lv_if_ne (tgt := 67) hx hb dX8_fact_39 (by decide) (fun _ => ?_) (fun h => absurd h (by decide))
        refine lv_iload_n hx hb dX8_fact_67 rfl (lv_at hl 3 rfl) ?_
        refine lv_bipush (v := 10) hx hb dX8_fact_68 (by decide) ?_
        refine lv_icmp_lt (tgt := 85) hx hb dX8_fact_70 (by decide) (fun c97 => ?_) (fun c97 => ?_)
        · have q98 : a1.toInt < 10 := ti_lt c97
          have h99 : iv 0 9 a1 := iv_ltL (y := 10) h_a1 (iv_c (c := 10) (n := 10) (by decide)) q98 (by decide)
          refine lv_iload_n hx hb dX8_fact_85 rfl (lv_at hl 0 rfl) ?_
          refine lv_if_eq (tgt := 111) hx hb dX8_fact_86 (by decide) (fun h => absurd h (by decide)) (fun _ => ?_)
          refine lv_aload_n hx hb dX8_fact_89 rfl (lv_at hl 2 rfl) ?_
          refine tw_gov hS (md_runU (As := []) (rest := []) hx hb hml hown hW hK hT hS.1 (t_X10_passWord l D cy tx base Z K N M20 Ra J19 hS.2.1 a0 hz_a0 hk_a0 x26 k27 (iv_mono h29 (by decide) (by decide))) s_X8_43_X8 ⟨rfl, rfl, ⟨by simp only [md_rm]; omega, by simp only [md_rm]; omega⟩, ⟨Nat.le_of_ble_eq_true rfl, Nat.le_of_ble_eq_true rfl⟩⟩ hz_a0 hk_a0 (by decide) rfl rfl hl.1 rfl (Nat.le_of_ble_eq_true rfl) dX8_fact_90) rfl rfl (fun H locs M103 R104 J102 hS f100 g101 E105 => ?_)
          have eR104 := Fr.nil g101 rfl
          subst eR104
          have p106 := E105
          clear E105
          have k107 : M103 a0 2 = x26 := p106
          refine lv_aload_n hx hb dX8_fact_93 rfl (lv_at hl 2 rfl) ?_
          refine lv_iload_n hx hb dX8_fact_94 rfl (lv_at hl 3 rfl) ?_
          refine lv_iconst (v := 1) hx hb dX8_fact_95 (by decide) ?_
          refine tw_iadd (lo := 1) (hi := 10) hx hb h99 (iv_c (c := 1) (n := 1) (by decide)) ⟨by decide, by decide⟩ ⟨by decide, by decide⟩ dX8_fact_96 (fun x110 e109 h108 => ?_)
          have e109 : x110.toInt = a1.toInt + 1 := e109
          have k111 : M103 a0 1 = ln := ((Fr.kp (k := 1) f100 hk_a0 rfl).trans ((Fr.kp (k := 1) f17 hk_a0 rfl).trans (Fr.kp (k := 1) f1 hk_a0 rfl))).trans k_ln
          have k112 : M103 a0 3 = fa := ((Fr.kp (k := 3) f100 hk_a0 rfl).trans ((Fr.kp (k := 3) f17 hk_a0 rfl).trans (Fr.kp (k := 3) f1 hk_a0 rfl))).trans k_fa
          have q113 : x26.toInt ≤ ln.toInt := by
            have := (h99).1; have := (h99).2; have := (h_fa).1; have := (h_fa).2; have := (h_ln).1; have := (h_ln).2; have := (h_pa).1; have := (h_pa).2; have := (h13).1; have := (h13).2; have := (h29).1; have := (h29).2; omega
          have hm114 : 10 - x110.toInt < (d : Int) := by
            have := (h99).1; have := (h99).2; have := (h_fa).1; have := (h_fa).2; have := (h_ln).1; have := (h_ln).2; have := (h_pa).1; have := (h_pa).2; have := (h108).1; have := (h108).2; omega
          refine tw_gov hS (md_runV (As := [.int x110]) (rest := []) hx hb hml hown hW hK hT hS.1 (ih M103 Ra J102 hS.2.1 a0 hz_a0 hk_a0 x110 (iv_mono h108 (by decide) (by decide)) tb k_tb ln k111 (iv_mono h_ln (by decide) (by decide)) x26 k107 (iv_mono h29 (by decide) (by decide)) fa k112 (iv_mono h_fa (by decide) (by decide)) q113 hm114) s_X8_75 ⟨rfl, rfl, ⟨by simp only [md_rm]; omega, by simp only [md_rm]; omega⟩, ⟨Nat.le_of_ble_eq_true rfl, Nat.le_of_ble_eq_true rfl⟩⟩ hz_a0 hk_a0 (by decide) rfl rfl hl.1 rfl (Nat.le_of_ble_eq_true rfl) dX8_fact_97) rfl rfl (fun H locs M118 R119 J117 hS f115 g116 E120 => ?_)
          have eR119 := Fr.nil g116 rfl
          subst eR119
          have p121 := E120
          clear E120
          obtain ⟨x123, x125, k126, k127, h122, h124, q128⟩ := p121
          have k126 : M118 a0 2 = x123 := k126
          have k127 : M118 a0 3 = x125 := k127
          refine lv_aload_n hx hb dX8_fact_100 rfl (lv_at hl 2 rfl) ?_
          refine lv_bipush (v := 11) hx hb dX8_fact_101 (by decide) ?_
          refine lv_iconst (v := 0) hx hb dX8_fact_103 (by decide) ?_
          refine tw_goi hS (md_runV (As := [.int 11, .int 0]) (rest := []) hx hb hml hown hW hK hT hS.1 (t_X8_put l D cy tx base Z K N M118 Ra J117 hS.2.1 a0 hz_a0 hk_a0 11 (iv_mono (iv_c (c := 11) (n := 11) (by decide)) (by decide) (by decide)) 0 (iv_mono (iv_c (c := 0) (n := 0) (by decide)) (by decide) (by decide))) s_X8_54 ⟨rfl, rfl, ⟨by simp only [md_rm]; omega, by simp only [md_rm]; omega⟩, ⟨Nat.le_of_ble_eq_true rfl, Nat.le_of_ble_eq_true rfl⟩⟩ hz_a0 hk_a0 (by decide) rfl rfl hl.1 rfl (Nat.le_of_ble_eq_true rfl) dX8_fact_104) rfl rfl (fun x135 H locs M132 R133 J131 hS f129 g130 E134 => ?_)
          have eR133 := Fr.nil g130 rfl
          subst eR133
          have h_x135 := E134
          clear E134
          refine lv_pop hx hb dX8_fact_107 rfl ?_
          refine lv_goto (tgt := 156) hx hb dX8_fact_108 (by decide) ?_
          have k136 : M132 a0 2 = x123 := (Fr.kp (k := 2) f129 hk_a0 rfl).trans k126
          have k137 : M132 a0 3 = x125 := (Fr.kp (k := 3) f129 hk_a0 rfl).trans k127
          have q138 : x123.toInt ≤ 420 - a1.toInt ∧ (¬ x125.toInt = 0 ∨ x123.toInt ≤ ln.toInt) := by
            have := (h99).1; have := (h99).2; have := (h_fa).1; have := (h_fa).2; have := (h_ln).1; have := (h_ln).2; have := (h_pa).1; have := (h_pa).2; have := (h13).1; have := (h13).2; have := (h108).1; have := (h108).2; have := (h122).1; have := (h122).2; have := (h124).1; have := (h124).2; have := (h29).1; have := (h29).2; omega
          exact tw_endv hx hb hr hlocks hK hT hS hQ (⟨x123, x125, k136, k137, h122, h124, q138⟩) dX8_fact_156
        · have q139 : 10 ≤ a1.toInt := ti_nlt c97
          have h140 : iv 10 10 a1 := iv_geL (y := 10) h_a1 (iv_c (c := 10) (n := 10) (by decide)) q139 (by decide)
          refine lv_aload_n hx hb dX8_fact_73 rfl (lv_at hl 2 rfl) ?_
          refine lv_aload_n hx hb dX8_fact_74 rfl (lv_at hl 2 rfl) ?_
          have k141 : M20 a0 2 = x10 := (Fr.kp (k := 2) f17 hk_a0 rfl).trans k11
          refine tw_getk hx hb hW hown hK hS f_X8_36_8 hz_a0 hk_a0 (v := x10) k141 dX8_fact_75 ?_
          refine lv_iconst (v := 2) hx hb dX8_fact_78 (by decide) ?_
          refine tw_gov hS (md_runU (As := [.int x10, .int 2]) (rest := []) hx hb hml hown hW hK hT hS.1 (t_X10_fail l D cy tx base Z K N M20 Ra J19 hS.2.1 a0 hz_a0 hk_a0 x10 (iv_mono h13 (by decide) (by decide)) 2 (iv_mono (iv_c (c := 2) (n := 2) (by decide)) (by decide) (by decide))) s_X8_39_X8 ⟨rfl, rfl, ⟨by simp only [md_rm]; omega, by simp only [md_rm]; omega⟩, ⟨Nat.le_of_ble_eq_true rfl, Nat.le_of_ble_eq_true rfl⟩⟩ hz_a0 hk_a0 (by decide) rfl rfl hl.1 rfl (Nat.le_of_ble_eq_true rfl) dX8_fact_79) rfl rfl (fun H locs M145 R146 J144 hS f142 g143 E147 => ?_)
          have eR146 := Fr.nil g143 rfl
          subst eR146
          have p148 := E147
          clear E147
          obtain ⟨x150, k151, h149, q152⟩ := p148
          have k151 : M145 a0 3 = x150 := k151
          refine lv_goto (tgt := 156) hx hb dX8_fact_82 (by decide) ?_
          have k153 : M145 a0 2 = x10 := (Fr.kp (k := 2) f142 hk_a0 rfl).trans k141
          have q154 : x10.toInt ≤ 420 - a1.toInt ∧ (¬ x150.toInt = 0 ∨ x10.toInt ≤ ln.toInt) := by
            have := (h140).1; have := (h140).2; have := (h_fa).1; have := (h_fa).2; have := (h_ln).1; have := (h_ln).2; have := (h_pa).1; have := (h_pa).2; have := (h13).1; have := (h13).2; have := (h149).1; have := (h149).2; have := (h29).1; have := (h29).2; omega
          exact tw_endv hx hb hr hlocks hK hT hS hQ (⟨x10, x150, k153, k151, (iv_mono h13 (by decide) (by decide)), h149, q154⟩) dX8_fact_156
    · have q155 : x7.toInt = 91 := ti_eq c14
      have h156 : iv 91 91 x7 := ⟨by have := (h_x7).1; have := ((iv_c (c := 91) (n := 91) (by decide))).1; omega, by have := (h_x7).2; have := ((iv_c (c := 91) (n := 91) (by decide))).2; omega⟩
      refine lv_iconst (v := 1) hx hb dX8_fact_9 (by decide) ?_
      refine lv_goto (tgt := 14) hx hb dX8_fact_10 (by decide) ?_
      refine lv_istore_n (lv' := [(2, .int 1), (0, .ref (base + a0)), (1, .int a1)]) hx hb dX8_fact_14 rfl hl (by decide) rfl (fun ls hl => ?_)
      refine lv_iload_n hx hb dX8_fact_15 rfl (lv_at hl 0 rfl) ?_
      refine lv_if_ne (tgt := 32) hx hb dX8_fact_16 (by decide) (fun _ => ?_) (fun h => absurd h (by decide))
      refine lv_iconst (v := 0) hx hb dX8_fact_32 (by decide) ?_
      refine lv_istore_n (lv' := [(3, .int 0), (2, .int 1), (0, .ref (base + a0)), (1, .int a1)]) hx hb dX8_fact_33 rfl hl (by decide) rfl (fun ls hl => ?_)
      refine lv_iload_n hx hb dX8_fact_34 rfl (lv_at hl 1 rfl) ?_
      refine lv_if_ne (tgt := 67) hx hb dX8_fact_35 (by decide) (fun _ => ?_) (fun h => absurd h (by decide))
      refine lv_iload_n hx hb dX8_fact_67 rfl (lv_at hl 3 rfl) ?_
      refine lv_bipush (v := 10) hx hb dX8_fact_68 (by decide) ?_
      refine lv_icmp_lt (tgt := 85) hx hb dX8_fact_70 (by decide) (fun c157 => ?_) (fun c157 => ?_)
      · have q158 : a1.toInt < 10 := ti_lt c157
        have h159 : iv 0 9 a1 := iv_ltL (y := 10) h_a1 (iv_c (c := 10) (n := 10) (by decide)) q158 (by decide)
        refine lv_iload_n hx hb dX8_fact_85 rfl (lv_at hl 0 rfl) ?_
        refine lv_if_eq (tgt := 111) hx hb dX8_fact_86 (by decide) (fun _ => ?_) (fun h => absurd h (by decide))
        refine lv_aload_n hx hb dX8_fact_111 rfl (lv_at hl 2 rfl) ?_
        refine lv_dup hx hb dX8_fact_112 rfl ?_
        refine tw_getk hx hb hW hown hK hS f_X8_36_8 hz_a0 hk_a0 (v := x10) k11 dX8_fact_113 ?_
        refine lv_iconst (v := 1) hx hb dX8_fact_116 (by decide) ?_
        refine tw_iadd (lo := 1) (hi := 401) hx hb h13 (iv_c (c := 1) (n := 1) (by decide)) ⟨by decide, by decide⟩ ⟨by decide, by decide⟩ dX8_fact_117 (fun x162 e161 h160 => ?_)
        have e161 : x162.toInt = x10.toInt + 1 := e161
        refine tw_puti hx hb hW hown hK hS f_X8_36_8 hz_a0 hk_a0 rfl rfl (lo := 0) (hi := 1000) rfl (iv_mono h160 (by decide) (by decide)) rfl dX8_fact_118 (fun H locs M165 hS k163 f164 => ?_)
        refine lv_aload_n hx hb dX8_fact_121 rfl (lv_at hl 2 rfl) ?_
        refine lv_iload_n hx hb dX8_fact_122 rfl (lv_at hl 3 rfl) ?_
        refine lv_iconst (v := 1) hx hb dX8_fact_123 (by decide) ?_
        refine tw_iadd (lo := 1) (hi := 10) hx hb h159 (iv_c (c := 1) (n := 1) (by decide)) ⟨by decide, by decide⟩ ⟨by decide, by decide⟩ dX8_fact_124 (fun x168 e167 h166 => ?_)
        have e167 : x168.toInt = a1.toInt + 1 := e167
        have k169 : M165 a0 1 = ln := ((Fr.kp (k := 1) f164 hk_a0 rfl).trans (Fr.kp (k := 1) f1 hk_a0 rfl)).trans k_ln
        have h170 : iv 0 400 x162 := by
          have := (h159).1; have := (h159).2; have := (h_fa).1; have := (h_fa).2; have := (h_ln).1; have := (h_ln).2; have := (h_pa).1; have := (h_pa).2; have := (h13).1; have := (h13).2; have := (h160).1; have := (h160).2; exact ⟨by omega, by omega⟩
        have k171 : M165 a0 3 = fa := ((Fr.kp (k := 3) f164 hk_a0 rfl).trans (Fr.kp (k := 3) f1 hk_a0 rfl)).trans k_fa
        have q172 : x162.toInt ≤ ln.toInt := by
          have := (h159).1; have := (h159).2; have := (h_fa).1; have := (h_fa).2; have := (h_ln).1; have := (h_ln).2; have := (h_pa).1; have := (h_pa).2; have := (h13).1; have := (h13).2; have := (h160).1; have := (h160).2; omega
        have hm173 : 10 - x168.toInt < (d : Int) := by
          have := (h159).1; have := (h159).2; have := (h_fa).1; have := (h_fa).2; have := (h_ln).1; have := (h_ln).2; have := (h_pa).1; have := (h_pa).2; have := (h166).1; have := (h166).2; omega
        refine tw_gov hS (md_runV (As := [.int x168]) (rest := []) hx hb hml hown hW hK hT hS.1 (t_X8_test l D cy tx base Z K N d ih M165 Ra J3 hS.2.1 a0 hz_a0 hk_a0 x168 (iv_mono h166 (by decide) (by decide)) tb k_tb ln k169 (iv_mono h_ln (by decide) (by decide)) x162 k163 h170 fa k171 (iv_mono h_fa (by decide) (by decide)) q172 hm173) s_X8_48 ⟨rfl, rfl, ⟨by simp only [md_rm]; omega, by simp only [md_rm]; omega⟩, ⟨Nat.le_of_ble_eq_true rfl, Nat.le_of_ble_eq_true rfl⟩⟩ hz_a0 hk_a0 (by decide) rfl rfl hl.1 rfl (Nat.le_of_ble_eq_true rfl) dX8_fact_125) rfl rfl (fun H locs M177 R178 J176 hS f174 g175 E179 => ?_)
        have eR178 := Fr.nil g175 rfl
        subst eR178
        have p180 := E179
        clear E179
        obtain ⟨x182, x184, k185, k186, h181, h183, q187⟩ := p180
        have k185 : M177 a0 2 = x182 := k185
        have k186 : M177 a0 3 = x184 := k186
        refine lv_aload_n hx hb dX8_fact_128 rfl (lv_at hl 2 rfl) ?_
        have k188 : M177 a0 1 = ln := ((Fr.kp (k := 1) f174 hk_a0 rfl).trans ((Fr.kp (k := 1) f164 hk_a0 rfl).trans (Fr.kp (k := 1) f1 hk_a0 rfl))).trans k_ln
        refine tw_goi hS (md_runU (As := []) (rest := []) hx hb hml hown hW hK hT hS.1 (t_X10_hereBehindBlanks l D cy tx base Z K N M177 Ra J176 hS.2.1 a0 hz_a0 hk_a0 tb k_tb ln k188 (iv_mono h_ln (by decide) (by decide)) x182 k185 (iv_mono h181 (by decide) (by decide))) s_X8_26_X8 ⟨rfl, rfl, ⟨by simp only [md_rm]; omega, by simp only [md_rm]; omega⟩, ⟨Nat.le_of_ble_eq_true rfl, Nat.le_of_ble_eq_true rfl⟩⟩ hz_a0 hk_a0 (by decide) rfl rfl hl.1 rfl (Nat.le_of_ble_eq_true rfl) dX8_fact_129) rfl rfl (fun x195 H locs M192 R193 J191 hS f189 g190 E194 => ?_)
        have eR193 := Fr.nil g190 rfl
        subst eR193
        obtain ⟨h_x195, p196⟩ := E194
        obtain ⟨x198, k199, h197, q200⟩ := p196
        have k199 : M192 a0 2 = x198 := k199
        have h201 : iv 0 420 x198 := by
          have := (h159).1; have := (h159).2; have := (h_fa).1; have := (h_fa).2; have := (h_ln).1; have := (h_ln).2; have := (h_pa).1; have := (h_pa).2; have := (h13).1; have := (h13).2; have := (h166).1; have := (h166).2; have := (h181).1; have := (h181).2; have := (h183).1; have := (h183).2; have := (h197).1; have := (h197).2; exact ⟨by omega, by omega⟩
        refine lv_bipush (v := 93) hx hb dX8_fact_132 (by decide) ?_
        refine lv_icmp_eq (tgt := 146) hx hb dX8_fact_134 (by decide) (fun c202 => ?_) (fun c202 => ?_)
        · have q203 : x195.toInt = 93 := ti_eq c202
          have h204 : iv 93 93 x195 := ⟨by have := (h_x195).1; have := ((iv_c (c := 93) (n := 93) (by decide))).1; omega, by have := (h_x195).2; have := ((iv_c (c := 93) (n := 93) (by decide))).2; omega⟩
          refine lv_aload_n hx hb dX8_fact_146 rfl (lv_at hl 2 rfl) ?_
          refine lv_dup hx hb dX8_fact_147 rfl ?_
          refine tw_getk hx hb hW hown hK hS f_X8_36_8 hz_a0 hk_a0 (v := x198) k199 dX8_fact_148 ?_
          refine lv_iconst (v := 1) hx hb dX8_fact_151 (by decide) ?_
          refine tw_iadd (lo := 1) (hi := 421) hx hb h201 (iv_c (c := 1) (n := 1) (by decide)) ⟨by decide, by decide⟩ ⟨by decide, by decide⟩ dX8_fact_152 (fun x207 e206 h205 => ?_)
          have e206 : x207.toInt = x198.toInt + 1 := e206
          refine tw_puti hx hb hW hown hK hS f_X8_36_8 hz_a0 hk_a0 rfl rfl (lo := 0) (hi := 1000) rfl (iv_mono h205 (by decide) (by decide)) rfl dX8_fact_153 (fun H locs M210 hS k208 f209 => ?_)
          have h211 : iv 0 420 x207 := by
            have := (h159).1; have := (h159).2; have := (h_fa).1; have := (h_fa).2; have := (h_ln).1; have := (h_ln).2; have := (h_pa).1; have := (h_pa).2; have := (h13).1; have := (h13).2; have := (h166).1; have := (h166).2; have := (h181).1; have := (h181).2; have := (h183).1; have := (h183).2; have := (h201).1; have := (h201).2; have := (h205).1; have := (h205).2; exact ⟨by omega, by omega⟩
          have k212 : M210 a0 3 = x184 := ((Fr.kp (k := 3) f209 hk_a0 rfl).trans (Fr.kp (k := 3) f189 hk_a0 rfl)).trans k186
          have q213 : x207.toInt ≤ 420 - a1.toInt ∧ (¬ x184.toInt = 0 ∨ x207.toInt ≤ ln.toInt) := by
            have := (h159).1; have := (h159).2; have := (h_fa).1; have := (h_fa).2; have := (h_ln).1; have := (h_ln).2; have := (h_pa).1; have := (h_pa).2; have := (h13).1; have := (h13).2; have := (h166).1; have := (h166).2; have := (h181).1; have := (h181).2; have := (h183).1; have := (h183).2; have := (h201).1; have := (h201).2; have := (h205).1; have := (h205).2; omega
          exact tw_endv hx hb hr hlocks hK hT hS hQ (⟨x207, x184, k208, k212, h211, h183, q213⟩) dX8_fact_156
        · have q214 : ¬ x195.toInt = 93 := ti_ne c202
          refine lv_aload_n hx hb dX8_fact_137 rfl (lv_at hl 2 rfl) ?_
          refine lv_aload_n hx hb dX8_fact_138 rfl (lv_at hl 2 rfl) ?_
          refine tw_getk hx hb hW hown hK hS f_X8_36_8 hz_a0 hk_a0 (v := x198) k199 dX8_fact_139 ?_
          refine lv_iconst (v := 0) hx hb dX8_fact_142 (by decide) ?_
          refine tw_gov hS (md_runU (As := [.int x198, .int 0]) (rest := []) hx hb hml hown hW hK hT hS.1 (t_X10_fail l D cy tx base Z K N M192 Ra J191 hS.2.1 a0 hz_a0 hk_a0 x198 (iv_mono h201 (by decide) (by decide)) 0 (iv_mono (iv_c (c := 0) (n := 0) (by decide)) (by decide) (by decide))) s_X8_39_X8 ⟨rfl, rfl, ⟨by simp only [md_rm]; omega, by simp only [md_rm]; omega⟩, ⟨Nat.le_of_ble_eq_true rfl, Nat.le_of_ble_eq_true rfl⟩⟩ hz_a0 hk_a0 (by decide) rfl rfl hl.1 rfl (Nat.le_of_ble_eq_true rfl) dX8_fact_143) rfl rfl (fun H locs M218 R219 J217 hS f215 g216 E220 => ?_)
          have eR219 := Fr.nil g216 rfl
          subst eR219
          have p221 := E220
          clear E220
          obtain ⟨x223, k224, h222, q225⟩ := p221
          have k224 : M218 a0 3 = x223 := k224
          refine lv_aload_n hx hb dX8_fact_146 rfl (lv_at hl 2 rfl) ?_
          refine lv_dup hx hb dX8_fact_147 rfl ?_
          have k226 : M218 a0 2 = x198 := (Fr.kp (k := 2) f215 hk_a0 rfl).trans k199
          refine tw_getk hx hb hW hown hK hS f_X8_36_8 hz_a0 hk_a0 (v := x198) k226 dX8_fact_148 ?_
          refine lv_iconst (v := 1) hx hb dX8_fact_151 (by decide) ?_
          refine tw_iadd (lo := 1) (hi := 421) hx hb h201 (iv_c (c := 1) (n := 1) (by decide)) ⟨by decide, by decide⟩ ⟨by decide, by decide⟩ dX8_fact_152 (fun x229 e228 h227 => ?_)
          have e228 : x229.toInt = x198.toInt + 1 := e228
          refine tw_puti hx hb hW hown hK hS f_X8_36_8 hz_a0 hk_a0 rfl rfl (lo := 0) (hi := 1000) rfl (iv_mono h227 (by decide) (by decide)) rfl dX8_fact_153 (fun H locs M232 hS k230 f231 => ?_)
          have h233 : iv 0 420 x229 := by
            have := (h159).1; have := (h159).2; have := (h_fa).1; have := (h_fa).2; have := (h_ln).1; have := (h_ln).2; have := (h_pa).1; have := (h_pa).2; have := (h13).1; have := (h13).2; have := (h166).1; have := (h166).2; have := (h181).1; have := (h181).2; have := (h183).1; have := (h183).2; have := (h201).1; have := (h201).2; have := (h227).1; have := (h227).2; exact ⟨by omega, by omega⟩
          have k234 : M232 a0 3 = x223 := (Fr.kp (k := 3) f231 hk_a0 rfl).trans k224
          have q235 : x229.toInt ≤ 420 - a1.toInt ∧ (¬ x223.toInt = 0 ∨ x229.toInt ≤ ln.toInt) := by
            have := (h159).1; have := (h159).2; have := (h_fa).1; have := (h_fa).2; have := (h_ln).1; have := (h_ln).2; have := (h_pa).1; have := (h_pa).2; have := (h13).1; have := (h13).2; have := (h166).1; have := (h166).2; have := (h181).1; have := (h181).2; have := (h183).1; have := (h183).2; have := (h201).1; have := (h201).2; have := (h222).1; have := (h222).2; have := (h227).1; have := (h227).2; omega
          exact tw_endv hx hb hr hlocks hK hT hS hQ (⟨x229, x223, k230, k234, h233, h222, q235⟩) dX8_fact_156
      · have q236 : 10 ≤ a1.toInt := ti_nlt c157
        have h237 : iv 10 10 a1 := iv_geL (y := 10) h_a1 (iv_c (c := 10) (n := 10) (by decide)) q236 (by decide)
        refine lv_aload_n hx hb dX8_fact_73 rfl (lv_at hl 2 rfl) ?_
        refine lv_aload_n hx hb dX8_fact_74 rfl (lv_at hl 2 rfl) ?_
        refine tw_getk hx hb hW hown hK hS f_X8_36_8 hz_a0 hk_a0 (v := x10) k11 dX8_fact_75 ?_
        refine lv_iconst (v := 2) hx hb dX8_fact_78 (by decide) ?_
        refine tw_gov hS (md_runU (As := [.int x10, .int 2]) (rest := []) hx hb hml hown hW hK hT hS.1 (t_X10_fail l D cy tx base Z K N M4 Ra J3 hS.2.1 a0 hz_a0 hk_a0 x10 (iv_mono h13 (by decide) (by decide)) 2 (iv_mono (iv_c (c := 2) (n := 2) (by decide)) (by decide) (by decide))) s_X8_39_X8 ⟨rfl, rfl, ⟨by simp only [md_rm]; omega, by simp only [md_rm]; omega⟩, ⟨Nat.le_of_ble_eq_true rfl, Nat.le_of_ble_eq_true rfl⟩⟩ hz_a0 hk_a0 (by decide) rfl rfl hl.1 rfl (Nat.le_of_ble_eq_true rfl) dX8_fact_79) rfl rfl (fun H locs M241 R242 J240 hS f238 g239 E243 => ?_)
        have eR242 := Fr.nil g239 rfl
        subst eR242
        have p244 := E243
        clear E243
        obtain ⟨x246, k247, h245, q248⟩ := p244
        have k247 : M241 a0 3 = x246 := k247
        refine lv_goto (tgt := 156) hx hb dX8_fact_82 (by decide) ?_
        have k249 : M241 a0 2 = x10 := (Fr.kp (k := 2) f238 hk_a0 rfl).trans k11
        have q250 : x10.toInt ≤ 420 - a1.toInt ∧ (¬ x246.toInt = 0 ∨ x10.toInt ≤ ln.toInt) := by
          have := (h237).1; have := (h237).2; have := (h_fa).1; have := (h_fa).2; have := (h_ln).1; have := (h_ln).2; have := (h_pa).1; have := (h_pa).2; have := (h13).1; have := (h13).2; have := (h245).1; have := (h245).2; omega
        exact tw_endv hx hb hr hlocks hK hT hS hQ (⟨x10, x246, k249, k247, (iv_mono h13 (by decide) (by decide)), h245, q250⟩) dX8_fact_156
