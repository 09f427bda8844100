set_option maxRecDepth 100000 in
set_option maxHeartbeats 4000000 in
theorem t_X8_fact (l : Launch) (D : va_G) (cy : Nat → ClassId) (tx : (Nat → Nat) × (Nat → Nat)) (base Z : Nat) (K N : Nat → Nat) : ∀ (d : Nat), ∀ (Ma : MT) (Ra : RT) (Ja : JT) (hTy : Ty Z K N Ma Ra) (a0 : Nat) (hz_a0 : a0 < Z) (hk_a0 : K a0 = 9) (a1 : Int32) (h_a1 : iv 0 10 a1) (tb : Nat) (k_tb : Ra a0 0 = some tb) (ln : Int32) (k_ln : Ma a0 1 = ln) (h_ln : iv 0 400 ln) (pa : Int32) (k_pa : Ma a0 2 = pa) (h_pa : iv 0 400 pa) (fa : Int32) (k_fa : Ma a0 3 = fa) (h_fa : iv 0 0 fa) (hin : pa.toInt ≤ ln.toInt) (hmd : 10 - a1.toInt < (d : Int)), Met l yX8_fact [Cond.code yX8_fact cX8_fact 5 none] (md_rm (9 + 2 * d) 0 0) (va_Pc [.ref (base + a0), .int a1] (md_U D cy tx base Z K N Ma Ra Ja)) (mQv D cy tx base (fun u => TP Z K N Lt_X8_fact LRt_X8_fact Ma Ra u ∧ ((∃ x0 x1 : Int32, u.2.2.2.1 a0 2 = x0 ∧ u.2.2.2.1 a0 3 = x1 ∧ iv 0 420 x0 ∧ iv (-2147483648) 2147483647 x1 ∧ (x0.toInt ≤ 420 - a1.toInt ∧ (¬ x1.toInt = 0 ∨ x0.toInt ≤ ln.toInt)))))) 0 0 (fun q => base ≤ q) := by
  intro d
  induction d with
  | zero =>
    intro Ma Ra Ja hTy a0 hz_a0 hk_a0 a1 h_a1 tb k_tb ln k_ln h_ln pa k_pa h_pa fa k_fa h_fa hin hmd
    exfalso
    have := h_a1.2
    omega
  | succ d ih =>
    intro Ma Ra Ja hTy a0 hz_a0 hk_a0 a1 h_a1 tb k_tb ln k_ln h_ln pa k_pa h_pa fa k_fa h_fa hin hmd
    refine tw_ofW (L := Lt_X8_fact) (LR := LRt_X8_fact) (by decide) (Nat.le_of_ble_eq_true rfl) hTy ?_
    intro p e s m args below meth c Q ls hx hb hr hlocks hown hml hW hK hT hS hQ hl
    have hl : lv_has ls 5 [(0, .ref (base + a0)), (1, .int a1)] := hl
    obtain ⟨hz_tb, hk_tb, hn_tb⟩ := hTy.refn hz_a0 hk_a0 (show rtR 9 0 = (13, 400, 1) from rfl) k_tb
    have hn_tb := hn_tb (by decide)
    refine lv_aload_n hx hb dX8_fact_0 rfl (lv_at hl 0 rfl) ?_
    refine tw_goi hS (md_runU (As := []) (rest := []) hx hb hml hown hW hK hT hS.1 (t_X10_hereBehindBlanks l D cy tx base Z K N Ma Ra Ja hS.2.1 a0 hz_a0 hk_a0 tb k_tb ln k_ln (iv_mono h_ln (by decide) (by decide)) pa k_pa (iv_mono h_pa (by decide) (by decide))) s_X8_26_X8 ⟨rfl, rfl, ⟨by simp only [md_rm]; omega, by simp only [md_rm]; omega⟩, ⟨Nat.le_of_ble_eq_true rfl, Nat.le_of_ble_eq_true rfl⟩⟩ hz_a0 hk_a0 (by decide) rfl rfl hl.1 rfl (Nat.le_of_ble_eq_true rfl) dX8_fact_1) rfl rfl (fun x7 H locs M4 R5 J3 hS f1 g2 E6 => ?_)
    have eR5 := Fr.nil g2 rfl
    subst eR5
    obtain ⟨h_x7, p8⟩ := E6
    obtain ⟨x10, k11, h9, q12⟩ := p8
    have k11 : M4 a0 2 = x10 := k11
    have h13 : iv 0 400 x10 := by
      have := (h_a1).1; have := (h_a1).2; have := (h_fa).1; have := (h_fa).2; have := (h_ln).1; have := (h_ln).2; have := (h_pa).1; have := (h_pa).2; have := (h9).1; have := (h9).2; exact ⟨by omega, by omega⟩
    refine lv_bipush (v := 91) hx hb dX8_fact_4 (by decide) ?_
    refine lv_icmp_ne (tgt := 13) hx hb dX8_fact_6 (by decide) (fun c14 => ?_) (fun c14 => ?_)
    · have q15 : ¬ x7.toInt = 91 := ti_ne c14
      refine lv_iconst (v := 0) hx hb dX8_fact_13 (by decide) ?_
      refine lv_istore_n (lv' := [(2, .int 0), (0, .ref (base + a0)), (1, .int a1)]) hx hb dX8_fact_14 rfl hl (by decide) rfl (fun ls hl => ?_)
      refine lv_iload_n hx hb dX8_fact_15 rfl (lv_at hl 0 rfl) ?_
      refine lv_if_ne (tgt := 32) hx hb dX8_fact_16 (by decide) (fun h => absurd h (by decide)) (fun _ => ?_)
      refine lv_aload_n hx hb dX8_fact_19 rfl (lv_at hl 1 rfl) ?_
      refine va_ldcS hx hb hown hT.2.1.2.2.2.2.2 dX8_fact_20 ?_
      have k16 : M4 a0 1 = ln := (Fr.kp (k := 1) f1 hk_a0 rfl).trans k_ln
      refine tw_goi hS (md_runU (As := [.ref (tx.1 5)]) (rest := []) hx hb hml hown hW hK hT hS.1 (t_X10_whichWord l D cy tx base Z K N M4 Ra J3 hS.2.1 a0 hz_a0 hk_a0 5 (by decide) tb k_tb ln k16 (iv_mono h_ln (by decide) (by decide)) x10 k11 (iv_mono h13 (by decide) (by decide))) s_X8_32_X8 ⟨rfl, rfl, ⟨by simp only [md_rm]; omega, by simp only [md_rm]; omega⟩, ⟨Nat.le_of_ble_eq_true rfl, Nat.le_of_ble_eq_true rfl⟩⟩ hz_a0 hk_a0 (by decide) rfl rfl hl.1 rfl (Nat.le_of_ble_eq_true rfl) dX8_fact_22) rfl rfl (fun x23 H locs M20 R21 J19 hS f17 g18 E22 => ?_)
      have eR21 := Fr.nil g18 rfl
      subst eR21
      obtain ⟨h_x23, p24⟩ := E22
      obtain ⟨x26, k27, h25, q28⟩ := p24
      have k27 : M20 a0 4 = x26 := k27
      have h29 : iv 0 400 x26 := by
        have := (h_a1).1; have := (h_a1).2; have := (h_fa).1; have := (h_fa).2; have := (h_ln).1; have := (h_ln).2; have := (h_pa).1; have := (h_pa).2; have := (h13).1; have := (h13).2; have := (h25).1; have := (h25).2; exact ⟨by omega, by omega⟩
      refine lv_if_ne (tgt := 32) hx hb dX8_fact_25 (by decide) (fun c30 => ?_) (fun c30 => ?_)
      · have q31 : ¬ x23.toInt = 0 := ti_ne c30
        refine lv_iconst (v := 0) hx hb dX8_fact_32 (by decide) ?_
        refine lv_istore_n (lv' := [(3, .int 0), (2, .int 0), (0, .ref (base + a0)), (1, .int a1)]) hx hb dX8_fact_33 rfl hl (by decide) rfl (fun ls hl => ?_)
        refine lv_iload_n hx hb dX8_fact_34 rfl (lv_at hl 1 rfl) ?_
        refine lv_if_ne (tgt := 67) hx hb dX8_fact_35 (by decide) (fun h => absurd h (by decide)) (fun _ => ?_)
        refine lv_iload_n hx hb dX8_fact_38 rfl (lv_at hl 0 rfl) ?_
        refine lv_if_ne (tgt := 67) hx hb dX8_fact_39 (by decide) (fun h => absurd h (by decide)) (fun _ => ?_)
        refine lv_aload_n hx hb dX8_fact_42 rfl (lv_at hl 2 rfl) ?_
        have k32 : M20 a0 1 = ln := ((Fr.kp (k := 1) f17 hk_a0 rfl).trans (Fr.kp (k := 1) f1 hk_a0 rfl)).trans k_ln
        have k33 : M20 a0 2 = x10 := (Fr.kp (k := 2) f17 hk_a0 rfl).trans k11
        have k34 : M20 a0 3 = fa := ((Fr.kp (k := 3) f17 hk_a0 rfl).trans (Fr.kp (k := 3) f1 hk_a0 rfl)).trans k_fa
        have q35 : ¬ fa.toInt = 0 ∨ x10.toInt ≤ ln.toInt := by
          have := (h_a1).1; have := (h_a1).2; have := (h_fa).1; have := (h_fa).2; have := (h_ln).1; have := (h_ln).2; have := (h_pa).1; have := (h_pa).2; have := (h13).1; have := (h13).2; have := (h29).1; have := (h29).2; omega
        refine tw_gov hS (md_runV (As := []) (rest := []) hx hb hml hown hW hK hT hS.1 (t_X8_sum l D cy tx base Z K N M20 Ra J19 hS.2.1 a0 hz_a0 hk_a0 tb k_tb ln k32 (iv_mono h_ln (by decide) (by decide)) x10 k33 (iv_mono h13 (by decide) (by decide)) fa k34 (iv_mono h_fa (by decide) (by decide)) q35) s_X8_82 ⟨rfl, rfl, ⟨by simp only [md_rm]; omega, by simp only [md_rm]; omega⟩, ⟨Nat.le_of_ble_eq_true rfl, Nat.le_of_ble_eq_true rfl⟩⟩ hz_a0 hk_a0 (by decide) rfl rfl hl.1 rfl (Nat.le_of_ble_eq_true rfl) dX8_fact_43) rfl rfl (fun H locs M39 R40 J38 hS f36 g37 E41 => ?_)
        have eR40 := Fr.nil g37 rfl
        subst eR40
        have p42 := E41
        clear E41
        obtain ⟨x44, x46, k47, k48, h43, h45, q49⟩ := p42
        have k47 : M39 a0 2 = x44 := k47
        have k48 : M39 a0 3 = x46 := k48
        have h50 : iv 0 400 x44 := by
          have := (h_a1).1; have := (h_a1).2; have := (h_fa).1; have := (h_fa).2; have := (h_ln).1; have := (h_ln).2; have := (h_pa).1; have := (h_pa).2; have := (h13).1; have := (h13).2; have := (h29).1; have := (h29).2; have := (h43).1; have := (h43).2; have := (h45).1; have := (h45).2; exact ⟨by omega, by omega⟩
        refine lv_aload_n hx hb dX8_fact_46 rfl (lv_at hl 2 rfl) ?_
        have k51 : M39 a0 1 = ln := ((Fr.kp (k := 1) f36 hk_a0 rfl).trans ((Fr.kp (k := 1) f17 hk_a0 rfl).trans (Fr.kp (k := 1) f1 hk_a0 rfl))).trans k_ln
        have q52 : ¬ x46.toInt = 0 ∨ x44.toInt ≤ ln.toInt := by
          have := (h_a1).1; have := (h_a1).2; have := (h_fa).1; have := (h_fa).2; have := (h_ln).1; have := (h_ln).2; have := (h_pa).1; have := (h_pa).2; have := (h13).1; have := (h13).2; have := (h29).1; have := (h29).2; have := (h50).1; have := (h50).2; have := (h45).1; have := (h45).2; omega
        refine tw_goi hS (md_runV (As := []) (rest := []) hx hb hml hown hW hK hT hS.1 (t_X8_sign l D cy tx base Z K N M39 Ra J38 hS.2.1 a0 hz_a0 hk_a0 tb k_tb ln k51 (iv_mono h_ln (by decide) (by decide)) x44 k47 (iv_mono h50 (by decide) (by decide)) x46 k48 (iv_mono h45 (by decide) (by decide)) q52) s_X8_85 ⟨rfl, rfl, ⟨by simp only [md_rm]; omega, by simp only [md_rm]; omega⟩, ⟨Nat.le_of_ble_eq_true rfl, Nat.le_of_ble_eq_true rfl⟩⟩ hz_a0 hk_a0 (by decide) rfl rfl hl.1 rfl (Nat.le_of_ble_eq_true rfl) dX8_fact_47) rfl rfl (fun x59 H locs M56 R57 J55 hS f53 g54 E58 => ?_)
        have eR57 := Fr.nil g54 rfl
        subst eR57
        obtain ⟨h_x59, p60⟩ := E58
        obtain ⟨x62, x64, k65, k66, h61, h63, q67⟩ := p60
        have k65 : M56 a0 2 = x62 := k65
        have k66 : M56 a0 3 = x64 := k66
        refine lv_istore (lv' := [(4, .int x59), (3, .int 0), (2, .int 0), (0, .ref (base + a0)), (1, .int a1)]) hx hb dX8_fact_50 hl (by decide) rfl (fun ls hl => ?_)
        refine lv_aload_n hx hb dX8_fact_52 rfl (lv_at hl 3 rfl) ?_
        have k68 : M56 a0 1 = ln := ((Fr.kp (k := 1) f53 hk_a0 rfl).trans ((Fr.kp (k := 1) f36 hk_a0 rfl).trans ((Fr.kp (k := 1) f17 hk_a0 rfl).trans (Fr.kp (k := 1) f1 hk_a0 rfl)))).trans k_ln
        have h69 : iv 0 420 x62 := by
          have := (h_a1).1; have := (h_a1).2; have := (h_fa).1; have := (h_fa).2; have := (h_ln).1; have := (h_ln).2; have := (h_pa).1; have := (h_pa).2; have := (h13).1; have := (h13).2; have := (h29).1; have := (h29).2; have := (h50).1; have := (h50).2; have := (h45).1; have := (h45).2; have := (h61).1; have := (h61).2; have := (h63).1; have := (h63).2; exact ⟨by omega, by omega⟩
        have q70 : ¬ x64.toInt = 0 ∨ x62.toInt ≤ ln.toInt := by
          have := (h_a1).1; have := (h_a1).2; have := (h_fa).1; have := (h_fa).2; have := (h_ln).1; have := (h_ln).2; have := (h_pa).1; have := (h_pa).2; have := (h13).1; have := (h13).2; have := (h29).1; have := (h29).2; have := (h50).1; have := (h50).2; have := (h45).1; have := (h45).2; have := (h61).1; have := (h61).2; have := (h63).1; have := (h63).2; omega
        refine tw_gov hS (md_runV (As := []) (rest := []) hx hb hml hown hW hK hT hS.1 (t_X8_sum l D cy tx base Z K N M56 Ra J55 hS.2.1 a0 hz_a0 hk_a0 tb k_tb ln k68 (iv_mono h_ln (by decide) (by decide)) x62 k65 h69 x64 k66 (iv_mono h63 (by decide) (by decide)) q70) s_X8_82 ⟨rfl, rfl, ⟨by simp only [md_rm]; omega, by simp only [md_rm]; omega⟩, ⟨Nat.le_of_ble_eq_true rfl, Nat.le_of_ble_eq_true rfl⟩⟩ hz_a0 hk_a0 (by decide) rfl rfl hl.1 rfl (Nat.le_of_ble_eq_true rfl) dX8_fact_53) rfl rfl (fun H locs M74 R75 J73 hS f71 g72 E76 => ?_)
        have eR75 := Fr.nil g72 rfl
        subst eR75
        have p77 := E76
        clear E76
        obtain ⟨x79, x81, k82, k83, h78, h80, q84⟩ := p77
        have k82 : M74 a0 2 = x79 := k82
        have k83 : M74 a0 3 = x81 := k83
        refine lv_aload_n hx hb dX8_fact_56 rfl (lv_at hl 3 rfl) ?_
        refine lv_iload hx hb dX8_fact_57 (lv_at hl 0 rfl) ?_
        refine lv_iconst (v := 0) hx hb dX8_fact_59 (by decide) ?_
        refine tw_goi hS (md_runV (As := [.int x59, .int 0]) (rest := []) hx hb hml hown hW hK hT hS.1 (t_X8_put l D cy tx base Z K N M74 Ra J73 hS.2.1 a0 hz_a0 hk_a0 x59 (iv_mono h_x59 (by decide) (by decide)) 0 (iv_mono (iv_c (c := 0) (n := 0) (by decide)) (by decide) (by decide))) s_X8_54 ⟨rfl, rfl, ⟨by simp only [md_rm]; omega, by simp only [md_rm]; omega⟩, ⟨Nat.le_of_ble_eq_true rfl, Nat.le_of_ble_eq_true rfl⟩⟩ hz_a0 hk_a0 (by decide) rfl rfl hl.1 rfl (Nat.le_of_ble_eq_true rfl) dX8_fact_60) rfl rfl (fun x91 H locs M88 R89 J87 hS f85 g86 E90 => ?_)
        have eR89 := Fr.nil g86 rfl
        subst eR89
        have h_x91 := E90
        clear E90
        refine lv_pop hx hb dX8_fact_63 rfl ?_
        refine lv_goto (tgt := 156) hx hb dX8_fact_64 (by decide) ?_
        have k92 : M88 a0 2 = x79 := (Fr.kp (k := 2) f85 hk_a0 rfl).trans k82
        have k93 : M88 a0 3 = x81 := (Fr.kp (k := 3) f85 hk_a0 rfl).trans k83
        have q94 : x79.toInt ≤ 420 - a1.toInt ∧ (¬ x81.toInt = 0 ∨ x79.toInt ≤ ln.toInt) := by
          have := (h_a1).1; have := (h_a1).2; have := (h_fa).1; have := (h_fa).2; have := (h_ln).1; have := (h_ln).2; have := (h_pa).1; have := (h_pa).2; have := (h13).1; have := (h13).2; have := (h29).1; have := (h29).2; have := (h50).1; have := (h50).2; have := (h45).1; have := (h45).2; have := (h61).1; have := (h61).2; have := (h63).1; have := (h63).2; have := (h78).1; have := (h78).2; have := (h80).1; have := (h80).2; omega
        exact tw_endv hx hb hr hlocks hK hT hS hQ (⟨x79, x81, k92, k93, h78, h80, q94⟩) dX8_fact_156
      · have q95 : x23.toInt = 0 := ti_eq c30
        have h96 : iv 0 0 x23 := ⟨by have := (h_x23).1; have := ((iv_c (c := 0) (n := 0) (by decide))).1; omega, by have := (h_x23).2; have := ((iv_c (c := 0) (n := 0) (by decide))).2; omega⟩
        refine lv_iconst (v := 1) hx hb dX8_fact_28 (by decide) ?_
        refine lv_goto (tgt := 33) hx hb dX8_fact_29 (by decide) ?_
        refine lv_istore_n (lv' := [(3, .int 1), (2, .int 0), (0, .ref (base + a0)), (1, .int a1)]) hx hb dX8_fact_33 rfl hl (by decide) rfl (fun ls hl => ?_)
        refine lv_iload_n hx hb dX8_fact_34 rfl (lv_at hl 1 rfl) ?_
        refine lv_if_ne (tgt := 67) hx hb dX8_fact_35 (by decide) (fun h => absurd h (by decide)) (fun _ => ?_)
        refine lv_iload_n hx hb dX8_fact_38 rfl (lv_at hl 0 rfl) ?_
        refine lv_if_ne (tgt := 67) hx hb dX8_fact_39 (by decide) (fun _ => ?_) (fun h => absurd h (by decide))
        refine lv_iload_n hx hb dX8_fact_67 rfl (lv_at hl 3 rfl) ?_
        refine lv_bipush (v := 10) hx hb dX8_fact_68 (by decide) ?_
        refine lv_icmp_lt (tgt := 85) hx hb dX8_fact_70 (by decide) (fun c97 => ?_) (fun c97 => ?_)
        · have q98 : a1.toInt < 10 := ti_lt c97
          have h99 : iv 0 9 a1 := iv_ltL (y := 10) h_a1 (iv_c (c := 10) (n := 10) (by decide)) q98 (by decide)
          refine lv_iload_n hx hb dX8_fact_85 rfl (lv_at hl 0 rfl) ?_
          refine lv_if_eq (tgt := 111) hx hb dX8_fact_86 (by decide) (fun h => absurd h (by decide)) (fun _ => ?_)
          refine lv_aload_n hx hb dX8_fact_89 rfl (lv_at hl 2 rfl) ?_
          refine tw_gov hS (md_runU (As := []) (rest := []) hx hb hml hown hW hK hT hS.1 (t_X10_passWord l D cy tx base Z K N M20 Ra J19 hS.2.1 a0 hz_a0 hk_a0 x26 k27 (iv_mono h29 (by decide) (by decide))) s_X8_43_X8 ⟨rfl, rfl, ⟨by simp only [md_rm]; omega, by simp only [md_rm]; omega⟩, ⟨Nat.le_of_ble_eq_true rfl, Nat.le_of_ble_eq_true rfl⟩⟩ hz_a0 hk_a0 (by decide) rfl rfl hl.1 rfl (Nat.le_of_ble_eq_true rfl) dX8_fact_90) rfl rfl (fun H locs M103 R104 J102 hS f100 g101 E105 => ?_)
          have eR104 := Fr.nil g101 rfl
          subst eR104
          have p106 := E105
          clear E105
          have k107 : M103 a0 2 = x26 := p106
          refine lv_aload_n hx hb dX8_fact_93 rfl (lv_at hl 2 rfl) ?_
          refine lv_iload_n hx hb dX8_fact_94 rfl (lv_at hl 3 rfl) ?_
          refine lv_iconst (v := 1) hx hb dX8_fact_95 (by decide) ?_
          refine tw_iadd (lo := 1) (hi := 10) hx hb h99 (iv_c (c := 1) (n := 1) (by decide)) ⟨by decide, by decide⟩ ⟨by decide, by decide⟩ dX8_fact_96 (fun x110 e109 h108 => ?_)
          have e109 : x110.toInt = a1.toInt + 1 := e109
          have k111 : M103 a0 1 = ln := ((Fr.kp (k := 1) f100 hk_a0 rfl).trans ((Fr.kp (k := 1) f17 hk_a0 rfl).trans (Fr.kp (k := 1) f1 hk_a0 rfl))).trans k_ln
          have k112 : M103 a0 3 = fa := ((Fr.kp (k := 3) f100 hk_a0 rfl).trans ((Fr.kp (k := 3) f17 hk_a0 rfl).trans (Fr.kp (k := 3) f1 hk_a0 rfl))).trans k_fa
          have q113 : x26.toInt ≤ ln.toInt := by
            have := (h99).1; have := (h99).2; have := (h_fa).1; have := (h_fa).2; have := (h_ln).1; have := (h_ln).2; have := (h_pa).1; have := (h_pa).2; have := (h13).1; have := (h13).2; have := (h29).1; have := (h29).2; omega
          have hm114 : 10 - x110.toInt < (d : Int) := by
            have := (h99).1; have := (h99).2; have := (h_fa).1; have := (h_fa).2; have := (h_ln).1; have := (h_ln).2; have := (h_pa).1; have := (h_pa).2; have := (h108).1; have := (h108).2; omega
          refine tw_gov hS (md_runV (As := [.int x110]) (rest := []) hx hb hml hown hW hK hT hS.1 (ih M103 Ra J102 hS.2.1 a0 hz_a0 hk_a0 x110 (iv_mono h108 (by decide) (by decide)) tb k_tb ln k111 (iv_mono h_ln (by decide) (by decide)) x26 k107 (iv_mono h29 (by decide) (by decide)) fa k112 (iv_mono h_fa (by decide) (by decide)) q113 hm114) s_X8_75 ⟨rfl, rfl, ⟨by simp only [md_rm]; omega, by simp only [md_rm]; omega⟩, ⟨Nat.le_of_ble_eq_true rfl, Nat.le_of_ble_eq_true rfl⟩⟩ hz_a0 hk_a0 (by decide) rfl rfl hl.1 rfl (Nat.le_of_ble_eq_true rfl) dX8_fact_97) rfl rfl (fun H locs M118 R119 J117 hS f115 g116 E120 => ?_)
          have eR119 := Fr.nil g116 rfl
          subst eR119
          have p121 := E120
          clear E120
          obtain ⟨x123, x125, k126, k127, h122, h124, q128⟩ := p121
          have k126 : M118 a0 2 = x123 := k126
          have k127 : M118 a0 3 = x125 := k127
          refine lv_aload_n hx hb dX8_fact_100 rfl (lv_at hl 2 rfl) ?_
          refine lv_bipush (v := 11) hx hb dX8_fact_101 (by decide) ?_
          refine lv_iconst (v := 0) hx hb dX8_fact_103 (by decide) ?_
          refine tw_goi hS (md_runV (As := [.int 11, .int 0]) (rest := []) hx hb hml hown hW hK hT hS.1 (t_X8_put l D cy tx base Z K N M118 Ra J117 hS.2.1 a0 hz_a0 hk_a0 11 (iv_mono (iv_c (c := 11) (n := 11) (by decide)) (by decide) (by decide)) 0 (iv_mono (iv_c (c := 0) (n := 0) (by decide)) (by decide) (by decide))) s_X8_54 ⟨rfl, rfl, ⟨by simp only [md_rm]; omega, by simp only [md_rm]; omega⟩, ⟨Nat.le_of_ble_eq_true rfl, Nat.le_of_ble_eq_true rfl⟩⟩ hz_a0 hk_a0 (by decide) rfl rfl hl.1 rfl (Nat.le_of_ble_eq_true rfl) dX8_fact_104) rfl rfl (fun x135 H locs M132 R133 J131 hS f129 g130 E134 => ?_)
          have eR133 := Fr.nil g130 rfl
          subst eR133
          have h_x135 := E134
          clear E134
          refine lv_pop hx hb dX8_fact_107 rfl ?_
          refine lv_goto (tgt := 156) hx hb dX8_fact_108 (by decide) ?_
          have k136 : M132 a0 2 = x123 := (Fr.kp (k := 2) f129 hk_a0 rfl).trans k126
          have k137 : M132 a0 3 = x125 := (Fr.kp (k := 3) f129 hk_a0 rfl).trans k127
          have q138 : x123.toInt ≤ 420 - a1.toInt ∧ (¬ x125.toInt = 0 ∨ x123.toInt ≤ ln.toInt) := by
            have := (h99).1; have := (h99).2; have := (h_fa).1; have := (h_fa).2; have := (h_ln).1; have := (h_ln).2; have := (h_pa).1; have := (h_pa).2; have := (h13).1; have := (h13).2; have := (h108).1; have := (h108).2; have := (h122).1; have := (h122).2; have := (h124).1; have := (h124).2; have := (h29).1; have := (h29).2; omega
          exact tw_endv hx hb hr hlocks hK hT hS hQ (⟨x123, x125, k136, k137, h122, h124, q138⟩) dX8_fact_156
        · have q139 : 10 ≤ a1.toInt := ti_nlt c97
          have h140 : iv 10 10 a1 := iv_geL (y := 10) h_a1 (iv_c (c := 10) (n := 10) (by decide)) q139 (by decide)
          refine lv_aload_n hx hb dX8_fact_73 rfl (lv_at hl 2 rfl) ?_
          refine lv_aload_n hx hb dX8_fact_74 rfl (lv_at hl 2 rfl) ?_
          have k141 : M20 a0 2 = x10 := (Fr.kp (k := 2) f17 hk_a0 rfl).trans k11
          refine tw_getk hx hb hW hown hK hS f_X8_36_8 hz_a0 hk_a0 (v := x10) k141 dX8_fact_75 ?_
          refine lv_iconst (v := 2) hx hb dX8_fact_78 (by decide) ?_
          refine tw_gov hS (md_runU (As := [.int x10, .int 2]) (rest := []) hx hb hml hown hW hK hT hS.1 (t_X10_fail l D cy tx base Z K N M20 Ra J19 hS.2.1 a0 hz_a0 hk_a0 x10 (iv_mono h13 (by decide) (by decide)) 2 (iv_mono (iv_c (c := 2) (n := 2) (by decide)) (by decide) (by decide))) s_X8_39_X8 ⟨rfl, rfl, ⟨by simp only [md_rm]; omega, by simp only [md_rm]; omega⟩, ⟨Nat.le_of_ble_eq_true rfl, Nat.le_of_ble_eq_true rfl⟩⟩ hz_a0 hk_a0 (by decide) rfl rfl hl.1 rfl (Nat.le_of_ble_eq_true rfl) dX8_fact_79) rfl rfl (fun H locs M145 R146 J144 hS f142 g143 E147 => ?_)
          have eR146 := Fr.nil g143 rfl
          subst eR146
          have p148 := E147
          clear E147
          obtain ⟨x150, k151, h149, q152⟩ := p148
          have k151 : M145 a0 3 = x150 := k151
          refine lv_goto (tgt := 156) hx hb dX8_fact_82 (by decide) ?_
          have k153 : M145 a0 2 = x10 := (Fr.kp (k := 2) f142 hk_a0 rfl).trans k141
          have q154 : x10.toInt ≤ 420 - a1.toInt ∧ (¬ x150.toInt = 0 ∨ x10.toInt ≤ ln.toInt) := by
            have := (h140).1; have := (h140).2; have := (h_fa).1; have := (h_fa).2; have := (h_ln).1; have := (h_ln).2; have := (h_pa).1; have := (h_pa).2; have := (h13).1; have := (h13).2; have := (h149).1; have := (h149).2; have := (h29).1; have := (h29).2; omega
          exact tw_endv hx hb hr hlocks hK hT hS hQ (⟨x10, x150, k153, k151, (iv_mono h13 (by decide) (by decide)), h149, q154⟩) dX8_fact_156
    · have q155 : x7.toInt = 91 := ti_eq c14
      have h156 : iv 91 91 x7 := ⟨by have := (h_x7).1; have := ((iv_c (c := 91) (n := 91) (by decide))).1; omega, by have := (h_x7).2; have := ((iv_c (c := 91) (n := 91) (by decide))).2; omega⟩
      refine lv_iconst (v := 1) hx hb dX8_fact_9 (by decide) ?_
      refine lv_goto (tgt := 14) hx hb dX8_fact_10 (by decide) ?_
      refine lv_istore_n (lv' := [(2, .int 1), (0, .ref (base + a0)), (1, .int a1)]) hx hb dX8_fact_14 rfl hl (by decide) rfl (fun ls hl => ?_)
      refine lv_iload_n hx hb dX8_fact_15 rfl (lv_at hl 0 rfl) ?_
      refine lv_if_ne (tgt := 32) hx hb dX8_fact_16 (by decide) (fun _ => ?_) (fun h => absurd h (by decide))
      refine lv_iconst (v := 0) hx hb dX8_fact_32 (by decide) ?_
      refine lv_istore_n (lv' := [(3, .int 0), (2, .int 1), (0, .ref (base + a0)), (1, .int a1)]) hx hb dX8_fact_33 rfl hl (by decide) rfl (fun ls hl => ?_)
      refine lv_iload_n hx hb dX8_fact_34 rfl (lv_at hl 1 rfl) ?_
      refine lv_if_ne (tgt := 67) hx hb dX8_fact_35 (by decide) (fun _ => ?_) (fun h => absurd h (by decide))
      refine lv_iload_n hx hb dX8_fact_67 rfl (lv_at hl 3 rfl) ?_
      refine lv_bipush (v := 10) hx hb dX8_fact_68 (by decide) ?_
      refine lv_icmp_lt (tgt := 85) hx hb dX8_fact_70 (by decide) (fun c157 => ?_) (fun c157 => ?_)
      · have q158 : a1.toInt < 10 := ti_lt c157
        have h159 : iv 0 9 a1 := iv_ltL (y := 10) h_a1 (iv_c (c := 10) (n := 10) (by decide)) q158 (by decide)
        refine lv_iload_n hx hb dX8_fact_85 rfl (lv_at hl 0 rfl) ?_
        refine lv_if_eq (tgt := 111) hx hb dX8_fact_86 (by decide) (fun _ => ?_) (fun h => absurd h (by decide))
        refine lv_aload_n hx hb dX8_fact_111 rfl (lv_at hl 2 rfl) ?_
        refine lv_dup hx hb dX8_fact_112 rfl ?_
        refine tw_getk hx hb hW hown hK hS f_X8_36_8 hz_a0 hk_a0 (v := x10) k11 dX8_fact_113 ?_
        refine lv_iconst (v := 1) hx hb dX8_fact_116 (by decide) ?_
        refine tw_iadd (lo := 1) (hi := 401) hx hb h13 (iv_c (c := 1) (n := 1) (by decide)) ⟨by decide, by decide⟩ ⟨by decide, by decide⟩ dX8_fact_117 (fun x162 e161 h160 => ?_)
        have e161 : x162.toInt = x10.toInt + 1 := e161
        refine tw_puti hx hb hW hown hK hS f_X8_36_8 hz_a0 hk_a0 rfl rfl (lo := 0) (hi := 1000) rfl (iv_mono h160 (by decide) (by decide)) rfl dX8_fact_118 (fun H locs M165 hS k163 f164 => ?_)
        refine lv_aload_n hx hb dX8_fact_121 rfl (lv_at hl 2 rfl) ?_
        refine lv_iload_n hx hb dX8_fact_122 rfl (lv_at hl 3 rfl) ?_
        refine lv_iconst (v := 1) hx hb dX8_fact_123 (by decide) ?_
        refine tw_iadd (lo := 1) (hi := 10) hx hb h159 (iv_c (c := 1) (n := 1) (by decide)) ⟨by decide, by decide⟩ ⟨by decide, by decide⟩ dX8_fact_124 (fun x168 e167 h166 => ?_)
        have e167 : x168.toInt = a1.toInt + 1 := e167
        have k169 : M165 a0 1 = ln := ((Fr.kp (k := 1) f164 hk_a0 rfl).trans (Fr.kp (k := 1) f1 hk_a0 rfl)).trans k_ln
        have h170 : iv 0 400 x162 := by
          have := (h159).1; have := (h159).2; have := (h_fa).1; have := (h_fa).2; have := (h_ln).1; have := (h_ln).2; have := (h_pa).1; have := (h_pa).2; have := (h13).1; have := (h13).2; have := (h160).1; have := (h160).2; exact ⟨by omega, by omega⟩
        have k171 : M165 a0 3 = fa := ((Fr.kp (k := 3) f164 hk_a0 rfl).trans (Fr.kp (k := 3) f1 hk_a0 rfl)).trans k_fa
        have q172 : x162.toInt ≤ ln.toInt := by
          have := (h159).1; have := (h159).2; have := (h_fa).1; have := (h_fa).2; have := (h_ln).1; have := (h_ln).2; have := (h_pa).1; have := (h_pa).2; have := (h13).1; have := (h13).2; have := (h160).1; have := (h160).2; omega
        have hm173 : 10 - x168.toInt < (d : Int) := by
          have := (h159).1; have := (h159).2; have := (h_fa).1; have := (h_fa).2; have := (h_ln).1; have := (h_ln).2; have := (h_pa).1; have := (h_pa).2; have := (h166).1; have := (h166).2; omega
        refine tw_gov hS (md_runV (As := [.int x168]) (rest := []) hx hb hml hown hW hK hT hS.1 (t_X8_test l D cy tx base Z K N d ih M165 Ra J3 hS.2.1 a0 hz_a0 hk_a0 x168 (iv_mono h166 (by decide) (by decide)) tb k_tb ln k169 (iv_mono h_ln (by decide) (by decide)) x162 k163 h170 fa k171 (iv_mono h_fa (by decide) (by decide)) q172 hm173) s_X8_48 ⟨rfl, rfl, ⟨by simp only [md_rm]; omega, by simp only [md_rm]; omega⟩, ⟨Nat.le_of_ble_eq_true rfl, Nat.le_of_ble_eq_true rfl⟩⟩ hz_a0 hk_a0 (by decide) rfl rfl hl.1 rfl (Nat.le_of_ble_eq_true rfl) dX8_fact_125) rfl rfl (fun H locs M177 R178 J176 hS f174 g175 E179 => ?_)
        have eR178 := Fr.nil g175 rfl
        subst eR178
        have p180 := E179
        clear E179
        obtain ⟨x182, x184, k185, k186, h181, h183, q187⟩ := p180
        have k185 : M177 a0 2 = x182 := k185
        have k186 : M177 a0 3 = x184 := k186
        refine lv_aload_n hx hb dX8_fact_128 rfl (lv_at hl 2 rfl) ?_
        have k188 : M177 a0 1 = ln := ((Fr.kp (k := 1) f174 hk_a0 rfl).trans ((Fr.kp (k := 1) f164 hk_a0 rfl).trans (Fr.kp (k := 1) f1 hk_a0 rfl))).trans k_ln
        refine tw_goi hS (md_runU (As := []) (rest := []) hx hb hml hown hW hK hT hS.1 (t_X10_hereBehindBlanks l D cy tx base Z K N M177 Ra J176 hS.2.1 a0 hz_a0 hk_a0 tb k_tb ln k188 (iv_mono h_ln (by decide) (by decide)) x182 k185 (iv_mono h181 (by decide) (by decide))) s_X8_26_X8 ⟨rfl, rfl, ⟨by simp only [md_rm]; omega, by simp only [md_rm]; omega⟩, ⟨Nat.le_of_ble_eq_true rfl, Nat.le_of_ble_eq_true rfl⟩⟩ hz_a0 hk_a0 (by decide) rfl rfl hl.1 rfl (Nat.le_of_ble_eq_true rfl) dX8_fact_129) rfl rfl (fun x195 H locs M192 R193 J191 hS f189 g190 E194 => ?_)
        have eR193 := Fr.nil g190 rfl
        subst eR193
        obtain ⟨h_x195, p196⟩ := E194
        obtain ⟨x198, k199, h197, q200⟩ := p196
        have k199 : M192 a0 2 = x198 := k199
        have h201 : iv 0 420 x198 := by
          have := (h159).1; have := (h159).2; have := (h_fa).1; have := (h_fa).2; have := (h_ln).1; have := (h_ln).2; have := (h_pa).1; have := (h_pa).2; have := (h13).1; have := (h13).2; have := (h166).1; have := (h166).2; have := (h181).1; have := (h181).2; have := (h183).1; have := (h183).2; have := (h197).1; have := (h197).2; exact ⟨by omega, by omega⟩
        refine lv_bipush (v := 93) hx hb dX8_fact_132 (by decide) ?_
        refine lv_icmp_eq (tgt := 146) hx hb dX8_fact_134 (by decide) (fun c202 => ?_) (fun c202 => ?_)
        · have q203 : x195.toInt = 93 := ti_eq c202
          have h204 : iv 93 93 x195 := ⟨by have := (h_x195).1; have := ((iv_c (c := 93) (n := 93) (by decide))).1; omega, by have := (h_x195).2; have := ((iv_c (c := 93) (n := 93) (by decide))).2; omega⟩
          refine lv_aload_n hx hb dX8_fact_146 rfl (lv_at hl 2 rfl) ?_
          refine lv_dup hx hb dX8_fact_147 rfl ?_
          refine tw_getk hx hb hW hown hK hS f_X8_36_8 hz_a0 hk_a0 (v := x198) k199 dX8_fact_148 ?_
          refine lv_iconst (v := 1) hx hb dX8_fact_151 (by decide) ?_
          refine tw_iadd (lo := 1) (hi := 421) hx hb h201 (iv_c (c := 1) (n := 1) (by decide)) ⟨by decide, by decide⟩ ⟨by decide, by decide⟩ dX8_fact_152 (fun x207 e206 h205 => ?_)
          have e206 : x207.toInt = x198.toInt + 1 := e206
          refine tw_puti hx hb hW hown hK hS f_X8_36_8 hz_a0 hk_a0 rfl rfl (lo := 0) (hi := 1000) rfl (iv_mono h205 (by decide) (by decide)) rfl dX8_fact_153 (fun H locs M210 hS k208 f209 => ?_)
          have h211 : iv 0 420 x207 := by
            have := (h159).1; have := (h159).2; have := (h_fa).1; have := (h_fa).2; have := (h_ln).1; have := (h_ln).2; have := (h_pa).1; have := (h_pa).2; have := (h13).1; have := (h13).2; have := (h166).1; have := (h166).2; have := (h181).1; have := (h181).2; have := (h183).1; have := (h183).2; have := (h201).1; have := (h201).2; have := (h205).1; have := (h205).2; exact ⟨by omega, by omega⟩
          have k212 : M210 a0 3 = x184 := ((Fr.kp (k := 3) f209 hk_a0 rfl).trans (Fr.kp (k := 3) f189 hk_a0 rfl)).trans k186
          have q213 : x207.toInt ≤ 420 - a1.toInt ∧ (¬ x184.toInt = 0 ∨ x207.toInt ≤ ln.toInt) := by
            have := (h159).1; have := (h159).2; have := (h_fa).1; have := (h_fa).2; have := (h_ln).1; have := (h_ln).2; have := (h_pa).1; have := (h_pa).2; have := (h13).1; have := (h13).2; have := (h166).1; have := (h166).2; have := (h181).1; have := (h181).2; have := (h183).1; have := (h183).2; have := (h201).1; have := (h201).2; have := (h205).1; have := (h205).2; omega
          exact tw_endv hx hb hr hlocks hK hT hS hQ (⟨x207, x184, k208, k212, h211, h183, q213⟩) dX8_fact_156
        · have q214 : ¬ x195.toInt = 93 := ti_ne c202
          refine lv_aload_n hx hb dX8_fact_137 rfl (lv_at hl 2 rfl) ?_
          refine lv_aload_n hx hb dX8_fact_138 rfl (lv_at hl 2 rfl) ?_
          refine tw_getk hx hb hW hown hK hS f_X8_36_8 hz_a0 hk_a0 (v := x198) k199 dX8_fact_139 ?_
          refine lv_iconst (v := 0) hx hb dX8_fact_142 (by decide) ?_
          refine tw_gov hS (md_runU (As := [.int x198, .int 0]) (rest := []) hx hb hml hown hW hK hT hS.1 (t_X10_fail l D cy tx base Z K N M192 Ra J191 hS.2.1 a0 hz_a0 hk_a0 x198 (iv_mono h201 (by decide) (by decide)) 0 (iv_mono (iv_c (c := 0) (n := 0) (by decide)) (by decide) (by decide))) s_X8_39_X8 ⟨rfl, rfl, ⟨by simp only [md_rm]; omega, by simp only [md_rm]; omega⟩, ⟨Nat.le_of_ble_eq_true rfl, Nat.le_of_ble_eq_true rfl⟩⟩ hz_a0 hk_a0 (by decide) rfl rfl hl.1 rfl (Nat.le_of_ble_eq_true rfl) dX8_fact_143) rfl rfl (fun H locs M218 R219 J217 hS f215 g216 E220 => ?_)
          have eR219 := Fr.nil g216 rfl
          subst eR219
          have p221 := E220
          clear E220
          obtain ⟨x223, k224, h222, q225⟩ := p221
          have k224 : M218 a0 3 = x223 := k224
          refine lv_aload_n hx hb dX8_fact_146 rfl (lv_at hl 2 rfl) ?_
          refine lv_dup hx hb dX8_fact_147 rfl ?_
          have k226 : M218 a0 2 = x198 := (Fr.kp (k := 2) f215 hk_a0 rfl).trans k199
          refine tw_getk hx hb hW hown hK hS f_X8_36_8 hz_a0 hk_a0 (v := x198) k226 dX8_fact_148 ?_
          refine lv_iconst (v := 1) hx hb dX8_fact_151 (by decide) ?_
          refine tw_iadd (lo := 1) (hi := 421) hx hb h201 (iv_c (c := 1) (n := 1) (by decide)) ⟨by decide, by decide⟩ ⟨by decide, by decide⟩ dX8_fact_152 (fun x229 e228 h227 => ?_)
          have e228 : x229.toInt = x198.toInt + 1 := e228
          refine tw_puti hx hb hW hown hK hS f_X8_36_8 hz_a0 hk_a0 rfl rfl (lo := 0) (hi := 1000) rfl (iv_mono h227 (by decide) (by decide)) rfl dX8_fact_153 (fun H locs M232 hS k230 f231 => ?_)
          have h233 : iv 0 420 x229 := by
            have := (h159).1; have := (h159).2; have := (h_fa).1; have := (h_fa).2; have := (h_ln).1; have := (h_ln).2; have := (h_pa).1; have := (h_pa).2; have := (h13).1; have := (h13).2; have := (h166).1; have := (h166).2; have := (h181).1; have := (h181).2; have := (h183).1; have := (h183).2; have := (h201).1; have := (h201).2; have := (h227).1; have := (h227).2; exact ⟨by omega, by omega⟩
          have k234 : M232 a0 3 = x223 := (Fr.kp (k := 3) f231 hk_a0 rfl).trans k224
          have q235 : x229.toInt ≤ 420 - a1.toInt ∧ (¬ x223.toInt = 0 ∨ x229.toInt ≤ ln.toInt) := by
            have := (h159).1; have := (h159).2; have := (h_fa).1; have := (h_fa).2; have := (h_ln).1; have := (h_ln).2; have := (h_pa).1; have := (h_pa).2; have := (h13).1; have := (h13).2; have := (h166).1; have := (h166).2; have := (h181).1; have := (h181).2; have := (h183).1; have := (h183).2; have := (h201).1; have := (h201).2; have := (h222).1; have := (h222).2; have := (h227).1; have := (h227).2; omega
          exact tw_endv hx hb hr hlocks hK hT hS hQ (⟨x229, x223, k230, k234, h233, h222, q235⟩) dX8_fact_156
      · have q236 : 10 ≤ a1.toInt := ti_nlt c157
        have h237 : iv 10 10 a1 := iv_geL (y := 10) h_a1 (iv_c (c := 10) (n := 10) (by decide)) q236 (by decide)
        refine lv_aload_n hx hb dX8_fact_73 rfl (lv_at hl 2 rfl) ?_
        refine lv_aload_n hx hb dX8_fact_74 rfl (lv_at hl 2 rfl) ?_
        refine tw_getk hx hb hW hown hK hS f_X8_36_8 hz_a0 hk_a0 (v := x10) k11 dX8_fact_75 ?_
        refine lv_iconst (v := 2) hx hb dX8_fact_78 (by decide) ?_
        refine tw_gov hS (md_runU (As := [.int x10, .int 2]) (rest := []) hx hb hml hown hW hK hT hS.1 (t_X10_fail l D cy tx base Z K N M4 Ra J3 hS.2.1 a0 hz_a0 hk_a0 x10 (iv_mono h13 (by decide) (by decide)) 2 (iv_mono (iv_c (c := 2) (n := 2) (by decide)) (by decide) (by decide))) s_X8_39_X8 ⟨rfl, rfl, ⟨by simp only [md_rm]; omega, by simp only [md_rm]; omega⟩, ⟨Nat.le_of_ble_eq_true rfl, Nat.le_of_ble_eq_true rfl⟩⟩ hz_a0 hk_a0 (by decide) rfl rfl hl.1 rfl (Nat.le_of_ble_eq_true rfl) dX8_fact_79) rfl rfl (fun H locs M241 R242 J240 hS f238 g239 E243 => ?_)
        have eR242 := Fr.nil g239 rfl
        subst eR242
        have p244 := E243
        clear E243
        obtain ⟨x246, k247, h245, q248⟩ := p244
        have k247 : M241 a0 3 = x246 := k247
        refine lv_goto (tgt := 156) hx hb dX8_fact_82 (by decide) ?_
        have k249 : M241 a0 2 = x10 := (Fr.kp (k := 2) f238 hk_a0 rfl).trans k11
        have q250 : x10.toInt ≤ 420 - a1.toInt ∧ (¬ x246.toInt = 0 ∨ x10.toInt ≤ ln.toInt) := by
          have := (h237).1; have := (h237).2; have := (h_fa).1; have := (h_fa).2; have := (h_ln).1; have := (h_ln).2; have := (h_pa).1; have := (h_pa).2; have := (h13).1; have := (h13).2; have := (h245).1; have := (h245).2; omega
        exact tw_endv hx hb hr hlocks hK hT hS hQ (⟨x10, x246, k249, k247, (iv_mono h13 (by decide) (by decide)), h245, q250⟩) dX8_fact_156
def Lt_X8_read : WL := [(9, 1, 5), (9, 6, 8), (14, 0, 2000000)]
def LRt_X8_read : WL := [(9, 0, 1)]
set_option maxRecDepth 100000 in
set_option maxHeartbeats 4000000 in
theorem t_X8_read (l : Launch) (D : va_G) (cy : Nat → ClassId) (tx : (Nat → Nat) × (Nat → Nat)) (base Z : Nat) (K N : Nat → Nat) (Ma : MT) (Ra : RT) (Ja : JT) (hTy : Ty Z K N Ma Ra) (a0 : Nat) (hz_a0 : a0 < Z) (hk_a0 : K a0 = 9) (a1 : Nat) (hz_a1 : a1 < Z) (hk_a1 : K a1 = 13) (hn_a1 : N a1 = 400) (a2 : Int32) (h_a2 : iv 0 400 a2) : Met l yX8_read [Cond.code yX8_read cX8_read 7 (some .int)] (md_rm 33 0 0) (va_Pc [.ref (base + a0), .ref (base + a1), .int a2] (md_U D cy tx base Z K N Ma Ra Ja)) (mQi D cy tx base (fun r u => TP Z K N Lt_X8_read LRt_X8_read Ma Ra u ∧ (iv (-2147483648) 2147483647 r))) 0 0 (fun q => base ≤ q) := by
  refine tw_ofW (L := Lt_X8_read) (LR := LRt_X8_read) (by decide) (Nat.le_of_ble_eq_true rfl) hTy ?_
  intro p e s m args below meth c Q ls hx hb hr hlocks hown hml hW hK hT hS hQ hl
  have hl : lv_has ls 7 [(0, .ref (base + a0)), (1, .ref (base + a1)), (2, .int a2)] := hl
  refine lv_aload_n hx hb dX8_read_0 rfl (lv_at hl 0 rfl) ?_
  refine lv_aload_n hx hb dX8_read_1 rfl (lv_at hl 1 rfl) ?_
  refine lv_iload_n hx hb dX8_read_2 rfl (lv_at hl 2 rfl) ?_
  refine tw_gov hS (md_runU (As := [.ref (base + a1), .int a2]) (rest := []) hx hb hml hown hW hK hT hS.1 (t_X10_begin_1 l D cy tx base Z K N Ma Ra Ja hS.2.1 a0 hz_a0 hk_a0 a1 hz_a1 hk_a1 hn_a1 a2 h_a2) s_X8_15_X8 ⟨rfl, rfl, ⟨Nat.le_of_ble_eq_true rfl, Nat.le_of_ble_eq_true rfl⟩, ⟨Nat.le_of_ble_eq_true rfl, Nat.le_of_ble_eq_true rfl⟩⟩ hz_a0 hk_a0 (by decide) rfl rfl hl.1 rfl (Nat.le_of_ble_eq_true rfl) dX8_read_3) rfl rfl (fun H locs M4 R5 J3 hS f1 g2 E6 => ?_)
  obtain ⟨p7, p8⟩ := E6
  have k9 : R5 a0 0 = some a1 := p7
  obtain ⟨x11, x13, x15, k16, k17, k18, h10, h12, h14, q19⟩ := p8
  have k16 : M4 a0 1 = x11 := k16
  have k17 : M4 a0 2 = x13 := k17
  have k18 : M4 a0 3 = x15 := k18
  refine lv_aload_n hx hb dX8_read_6 rfl (lv_at hl 0 rfl) ?_
  refine lv_iconst (v := 0) hx hb dX8_read_7 (by decide) ?_
  refine tw_puti hx hb hW hown hK hS f_X8_19_8 hz_a0 hk_a0 rfl rfl (lo := 0) (hi := 400) rfl (iv_mono (iv_c (c := 0) (n := 0) (by decide)) (by decide) (by decide)) rfl dX8_read_8 (fun H locs M22 hS k20 f21 => ?_)
  refine lv_aload_n hx hb dX8_read_11 rfl (lv_at hl 0 rfl) ?_
  refine lv_iconst (v := 0) hx hb dX8_read_12 (by decide) ?_
  refine tw_puti hx hb hW hown hK hS f_X8_23_8 hz_a0 hk_a0 rfl rfl (lo := (-2147483648)) (hi := 2147483647) rfl (iv_mono (iv_c (c := 0) (n := 0) (by decide)) (by decide) (by decide)) rfl dX8_read_13 (fun H locs M25 hS k23 f24 => ?_)
  refine lv_iconst (v := 1) hx hb dX8_read_16 (by decide) ?_
  refine lv_istore_n (lv' := [(3, .int 1), (0, .ref (base + a0)), (1, .ref (base + a1)), (2, .int a2)]) hx hb dX8_read_17 rfl hl (by decide) rfl (fun ls hl => ?_)
  refine lv_iconst (v := 0) hx hb dX8_read_18 (by decide) ?_
  refine lv_istore (lv' := [(4, .int 0), (3, .int 1), (0, .ref (base + a0)), (1, .ref (base + a1)), (2, .int a2)]) hx hb dX8_read_19 hl (by decide) rfl (fun ls hl => ?_)
  have W21_28 : ∀ (n_28 : Nat) (x26 : Int32) (x27 : Int32) (x33 : Int32) (x35 : Int32) (x37 : Int32) (M28 : MT) (R29 : RT) (J30 : JT) (H : Heap) (locs : List Loc) (ls : Array Slot) (h_x26 : iv 0 1 x26) (h_x27 : iv 0 13 x27) (h_x33 : iv 0 400 x33) (k34 : M28 a0 1 = x33) (h_x35 : iv 0 1000 x35) (k36 : M28 a0 2 = x35) (h_x37 : iv (-2147483648) 2147483647 x37) (k38 : M28 a0 3 = x37) (k39 : R29 a0 0 = some a1) (w0_28 : x26.toInt = 0 ∨ (x37.toInt = 0 ∧ x35.toInt ≤ x33.toInt)) (hm_28 : 13 - x27.toInt < (n_28 : Int)) (hS : SB D cy base Z K N Lt_X8_read LRt_X8_read Ma Ra M28 R29 J30 s H locs) (hl : lv_has ls 7 [(3, .int x26), (4, .int x27), (0, .ref (base + a0)), (1, .ref (base + a1)), (2, .int a2)]), W p l e (md_rm 33 0 0) s m args below meth c H locs 0 0 Q (F0 m 21 ls []) := by
    intro n_28
    induction n_28 with
    | zero =>
      intro x26 x27 x33 x35 x37 M28 R29 J30 H locs ls h_x26 h_x27 h_x33 k34 h_x35 k36 h_x37 k38 k39 w0_28 hm_28 hS hl
      exfalso
      have := (h_a2).1; have := (h_a2).2; have := (h_x27).1; have := (h_x27).2; omega
    | succ n_28 ih_28 =>
      intro x26 x27 x33 x35 x37 M28 R29 J30 H locs ls h_x26 h_x27 h_x33 k34 h_x35 k36 h_x37 k38 k39 w0_28 hm_28 hS hl
      have f31 := hS.2.2.1
      have g32 := hS.2.2.2
      refine lv_iload_n hx hb dX8_read_21 rfl (lv_at hl 0 rfl) ?_
      refine lv_if_eq (tgt := 151) hx hb dX8_read_22 (by decide) (fun c40 => ?_) (fun c40 => ?_)
      · have q41 : x26.toInt = 0 := ti_eq c40
        have h42 : iv 0 0 x26 := ⟨by have := (h_x26).1; have := ((iv_c (c := 0) (n := 0) (by decide))).1; omega, by have := (h_x26).2; have := ((iv_c (c := 0) (n := 0) (by decide))).2; omega⟩
        refine lv_aload_n hx hb dX8_read_151 rfl (lv_at hl 2 rfl) ?_
        refine tw_getk hx hb hW hown hK hS f_X8_65_8 hz_a0 hk_a0 (v := x37) k38 dX8_read_152 ?_
        exact tw_endi hx hb hr hlocks hK hT hS hQ (h_x37) dX8_read_155
      · have q43 : ¬ x26.toInt = 0 := ti_ne c40
        have h44 : iv 1 1 x26 := ⟨by have := (h_x26).1; have := ((iv_c (c := 0) (n := 0) (by decide))).1; have := ((iv_c (c := 0) (n := 0) (by decide))).2; omega, by have := (h_x26).2; have := ((iv_c (c := 0) (n := 0) (by decide))).1; have := ((iv_c (c := 0) (n := 0) (by decide))).2; omega⟩
        refine lv_iload hx hb dX8_read_25 (lv_at hl 1 rfl) ?_
        refine lv_bipush (v := 12) hx hb dX8_read_27 (by decide) ?_
        refine lv_icmp_gt (tgt := 151) hx hb dX8_read_29 (by decide) (fun c45 => ?_) (fun c45 => ?_)
        · have q46 : 12 < x27.toInt := ti_lt c45
          have h47 : iv 13 13 x27 := iv_gtL (y := 12) h_x27 (iv_c (c := 12) (n := 12) (by decide)) q46 (by decide)
          refine lv_aload_n hx hb dX8_read_151 rfl (lv_at hl 2 rfl) ?_
          refine tw_getk hx hb hW hown hK hS f_X8_65_8 hz_a0 hk_a0 (v := x37) k38 dX8_read_152 ?_
          exact tw_endi hx hb hr hlocks hK hT hS hQ (h_x37) dX8_read_155
        · have q48 : x27.toInt ≤ 12 := ti_nlt c45
          have h49 : iv 0 12 x27 := iv_leL (y := 12) h_x27 (iv_c (c := 12) (n := 12) (by decide)) q48 (by decide)
          refine lv_aload_n hx hb dX8_read_32 rfl (lv_at hl 2 rfl) ?_
          refine tw_goi hS (md_runU (As := []) (rest := []) hx hb hml hown hW hK hT hS.1 (t_X10_hereBehindBlanks l D cy tx base Z K N M28 R29 J30 hS.2.1 a0 hz_a0 hk_a0 a1 k39 x33 k34 (iv_mono h_x33 (by decide) (by decide)) x35 k36 (iv_mono h_x35 (by decide) (by decide))) s_X8_26_X8 ⟨rfl, rfl, ⟨Nat.le_of_ble_eq_true rfl, Nat.le_of_ble_eq_true rfl⟩, ⟨Nat.le_of_ble_eq_true rfl, Nat.le_of_ble_eq_true rfl⟩⟩ hz_a0 hk_a0 (by decide) rfl rfl hl.1 rfl (Nat.le_of_ble_eq_true rfl) dX8_read_33) rfl rfl (fun x56 H locs M53 R54 J52 hS f50 g51 E55 => ?_)
          have eR54 := Fr.nil g51 rfl
          subst eR54
          obtain ⟨h_x56, p57⟩ := E55
          obtain ⟨x59, k60, h58, q61⟩ := p57
          have k60 : M53 a0 2 = x59 := k60
          refine lv_pop hx hb dX8_read_36 rfl ?_
          refine lv_aload_n hx hb dX8_read_37 rfl (lv_at hl 2 rfl) ?_
          refine va_ldcS hx hb hown hT.2.1.2.2.1 dX8_read_38 ?_
          have k62 : M53 a0 1 = x33 := (Fr.kp (k := 1) f50 hk_a0 rfl).trans k34
          refine tw_goi hS (md_runU (As := [.ref (tx.1 2)]) (rest := []) hx hb hml hown hW hK hT hS.1 (t_X10_whichWord l D cy tx base Z K N M53 R29 J52 hS.2.1 a0 hz_a0 hk_a0 2 (by decide) a1 k39 x33 k62 (iv_mono h_x33 (by decide) (by decide)) x59 k60 (iv_mono h58 (by decide) (by decide))) s_X8_32_X8 ⟨rfl, rfl, ⟨Nat.le_of_ble_eq_true rfl, Nat.le_of_ble_eq_true rfl⟩, ⟨Nat.le_of_ble_eq_true rfl, Nat.le_of_ble_eq_true rfl⟩⟩ hz_a0 hk_a0 (by decide) rfl rfl hl.1 rfl (Nat.le_of_ble_eq_true rfl) dX8_read_40) rfl rfl (fun x69 H locs M66 R67 J65 hS f63 g64 E68 => ?_)
          have eR67 := Fr.nil g64 rfl
          subst eR67
          obtain ⟨h_x69, p70⟩ := E68
          obtain ⟨x72, k73, h71, q74⟩ := p70
          have k73 : M66 a0 4 = x72 := k73
          refine lv_istore (lv' := [(5, .int x69), (3, .int x26), (4, .int x27), (0, .ref (base + a0)), (1, .ref (base + a1)), (2, .int a2)]) hx hb dX8_read_43 hl (by decide) rfl (fun ls hl => ?_)
          refine lv_iload hx hb dX8_read_45 (lv_at hl 0 rfl) ?_
          refine lv_iconst (v := (-1)) hx hb dX8_read_47 (by decide) ?_
          refine lv_icmp_ne (tgt := 63) hx hb dX8_read_48 (by decide) (fun c75 => ?_) (fun c75 => ?_)
          · have q76 : ¬ x69.toInt = (-1) := ti_ne c75
            refine lv_iload hx hb dX8_read_63 (lv_at hl 2 rfl) ?_
            refine lv_bipush (v := 12) hx hb dX8_read_65 (by decide) ?_
            refine lv_icmp_lt (tgt := 82) hx hb dX8_read_67 (by decide) (fun c77 => ?_) (fun c77 => ?_)
            · have q78 : x27.toInt < 12 := ti_lt c77
              have h79 : iv 0 11 x27 := iv_ltL (y := 12) h49 (iv_c (c := 12) (n := 12) (by decide)) q78 (by decide)
              refine lv_aload_n hx hb dX8_read_82 rfl (lv_at hl 3 rfl) ?_
              refine tw_gov hS (md_runU (As := []) (rest := []) hx hb hml hown hW hK hT hS.1 (t_X10_passWord l D cy tx base Z K N M66 R29 J65 hS.2.1 a0 hz_a0 hk_a0 x72 k73 (iv_mono h71 (by decide) (by decide))) s_X8_43_X8 ⟨rfl, rfl, ⟨Nat.le_of_ble_eq_true rfl, Nat.le_of_ble_eq_true rfl⟩, ⟨Nat.le_of_ble_eq_true rfl, Nat.le_of_ble_eq_true rfl⟩⟩ hz_a0 hk_a0 (by decide) rfl rfl hl.1 rfl (Nat.le_of_ble_eq_true rfl) dX8_read_83) rfl rfl (fun H locs M83 R84 J82 hS f80 g81 E85 => ?_)
              have eR84 := Fr.nil g81 rfl
              subst eR84
              have p86 := E85
              clear E85
              have k87 : M83 a0 2 = x72 := p86
              refine lv_iconst (v := (-1)) hx hb dX8_read_86 (by decide) ?_
              refine lv_istore (lv' := [(6, .int (-1)), (5, .int x69), (3, .int x26), (4, .int x27), (0, .ref (base + a0)), (1, .ref (base + a1)), (2, .int a2)]) hx hb dX8_read_87 hl (by decide) rfl (fun ls hl => ?_)
              refine lv_aload_n hx hb dX8_read_89 rfl (lv_at hl 4 rfl) ?_
              have k88 : M83 a0 1 = x33 := ((Fr.kp (k := 1) f80 hk_a0 rfl).trans (Fr.kp (k := 1) f63 hk_a0 rfl)).trans k62
              refine tw_goi hS (md_runU (As := []) (rest := []) hx hb hml hown hW hK hT hS.1 (t_X10_hereBehindBlanks l D cy tx base Z K N M83 R29 J82 hS.2.1 a0 hz_a0 hk_a0 a1 k39 x33 k88 (iv_mono h_x33 (by decide) (by decide)) x72 k87 (iv_mono h71 (by decide) (by decide))) s_X8_26_X8 ⟨rfl, rfl, ⟨Nat.le_of_ble_eq_true rfl, Nat.le_of_ble_eq_true rfl⟩, ⟨Nat.le_of_ble_eq_true rfl, Nat.le_of_ble_eq_true rfl⟩⟩ hz_a0 hk_a0 (by decide) rfl rfl hl.1 rfl (Nat.le_of_ble_eq_true rfl) dX8_read_90) rfl rfl (fun x95 H locs M92 R93 J91 hS f89 g90 E94 => ?_)
              have eR93 := Fr.nil g90 rfl
              subst eR93
              obtain ⟨h_x95, p96⟩ := E94
              obtain ⟨x98, k99, h97, q100⟩ := p96
              have k99 : M92 a0 2 = x98 := k99
              refine lv_bipush (v := 105) hx hb dX8_read_93 (by decide) ?_
              refine lv_icmp_ne (tgt := 125) hx hb dX8_read_95 (by decide) (fun c101 => ?_) (fun c101 => ?_)
              · have q102 : ¬ x95.toInt = 105 := ti_ne c101
                refine lv_aload_n hx hb dX8_read_125 rfl (lv_at hl 4 rfl) ?_
                refine lv_bipush (v := 15) hx hb dX8_read_126 (by decide) ?_
                refine lv_iload hx hb dX8_read_128 (lv_at hl 1 rfl) ?_
                refine tw_goi hS (md_runV (As := [.int 15, .int x69]) (rest := []) hx hb hml hown hW hK hT hS.1 (t_X8_put l D cy tx base Z K N M92 R29 J91 hS.2.1 a0 hz_a0 hk_a0 15 (iv_mono (iv_c (c := 15) (n := 15) (by decide)) (by decide) (by decide)) x69 h_x69) s_X8_54 ⟨rfl, rfl, ⟨Nat.le_of_ble_eq_true rfl, Nat.le_of_ble_eq_true rfl⟩, ⟨Nat.le_of_ble_eq_true rfl, Nat.le_of_ble_eq_true rfl⟩⟩ hz_a0 hk_a0 (by decide) rfl rfl hl.1 rfl (Nat.le_of_ble_eq_true rfl) dX8_read_130) rfl rfl (fun x109 H locs M106 R107 J105 hS f103 g104 E108 => ?_)
                have eR107 := Fr.nil g104 rfl
                subst eR107
                have h_x109 := E108
                clear E108
                refine lv_pop hx hb dX8_read_133 rfl ?_
                refine lv_aload_n hx hb dX8_read_134 rfl (lv_at hl 4 rfl) ?_
                refine lv_iload hx hb dX8_read_135 (lv_at hl 0 rfl) ?_
                refine tw_gov hS (md_runV (As := [.int (-1)]) (rest := []) hx hb hml hown hW hK hT hS.1 (t_X8_aim l D cy tx base Z K N M106 R29 J105 hS.2.1 a0 hz_a0 hk_a0 (-1) (iv_mono (iv_c (c := (-1)) (n := (-1)) (by decide)) (by decide) (by decide))) s_X8_58 ⟨rfl, rfl, ⟨Nat.le_of_ble_eq_true rfl, Nat.le_of_ble_eq_true rfl⟩, ⟨Nat.le_of_ble_eq_true rfl, Nat.le_of_ble_eq_true rfl⟩⟩ hz_a0 hk_a0 (by decide) rfl rfl hl.1 rfl (Nat.le_of_ble_eq_true rfl) dX8_read_137) rfl rfl (fun H locs M113 R114 J112 hS f110 g111 E115 => ?_)
                have eR114 := Fr.nil g111 rfl
                subst eR114
                refine lv_aload_n hx hb dX8_read_140 rfl (lv_at hl 4 rfl) ?_
                have k116 : M113 a0 1 = x33 := ((Fr.kp (k := 1) f110 hk_a0 rfl).trans ((Fr.kp (k := 1) f103 hk_a0 rfl).trans (Fr.kp (k := 1) f89 hk_a0 rfl))).trans k88
                have k117 : M113 a0 2 = x98 := ((Fr.kp (k := 2) f110 hk_a0 rfl).trans (Fr.kp (k := 2) f103 hk_a0 rfl)).trans k99
                have k118 : M113 a0 3 = x37 := ((Fr.kp (k := 3) f110 hk_a0 rfl).trans ((Fr.kp (k := 3) f103 hk_a0 rfl).trans ((Fr.kp (k := 3) f89 hk_a0 rfl).trans ((Fr.kp (k := 3) f80 hk_a0 rfl).trans ((Fr.kp (k := 3) f63 hk_a0 rfl).trans (Fr.kp (k := 3) f50 hk_a0 rfl)))))).trans k38
                refine tw_goi hS (md_runU (As := []) (rest := []) hx hb hml hown hW hK hT hS.1 (t_X10_goesOn l D cy tx base Z K N M113 R29 J112 hS.2.1 a0 hz_a0 hk_a0 a1 k39 x33 k116 (iv_mono h_x33 (by decide) (by decide)) x98 k117 (iv_mono h97 (by decide) (by decide)) x37 k118 (iv_mono h_x37 (by decide) (by decide))) s_X8_61_X8 ⟨rfl, rfl, ⟨Nat.le_of_ble_eq_true rfl, Nat.le_of_ble_eq_true rfl⟩, ⟨Nat.le_of_ble_eq_true rfl, Nat.le_of_ble_eq_true rfl⟩⟩ hz_a0 hk_a0 (by decide) rfl rfl hl.1 rfl (Nat.le_of_ble_eq_true rfl) dX8_read_141) rfl rfl (fun x125 H locs M122 R123 J121 hS f119 g120 E124 => ?_)
                have eR123 := Fr.nil g120 rfl
                subst eR123
                obtain ⟨h_x125, p126⟩ := E124
                obtain ⟨x128, x130, k131, k132, h127, h129, q133⟩ := p126
                have k131 : M122 a0 2 = x128 := k131
                have k132 : M122 a0 3 = x130 := k132
                refine lv_istore_n (lv' := [(3, .int x125), (6, .int (-1)), (5, .int x69), (4, .int x27), (0, .ref (base + a0)), (1, .ref (base + a1)), (2, .int a2)]) hx hb dX8_read_144 rfl hl (by decide) rfl (fun ls hl => ?_)
                refine tw_iinc (lv' := fun x136 => [(4, .int x136), (3, .int x125), (6, .int (-1)), (5, .int x69), (0, .ref (base + a0)), (1, .ref (base + a1)), (2, .int a2)]) (lo := 1) (hi := 12) hx hb dX8_read_145 hl (k := 3) rfl h79 (by decide) ⟨by decide, by decide⟩ ⟨by decide, by decide⟩ (by decide) (fun _ => rfl) (fun x136 ls e135 h134 hl => ?_)
                refine lv_goto (tgt := 21) hx hb dX8_read_148 (by decide) ?_
                have k137 : M122 a0 1 = x33 := (Fr.kp (k := 1) f119 hk_a0 rfl).trans k116
                have w138 : x125.toInt = 0 ∨ (x130.toInt = 0 ∧ x128.toInt ≤ x33.toInt) := by
                  have := (h_a2).1; have := (h_a2).2; have := (h_x125).1; have := (h_x125).2; have := (h127).1; have := (h127).2; have := (h129).1; have := (h129).2; have := (h44).1; have := (h44).2; have := (h_x33).1; have := (h_x33).2; have := (h_x35).1; have := (h_x35).2; have := (h_x37).1; have := (h_x37).2; have := (h58).1; have := (h58).2; have := (h71).1; have := (h71).2; have := (h97).1; have := (h97).2; omega
                have hm139 : 13 - x136.toInt < (n_28 : Int) := by
                  have := (h_a2).1; have := (h_a2).2; have := (h134).1; have := (h134).2; have := (h79).1; have := (h79).2; omega
                exact ih_28 x125 x136 x33 x128 x130 M122 R29 J121 H locs _ h_x125 (iv_mono h134 (by decide) (by decide)) h_x33 k137 h127 k131 h129 k132 k39 w138 hm139 hS (lv_sub hl [1, 0, 4, 5, 6] rfl)
              · have q140 : x95.toInt = 105 := ti_eq c101
                have h141 : iv 105 105 x95 := ⟨by have := (h_x95).1; have := ((iv_c (c := 105) (n := 105) (by decide))).1; omega, by have := (h_x95).2; have := ((iv_c (c := 105) (n := 105) (by decide))).2; omega⟩
                refine lv_aload_n hx hb dX8_read_98 rfl (lv_at hl 4 rfl) ?_
                refine va_ldcS hx hb hown hT.2.1.2.2.2.1 dX8_read_99 ?_
                have k142 : M92 a0 1 = x33 := (Fr.kp (k := 1) f89 hk_a0 rfl).trans k88
                refine tw_goi hS (md_runU (As := [.ref (tx.1 3)]) (rest := []) hx hb hml hown hW hK hT hS.1 (t_X10_whichWord l D cy tx base Z K N M92 R29 J91 hS.2.1 a0 hz_a0 hk_a0 3 (by decide) a1 k39 x33 k142 (iv_mono h_x33 (by decide) (by decide)) x98 k99 (iv_mono h97 (by decide) (by decide))) s_X8_32_X8 ⟨rfl, rfl, ⟨Nat.le_of_ble_eq_true rfl, Nat.le_of_ble_eq_true rfl⟩, ⟨Nat.le_of_ble_eq_true rfl, Nat.le_of_ble_eq_true rfl⟩⟩ hz_a0 hk_a0 (by decide) rfl rfl hl.1 rfl (Nat.le_of_ble_eq_true rfl) dX8_read_101) rfl rfl (fun x149 H locs M146 R147 J145 hS f143 g144 E148 => ?_)
                have eR147 := Fr.nil g144 rfl
                subst eR147
                obtain ⟨h_x149, p150⟩ := E148
                obtain ⟨x152, k153, h151, q154⟩ := p150
                have k153 : M146 a0 4 = x152 := k153
                refine lv_if_ne (tgt := 125) hx hb dX8_read_104 (by decide) (fun c155 => ?_) (fun c155 => ?_)
                · have q156 : ¬ x149.toInt = 0 := ti_ne c155
                  refine lv_aload_n hx hb dX8_read_125 rfl (lv_at hl 4 rfl) ?_
                  refine lv_bipush (v := 15) hx hb dX8_read_126 (by decide) ?_
                  refine lv_iload hx hb dX8_read_128 (lv_at hl 1 rfl) ?_
                  refine tw_goi hS (md_runV (As := [.int 15, .int x69]) (rest := []) hx hb hml hown hW hK hT hS.1 (t_X8_put l D cy tx base Z K N M146 R29 J145 hS.2.1 a0 hz_a0 hk_a0 15 (iv_mono (iv_c (c := 15) (n := 15) (by decide)) (by decide) (by decide)) x69 h_x69) s_X8_54 ⟨rfl, rfl, ⟨Nat.le_of_ble_eq_true rfl, Nat.le_of_ble_eq_true rfl⟩, ⟨Nat.le_of_ble_eq_true rfl, Nat.le_of_ble_eq_true rfl⟩⟩ hz_a0 hk_a0 (by decide) rfl rfl hl.1 rfl (Nat.le_of_ble_eq_true rfl) dX8_read_130) rfl rfl (fun x163 H locs M160 R161 J159 hS f157 g158 E162 => ?_)
                  have eR161 := Fr.nil g158 rfl
                  subst eR161
                  have h_x163 := E162
                  clear E162
                  refine lv_pop hx hb dX8_read_133 rfl ?_
                  refine lv_aload_n hx hb dX8_read_134 rfl (lv_at hl 4 rfl) ?_
                  refine lv_iload hx hb dX8_read_135 (lv_at hl 0 rfl) ?_
                  refine tw_gov hS (md_runV (As := [.int (-1)]) (rest := []) hx hb hml hown hW hK hT hS.1 (t_X8_aim l D cy tx base Z K N M160 R29 J159 hS.2.1 a0 hz_a0 hk_a0 (-1) (iv_mono (iv_c (c := (-1)) (n := (-1)) (by decide)) (by decide) (by decide))) s_X8_58 ⟨rfl, rfl, ⟨Nat.le_of_ble_eq_true rfl, Nat.le_of_ble_eq_true rfl⟩, ⟨Nat.le_of_ble_eq_true rfl, Nat.le_of_ble_eq_true rfl⟩⟩ hz_a0 hk_a0 (by decide) rfl rfl hl.1 rfl (Nat.le_of_ble_eq_true rfl) dX8_read_137) rfl rfl (fun H locs M167 R168 J166 hS f164 g165 E169 => ?_)
                  have eR168 := Fr.nil g165 rfl
                  subst eR168
                  refine lv_aload_n hx hb dX8_read_140 rfl (lv_at hl 4 rfl) ?_
                  have k170 : M167 a0 1 = x33 := ((Fr.kp (k := 1) f164 hk_a0 rfl).trans ((Fr.kp (k := 1) f157 hk_a0 rfl).trans (Fr.kp (k := 1) f143 hk_a0 rfl))).trans k142
                  have k171 : M167 a0 2 = x98 := ((Fr.kp (k := 2) f164 hk_a0 rfl).trans ((Fr.kp (k := 2) f157 hk_a0 rfl).trans (Fr.kp (k := 2) f143 hk_a0 rfl))).trans k99
                  have k172 : M167 a0 3 = x37 := ((Fr.kp (k := 3) f164 hk_a0 rfl).trans ((Fr.kp (k := 3) f157 hk_a0 rfl).trans ((Fr.kp (k := 3) f143 hk_a0 rfl).trans ((Fr.kp (k := 3) f89 hk_a0 rfl).trans ((Fr.kp (k := 3) f80 hk_a0 rfl).trans ((Fr.kp (k := 3) f63 hk_a0 rfl).trans (Fr.kp (k := 3) f50 hk_a0 rfl))))))).trans k38
                  refine tw_goi hS (md_runU (As := []) (rest := []) hx hb hml hown hW hK hT hS.1 (t_X10_goesOn l D cy tx base Z K N M167 R29 J166 hS.2.1 a0 hz_a0 hk_a0 a1 k39 x33 k170 (iv_mono h_x33 (by decide) (by decide)) x98 k171 (iv_mono h97 (by decide) (by decide)) x37 k172 (iv_mono h_x37 (by decide) (by decide))) s_X8_61_X8 ⟨rfl, rfl, ⟨Nat.le_of_ble_eq_true rfl, Nat.le_of_ble_eq_true rfl⟩, ⟨Nat.le_of_ble_eq_true rfl, Nat.le_of_ble_eq_true rfl⟩⟩ hz_a0 hk_a0 (by decide) rfl rfl hl.1 rfl (Nat.le_of_ble_eq_true rfl) dX8_read_141) rfl rfl (fun x179 H locs M176 R177 J175 hS f173 g174 E178 => ?_)
                  have eR177 := Fr.nil g174 rfl
                  subst eR177
                  obtain ⟨h_x179, p180⟩ := E178
                  obtain ⟨x182, x184, k185, k186, h181, h183, q187⟩ := p180
                  have k185 : M176 a0 2 = x182 := k185
                  have k186 : M176 a0 3 = x184 := k186
                  refine lv_istore_n (lv' := [(3, .int x179), (6, .int (-1)), (5, .int x69), (4, .int x27), (0, .ref (base + a0)), (1, .ref (base + a1)), (2, .int a2)]) hx hb dX8_read_144 rfl hl (by decide) rfl (fun ls hl => ?_)
                  refine tw_iinc (lv' := fun x190 => [(4, .int x190), (3, .int x179), (6, .int (-1)), (5, .int x69), (0, .ref (base + a0)), (1, .ref (base + a1)), (2, .int a2)]) (lo := 1) (hi := 12) hx hb dX8_read_145 hl (k := 3) rfl h79 (by decide) ⟨by decide, by decide⟩ ⟨by decide, by decide⟩ (by decide) (fun _ => rfl) (fun x190 ls e189 h188 hl => ?_)
                  refine lv_goto (tgt := 21) hx hb dX8_read_148 (by decide) ?_
                  have k191 : M176 a0 1 = x33 := (Fr.kp (k := 1) f173 hk_a0 rfl).trans k170
                  have w192 : x179.toInt = 0 ∨ (x184.toInt = 0 ∧ x182.toInt ≤ x33.toInt) := by
                    have := (h_a2).1; have := (h_a2).2; have := (h151).1; have := (h151).2; have := (h_x179).1; have := (h_x179).2; have := (h181).1; have := (h181).2; have := (h183).1; have := (h183).2; have := (h44).1; have := (h44).2; have := (h_x33).1; have := (h_x33).2; have := (h_x35).1; have := (h_x35).2; have := (h_x37).1; have := (h_x37).2; have := (h58).1; have := (h58).2; have := (h71).1; have := (h71).2; have := (h97).1; have := (h97).2; omega
                  have hm193 : 13 - x190.toInt < (n_28 : Int) := by
                    have := (h_a2).1; have := (h_a2).2; have := (h188).1; have := (h188).2; have := (h79).1; have := (h79).2; omega
                  exact ih_28 x179 x190 x33 x182 x184 M176 R29 J175 H locs _ h_x179 (iv_mono h188 (by decide) (by decide)) h_x33 k191 h181 k185 h183 k186 k39 w192 hm193 hS (lv_sub hl [1, 0, 4, 5, 6] rfl)
                · have q194 : x149.toInt = 0 := ti_eq c155
                  have h195 : iv 0 0 x149 := ⟨by have := (h_x149).1; have := ((iv_c (c := 0) (n := 0) (by decide))).1; omega, by have := (h_x149).2; have := ((iv_c (c := 0) (n := 0) (by decide))).2; omega⟩
                  refine lv_aload_n hx hb dX8_read_107 rfl (lv_at hl 4 rfl) ?_
                  refine tw_gov hS (md_runU (As := []) (rest := []) hx hb hml hown hW hK hT hS.1 (t_X10_passWord l D cy tx base Z K N M146 R29 J145 hS.2.1 a0 hz_a0 hk_a0 x152 k153 (iv_mono h151 (by decide) (by decide))) s_X8_43_X8 ⟨rfl, rfl, ⟨Nat.le_of_ble_eq_true rfl, Nat.le_of_ble_eq_true rfl⟩, ⟨Nat.le_of_ble_eq_true rfl, Nat.le_of_ble_eq_true rfl⟩⟩ hz_a0 hk_a0 (by decide) rfl rfl hl.1 rfl (Nat.le_of_ble_eq_true rfl) dX8_read_108) rfl rfl (fun H locs M199 R200 J198 hS f196 g197 E201 => ?_)
                  have eR200 := Fr.nil g197 rfl
                  subst eR200
                  have p202 := E201
                  clear E201
                  have k203 : M199 a0 2 = x152 := p202
                  refine lv_aload_n hx hb dX8_read_111 rfl (lv_at hl 4 rfl) ?_
                  refine lv_iconst (v := 0) hx hb dX8_read_112 (by decide) ?_
                  have k204 : M199 a0 1 = x33 := ((Fr.kp (k := 1) f196 hk_a0 rfl).trans (Fr.kp (k := 1) f143 hk_a0 rfl)).trans k142
                  have h205 : iv 0 400 x152 := by
                    have := (h_a2).1; have := (h_a2).2; have := (h151).1; have := (h151).2; have := (h44).1; have := (h44).2; have := (h_x33).1; have := (h_x33).2; have := (h_x35).1; have := (h_x35).2; have := (h_x37).1; have := (h_x37).2; have := (h58).1; have := (h58).2; have := (h71).1; have := (h71).2; have := (h97).1; have := (h97).2; exact ⟨by omega, by omega⟩
                  have k206 : M199 a0 3 = x37 := ((Fr.kp (k := 3) f196 hk_a0 rfl).trans ((Fr.kp (k := 3) f143 hk_a0 rfl).trans ((Fr.kp (k := 3) f89 hk_a0 rfl).trans ((Fr.kp (k := 3) f80 hk_a0 rfl).trans ((Fr.kp (k := 3) f63 hk_a0 rfl).trans (Fr.kp (k := 3) f50 hk_a0 rfl)))))).trans k38
                  have h207 : iv 0 0 x37 := by
                    have := (h_a2).1; have := (h_a2).2; have := (h151).1; have := (h151).2; have := (h44).1; have := (h44).2; have := (h_x33).1; have := (h_x33).2; have := (h_x35).1; have := (h_x35).2; have := (h_x37).1; have := (h_x37).2; have := (h58).1; have := (h58).2; have := (h71).1; have := (h71).2; have := (h97).1; have := (h97).2; exact ⟨by omega, by omega⟩
                  have q208 : x152.toInt ≤ x33.toInt := by
                    have := (h_a2).1; have := (h_a2).2; have := (h151).1; have := (h151).2; have := (h44).1; have := (h44).2; have := (h_x33).1; have := (h_x33).2; have := (h_x35).1; have := (h_x35).2; have := (h_x37).1; have := (h_x37).2; have := (h58).1; have := (h58).2; have := (h71).1; have := (h71).2; have := (h97).1; have := (h97).2; omega
                  have hm209 : 10 - (0 : Int32).toInt < (((11 : Nat) : Int) : Int) := by
                    have := (h_a2).1; have := (h_a2).2; have : (0 : Int32).toInt = 0 := (by decide); omega
                  refine tw_gov hS (md_runV (As := [.int 0]) (rest := []) hx hb hml hown hW hK hT hS.1 (t_X8_test l D cy tx base Z K N 11 (t_X8_fact l D cy tx base Z K N 11) M199 R29 J198 hS.2.1 a0 hz_a0 hk_a0 0 (iv_mono (iv_c (c := 0) (n := 0) (by decide)) (by decide) (by decide)) a1 k39 x33 k204 (iv_mono h_x33 (by decide) (by decide)) x152 k203 h205 x37 k206 h207 q208 hm209) s_X8_48 ⟨rfl, rfl, ⟨by simp only [md_rm]; omega, by simp only [md_rm]; omega⟩, ⟨Nat.le_of_ble_eq_true rfl, Nat.le_of_ble_eq_true rfl⟩⟩ hz_a0 hk_a0 (by decide) rfl rfl hl.1 rfl (Nat.le_of_ble_eq_true rfl) dX8_read_113) rfl rfl (fun H locs M213 R214 J212 hS f210 g211 E215 => ?_)
                  have eR214 := Fr.nil g211 rfl
                  subst eR214
                  have p216 := E215
                  clear E215
                  obtain ⟨x218, x220, k221, k222, h217, h219, q223⟩ := p216
                  have k221 : M213 a0 2 = x218 := k221
                  have k222 : M213 a0 3 = x220 := k222
                  have q224 : (0 : Int32).toInt = 0 := (by decide)
                  refine lv_aload_n hx hb dX8_read_116 rfl (lv_at hl 4 rfl) ?_
                  refine lv_bipush (v := 14) hx hb dX8_read_117 (by decide) ?_
                  refine lv_iconst (v := 0) hx hb dX8_read_119 (by decide) ?_
                  refine tw_goi hS (md_runV (As := [.int 14, .int 0]) (rest := []) hx hb hml hown hW hK hT hS.1 (t_X8_put l D cy tx base Z K N M213 R29 J212 hS.2.1 a0 hz_a0 hk_a0 14 (iv_mono (iv_c (c := 14) (n := 14) (by decide)) (by decide) (by decide)) 0 (iv_mono (iv_c (c := 0) (n := 0) (by decide)) (by decide) (by decide))) s_X8_54 ⟨rfl, rfl, ⟨Nat.le_of_ble_eq_true rfl, Nat.le_of_ble_eq_true rfl⟩, ⟨Nat.le_of_ble_eq_true rfl, Nat.le_of_ble_eq_true rfl⟩⟩ hz_a0 hk_a0 (by decide) rfl rfl hl.1 rfl (Nat.le_of_ble_eq_true rfl) dX8_read_120) rfl rfl (fun x231 H locs M228 R229 J227 hS f225 g226 E230 => ?_)
                  have eR229 := Fr.nil g226 rfl
                  subst eR229
                  have h_x231 := E230
                  clear E230
                  refine lv_istore (lv' := [(6, .int x231), (5, .int x69), (3, .int x26), (4, .int x27), (0, .ref (base + a0)), (1, .ref (base + a1)), (2, .int a2)]) hx hb dX8_read_123 hl (by decide) rfl (fun ls hl => ?_)
                  refine lv_aload_n hx hb dX8_read_125 rfl (lv_at hl 4 rfl) ?_
                  refine lv_bipush (v := 15) hx hb dX8_read_126 (by decide) ?_
                  refine lv_iload hx hb dX8_read_128 (lv_at hl 1 rfl) ?_
                  refine tw_goi hS (md_runV (As := [.int 15, .int x69]) (rest := []) hx hb hml hown hW hK hT hS.1 (t_X8_put l D cy tx base Z K N M228 R29 J227 hS.2.1 a0 hz_a0 hk_a0 15 (iv_mono (iv_c (c := 15) (n := 15) (by decide)) (by decide) (by decide)) x69 h_x69) s_X8_54 ⟨rfl, rfl, ⟨Nat.le_of_ble_eq_true rfl, Nat.le_of_ble_eq_true rfl⟩, ⟨Nat.le_of_ble_eq_true rfl, Nat.le_of_ble_eq_true rfl⟩⟩ hz_a0 hk_a0 (by decide) rfl rfl hl.1 rfl (Nat.le_of_ble_eq_true rfl) dX8_read_130) rfl rfl (fun x238 H locs M235 R236 J234 hS f232 g233 E237 => ?_)
                  have eR236 := Fr.nil g233 rfl
                  subst eR236
                  have h_x238 := E237
                  clear E237
                  refine lv_pop hx hb dX8_read_133 rfl ?_
                  refine lv_aload_n hx hb dX8_read_134 rfl (lv_at hl 4 rfl) ?_
                  refine lv_iload hx hb dX8_read_135 (lv_at hl 0 rfl) ?_
                  refine tw_gov hS (md_runV (As := [.int x231]) (rest := []) hx hb hml hown hW hK hT hS.1 (t_X8_aim l D cy tx base Z K N M235 R29 J234 hS.2.1 a0 hz_a0 hk_a0 x231 h_x231) s_X8_58 ⟨rfl, rfl, ⟨Nat.le_of_ble_eq_true rfl, Nat.le_of_ble_eq_true rfl⟩, ⟨Nat.le_of_ble_eq_true rfl, Nat.le_of_ble_eq_true rfl⟩⟩ hz_a0 hk_a0 (by decide) rfl rfl hl.1 rfl (Nat.le_of_ble_eq_true rfl) dX8_read_137) rfl rfl (fun H locs M242 R243 J241 hS f239 g240 E244 => ?_)
                  have eR243 := Fr.nil g240 rfl
                  subst eR243
                  refine lv_aload_n hx hb dX8_read_140 rfl (lv_at hl 4 rfl) ?_
                  have k245 : M242 a0 1 = x33 := ((Fr.kp (k := 1) f239 hk_a0 rfl).trans ((Fr.kp (k := 1) f232 hk_a0 rfl).trans ((Fr.kp (k := 1) f225 hk_a0 rfl).trans (Fr.kp (k := 1) f210 hk_a0 rfl)))).trans k204
                  have k246 : M242 a0 2 = x218 := ((Fr.kp (k := 2) f239 hk_a0 rfl).trans ((Fr.kp (k := 2) f232 hk_a0 rfl).trans (Fr.kp (k := 2) f225 hk_a0 rfl))).trans k221
                  have k247 : M242 a0 3 = x220 := ((Fr.kp (k := 3) f239 hk_a0 rfl).trans ((Fr.kp (k := 3) f232 hk_a0 rfl).trans (Fr.kp (k := 3) f225 hk_a0 rfl))).trans k222
                  refine tw_goi hS (md_runU (As := []) (rest := []) hx hb hml hown hW hK hT hS.1 (t_X10_goesOn l D cy tx base Z K N M242 R29 J241 hS.2.1 a0 hz_a0 hk_a0 a1 k39 x33 k245 (iv_mono h_x33 (by decide) (by decide)) x218 k246 (iv_mono h217 (by decide) (by decide)) x220 k247 (iv_mono h219 (by decide) (by decide))) s_X8_61_X8 ⟨rfl, rfl, ⟨Nat.le_of_ble_eq_true rfl, Nat.le_of_ble_eq_true rfl⟩, ⟨Nat.le_of_ble_eq_true rfl, Nat.le_of_ble_eq_true rfl⟩⟩ hz_a0 hk_a0 (by decide) rfl rfl hl.1 rfl (Nat.le_of_ble_eq_true rfl) dX8_read_141) rfl rfl (fun x254 H locs M251 R252 J250 hS f248 g249 E253 => ?_)
                  have eR252 := Fr.nil g249 rfl
                  subst eR252
                  obtain ⟨h_x254, p255⟩ := E253
                  obtain ⟨x257, x259, k260, k261, h256, h258, q262⟩ := p255
                  have k260 : M251 a0 2 = x257 := k260
                  have k261 : M251 a0 3 = x259 := k261
                  have h263 : iv 0 420 x257 := by
                    have := (h_a2).1; have := (h_a2).2; have := (h151).1; have := (h151).2; have := (h217).1; have := (h217).2; have := (h219).1; have := (h219).2; have := (h256).1; have := (h256).2; have := (h258).1; have := (h258).2; have := (h44).1; have := (h44).2; have := (h_x33).1; have := (h_x33).2; have := (h_x35).1; have := (h_x35).2; have := (h_x37).1; have := (h_x37).2; have := (h58).1; have := (h58).2; have := (h71).1; have := (h71).2; have := (h97).1; have := (h97).2; exact ⟨by omega, by omega⟩
                  refine lv_istore_n (lv' := [(3, .int x254), (6, .int x231), (5, .int x69), (4, .int x27), (0, .ref (base + a0)), (1, .ref (base + a1)), (2, .int a2)]) hx hb dX8_read_144 rfl hl (by decide) rfl (fun ls hl => ?_)
                  refine tw_iinc (lv' := fun x266 => [(4, .int x266), (3, .int x254), (6, .int x231), (5, .int x69), (0, .ref (base + a0)), (1, .ref (base + a1)), (2, .int a2)]) (lo := 1) (hi := 12) hx hb dX8_read_145 hl (k := 3) rfl h79 (by decide) ⟨by decide, by decide⟩ ⟨by decide, by decide⟩ (by decide) (fun _ => rfl) (fun x266 ls e265 h264 hl => ?_)
                  refine lv_goto (tgt := 21) hx hb dX8_read_148 (by decide) ?_
                  have k267 : M251 a0 1 = x33 := (Fr.kp (k := 1) f248 hk_a0 rfl).trans k245
                  have w268 : x254.toInt = 0 ∨ (x259.toInt = 0 ∧ x257.toInt ≤ x33.toInt) := by
                    have := (h_a2).1; have := (h_a2).2; have := (h151).1; have := (h151).2; have := (h217).1; have := (h217).2; have := (h219).1; have := (h219).2; have := (h_x254).1; have := (h_x254).2; have := (h263).1; have := (h263).2; have := (h258).1; have := (h258).2; have := (h44).1; have := (h44).2; have := (h_x33).1; have := (h_x33).2; have := (h_x35).1; have := (h_x35).2; have := (h_x37).1; have := (h_x37).2; have := (h58).1; have := (h58).2; have := (h71).1; have := (h71).2; have := (h97).1; have := (h97).2; omega
                  have hm269 : 13 - x266.toInt < (n_28 : Int) := by
                    have := (h_a2).1; have := (h_a2).2; have := (h264).1; have := (h264).2; have := (h79).1; have := (h79).2; omega
                  exact ih_28 x254 x266 x33 x257 x259 M251 R29 J250 H locs _ h_x254 (iv_mono h264 (by decide) (by decide)) h_x33 k267 (iv_mono h263 (by decide) (by decide)) k260 h258 k261 k39 w268 hm269 hS (lv_sub hl [1, 0, 4, 5, 6] rfl)
            · have q270 : 12 ≤ x27.toInt := ti_nlt c77
              have h271 : iv 12 12 x27 := iv_geL (y := 12) h49 (iv_c (c := 12) (n := 12) (by decide)) q270 (by decide)
              refine lv_aload_n hx hb dX8_read_70 rfl (lv_at hl 3 rfl) ?_
              refine lv_aload_n hx hb dX8_read_71 rfl (lv_at hl 3 rfl) ?_
              have k272 : M66 a0 2 = x59 := (Fr.kp (k := 2) f63 hk_a0 rfl).trans k60
              refine tw_getk hx hb hW hown hK hS f_X8_36_8 hz_a0 hk_a0 (v := x59) k272 dX8_read_72 ?_
              refine lv_iconst (v := 4) hx hb dX8_read_75 (by decide) ?_
              refine tw_gov hS (md_runU (As := [.int x59, .int 4]) (rest := []) hx hb hml hown hW hK hT hS.1 (t_X10_fail l D cy tx base Z K N M66 R29 J65 hS.2.1 a0 hz_a0 hk_a0 x59 h58 4 (iv_mono (iv_c (c := 4) (n := 4) (by decide)) (by decide) (by decide))) s_X8_39_X8 ⟨rfl, rfl, ⟨Nat.le_of_ble_eq_true rfl, Nat.le_of_ble_eq_true rfl⟩, ⟨Nat.le_of_ble_eq_true rfl, Nat.le_of_ble_eq_true rfl⟩⟩ hz_a0 hk_a0 (by decide) rfl rfl hl.1 rfl (Nat.le_of_ble_eq_true rfl) dX8_read_76) rfl rfl (fun H locs M276 R277 J275 hS f273 g274 E278 => ?_)
              have eR277 := Fr.nil g274 rfl
              subst eR277
              have p279 := E278
              clear E278
              obtain ⟨x281, k282, h280, q283⟩ := p279
              have k282 : M276 a0 3 = x281 := k282
              refine lv_goto (tgt := 140) hx hb dX8_read_79 (by decide) ?_
              refine lv_aload_n hx hb dX8_read_140 rfl (lv_at hl 3 rfl) ?_
              have k284 : M276 a0 1 = x33 := ((Fr.kp (k := 1) f273 hk_a0 rfl).trans (Fr.kp (k := 1) f63 hk_a0 rfl)).trans k62
              have k285 : M276 a0 2 = x59 := (Fr.kp (k := 2) f273 hk_a0 rfl).trans k272
              refine tw_goi hS (md_runU (As := []) (rest := []) hx hb hml hown hW hK hT hS.1 (t_X10_goesOn l D cy tx base Z K N M276 R29 J275 hS.2.1 a0 hz_a0 hk_a0 a1 k39 x33 k284 (iv_mono h_x33 (by decide) (by decide)) x59 k285 (iv_mono h58 (by decide) (by decide)) x281 k282 (iv_mono h280 (by decide) (by decide))) s_X8_61_X8 ⟨rfl, rfl, ⟨Nat.le_of_ble_eq_true rfl, Nat.le_of_ble_eq_true rfl⟩, ⟨Nat.le_of_ble_eq_true rfl, Nat.le_of_ble_eq_true rfl⟩⟩ hz_a0 hk_a0 (by decide) rfl rfl hl.1 rfl (Nat.le_of_ble_eq_true rfl) dX8_read_141) rfl rfl (fun x292 H locs M289 R290 J288 hS f286 g287 E291 => ?_)
              have eR290 := Fr.nil g287 rfl
              subst eR290
              obtain ⟨h_x292, p293⟩ := E291
              obtain ⟨x295, x297, k298, k299, h294, h296, q300⟩ := p293
              have k298 : M289 a0 2 = x295 := k298
              have k299 : M289 a0 3 = x297 := k299
              refine lv_istore_n (lv' := [(3, .int x292), (5, .int x69), (4, .int x27), (0, .ref (base + a0)), (1, .ref (base + a1)), (2, .int a2)]) hx hb dX8_read_144 rfl hl (by decide) rfl (fun ls hl => ?_)
              refine tw_iinc (lv' := fun x303 => [(4, .int x303), (3, .int x292), (5, .int x69), (0, .ref (base + a0)), (1, .ref (base + a1)), (2, .int a2)]) (lo := 13) (hi := 13) hx hb dX8_read_145 hl (k := 2) rfl h271 (by decide) ⟨by decide, by decide⟩ ⟨by decide, by decide⟩ (by decide) (fun _ => rfl) (fun x303 ls e302 h301 hl => ?_)
              refine lv_goto (tgt := 21) hx hb dX8_read_148 (by decide) ?_
              have k304 : M289 a0 1 = x33 := (Fr.kp (k := 1) f286 hk_a0 rfl).trans k284
              have w305 : x292.toInt = 0 ∨ (x297.toInt = 0 ∧ x295.toInt ≤ x33.toInt) := by
                have := (h_a2).1; have := (h_a2).2; have := (h44).1; have := (h44).2; have := (h_x292).1; have := (h_x292).2; have := (h294).1; have := (h294).2; have := (h296).1; have := (h296).2; have := (h_x33).1; have := (h_x33).2; have := (h_x35).1; have := (h_x35).2; have := (h_x37).1; have := (h_x37).2; have := (h58).1; have := (h58).2; have := (h71).1; have := (h71).2; omega
              have hm306 : 13 - x303.toInt < (n_28 : Int) := by
                have := (h_a2).1; have := (h_a2).2; have := (h271).1; have := (h271).2; have := (h301).1; have := (h301).2; omega
              exact ih_28 x292 x303 x33 x295 x297 M289 R29 J288 H locs _ h_x292 (iv_mono h301 (by decide) (by decide)) h_x33 k304 h294 k298 h296 k299 k39 w305 hm306 hS (lv_sub hl [1, 0, 3, 4, 5] rfl)
          · have q307 : x69.toInt = (-1) := ti_eq c75
            have h308 : iv (-1) (-1) x69 := ⟨by have := (h_x69).1; have := ((iv_c (c := (-1)) (n := (-1)) (by decide))).1; omega, by have := (h_x69).2; have := ((iv_c (c := (-1)) (n := (-1)) (by decide))).2; omega⟩
            refine lv_aload_n hx hb dX8_read_51 rfl (lv_at hl 3 rfl) ?_
            refine lv_aload_n hx hb dX8_read_52 rfl (lv_at hl 3 rfl) ?_
            have k309 : M66 a0 2 = x59 := (Fr.kp (k := 2) f63 hk_a0 rfl).trans k60
            refine tw_getk hx hb hW hown hK hS f_X8_36_8 hz_a0 hk_a0 (v := x59) k309 dX8_read_53 ?_
            refine lv_iconst (v := 0) hx hb dX8_read_56 (by decide) ?_
            refine tw_gov hS (md_runU (As := [.int x59, .int 0]) (rest := []) hx hb hml hown hW hK hT hS.1 (t_X10_fail l D cy tx base Z K N M66 R29 J65 hS.2.1 a0 hz_a0 hk_a0 x59 h58 0 (iv_mono (iv_c (c := 0) (n := 0) (by decide)) (by decide) (by decide))) s_X8_39_X8 ⟨rfl, rfl, ⟨Nat.le_of_ble_eq_true rfl, Nat.le_of_ble_eq_true rfl⟩, ⟨Nat.le_of_ble_eq_true rfl, Nat.le_of_ble_eq_true rfl⟩⟩ hz_a0 hk_a0 (by decide) rfl rfl hl.1 rfl (Nat.le_of_ble_eq_true rfl) dX8_read_57) rfl rfl (fun H locs M313 R314 J312 hS f310 g311 E315 => ?_)
            have eR314 := Fr.nil g311 rfl
            subst eR314
            have p316 := E315
            clear E315
            obtain ⟨x318, k319, h317, q320⟩ := p316
            have k319 : M313 a0 3 = x318 := k319
            refine lv_goto (tgt := 140) hx hb dX8_read_60 (by decide) ?_
            refine lv_aload_n hx hb dX8_read_140 rfl (lv_at hl 3 rfl) ?_
            have k321 : M313 a0 1 = x33 := ((Fr.kp (k := 1) f310 hk_a0 rfl).trans (Fr.kp (k := 1) f63 hk_a0 rfl)).trans k62
            have k322 : M313 a0 2 = x59 := (Fr.kp (k := 2) f310 hk_a0 rfl).trans k309
            refine tw_goi hS (md_runU (As := []) (rest := []) hx hb hml hown hW hK hT hS.1 (t_X10_goesOn l D cy tx base Z K N M313 R29 J312 hS.2.1 a0 hz_a0 hk_a0 a1 k39 x33 k321 (iv_mono h_x33 (by decide) (by decide)) x59 k322 (iv_mono h58 (by decide) (by decide)) x318 k319 (iv_mono h317 (by decide) (by decide))) s_X8_61_X8 ⟨rfl, rfl, ⟨Nat.le_of_ble_eq_true rfl, Nat.le_of_ble_eq_true rfl⟩, ⟨Nat.le_of_ble_eq_true rfl, Nat.le_of_ble_eq_true rfl⟩⟩ hz_a0 hk_a0 (by decide) rfl rfl hl.1 rfl (Nat.le_of_ble_eq_true rfl) dX8_read_141) rfl rfl (fun x329 H locs M326 R327 J325 hS f323 g324 E328 => ?_)
            have eR327 := Fr.nil g324 rfl
            subst eR327
            obtain ⟨h_x329, p330⟩ := E328
            obtain ⟨x332, x334, k335, k336, h331, h333, q337⟩ := p330
            have k335 : M326 a0 2 = x332 := k335
            have k336 : M326 a0 3 = x334 := k336
            refine lv_istore_n (lv' := [(3, .int x329), (5, .int x69), (4, .int x27), (0, .ref (base + a0)), (1, .ref (base + a1)), (2, .int a2)]) hx hb dX8_read_144 rfl hl (by decide) rfl (fun ls hl => ?_)
            refine tw_iinc (lv' := fun x340 => [(4, .int x340), (3, .int x329), (5, .int x69), (0, .ref (base + a0)), (1, .ref (base + a1)), (2, .int a2)]) (lo := 1) (hi := 13) hx hb dX8_read_145 hl (k := 2) rfl h49 (by decide) ⟨by decide, by decide⟩ ⟨by decide, by decide⟩ (by decide) (fun _ => rfl) (fun x340 ls e339 h338 hl => ?_)
            refine lv_goto (tgt := 21) hx hb dX8_read_148 (by decide) ?_
            have k341 : M326 a0 1 = x33 := (Fr.kp (k := 1) f323 hk_a0 rfl).trans k321
            have w342 : x329.toInt = 0 ∨ (x334.toInt = 0 ∧ x332.toInt ≤ x33.toInt) := by
              have := (h_a2).1; have := (h_a2).2; have := (h44).1; have := (h44).2; have := (h_x329).1; have := (h_x329).2; have := (h_x33).1; have := (h_x33).2; have := (h331).1; have := (h331).2; have := (h333).1; have := (h333).2; have := (h_x35).1; have := (h_x35).2; have := (h_x37).1; have := (h_x37).2; have := (h58).1; have := (h58).2; have := (h71).1; have := (h71).2; omega
            have hm343 : 13 - x340.toInt < (n_28 : Int) := by
              have := (h_a2).1; have := (h_a2).2; have := (h49).1; have := (h49).2; have := (h338).1; have := (h338).2; omega
            exact ih_28 x329 x340 x33 x332 x334 M326 R29 J325 H locs _ h_x329 (iv_mono h338 (by decide) (by decide)) h_x33 k341 h331 k335 h333 k336 k39 w342 hm343 hS (lv_sub hl [1, 0, 3, 4, 5] rfl)
  have k344 : M25 a0 1 = x11 := ((Fr.kp (k := 1) f24 hk_a0 rfl).trans (Fr.kp (k := 1) f21 hk_a0 rfl)).trans k16
  have k345 : M25 a0 2 = x13 := ((Fr.kp (k := 2) f24 hk_a0 rfl).trans (Fr.kp (k := 2) f21 hk_a0 rfl)).trans k17
  have k346 : M25 a0 3 = x15 := ((Fr.kp (k := 3) f24 hk_a0 rfl).trans (Fr.kp (k := 3) f21 hk_a0 rfl)).trans k18
  have w347 : (1 : Int32).toInt = 0 ∨ (x15.toInt = 0 ∧ x13.toInt ≤ x11.toInt) := by
    have := (h_a2).1; have := (h_a2).2; have := (h10).1; have := (h10).2; have := (h12).1; have := (h12).2; have := (h14).1; have := (h14).2; have : (1 : Int32).toInt = 1 := (by decide); omega
  have hm348 : 13 - (0 : Int32).toInt < (((14 : Nat) : Int) : Int) := by
    have := (h_a2).1; have := (h_a2).2; have : (0 : Int32).toInt = 0 := (by decide); omega
  exact W21_28 14 1 0 x11 x13 x15 M25 R5 J3 H locs _ (iv_mono (iv_c (c := 1) (n := 1) (by decide)) (by decide) (by decide)) (iv_mono (iv_c (c := 0) (n := 0) (by decide)) (by decide) (by decide)) h10 k344 (iv_mono h12 (by decide) (by decide)) k345 (iv_mono h14 (by decide) (by decide)) k346 k9 w347 hm348 hS (lv_sub hl [1, 0, 2, 3, 4] rfl)
