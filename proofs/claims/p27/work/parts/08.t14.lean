def Lt_X8_fact : WL := [(9, 2, 5), (9, 6, 8), (14, 0, 2000000)]
def LRt_X8_fact : WL := []
set_option maxRecDepth 100000 in
set_option maxHeartbeats 4000000 in
theorem t_X8_fact (l : Launch) (D : va_G) (cy : Nat → ClassId) (tx : (Nat → Nat) × (Nat → Nat)) (base Z : Nat) (K N : Nat → Nat) : ∀ (d : Nat), ∀ (Ma : MT) (Ra : RT) (Ja : JT) (hTy : Ty Z K N Ma Ra) (a0 : Nat) (hz_a0 : a0 < Z) (hk_a0 : K a0 = 9) (a1 : Int32) (h_a1 : iv 0 10 a1) (tb : Nat) (k_tb : Ra a0 0 = some tb) (ln : Int32) (k_ln : Ma a0 1 = ln) (h_ln : iv 0 400 ln) (pa : Int32) (k_pa : Ma a0 2 = pa) (h_pa : iv 0 400 pa) (fa : Int32) (k_fa : Ma a0 3 = fa) (h_fa : iv 0 0 fa) (hin : pa.toInt ≤ ln.toInt) (hmd : 10 - a1.toInt < (d : Int)), Met l yX8_fact [Cond.code yX8_fact cX8_fact 5 none] (md_rm (9 + 2 * d) 0 0) (va_Pc [.ref (base + a0), .int a1] (md_U D cy tx base Z K N Ma Ra Ja)) (mQv D cy tx base (fun u => TP Z K N Lt_X8_fact LRt_X8_fact Ma Ra u ∧ ((∃ x0 x1 : Int32, u.2.2.2.1 a0 2 = x0 ∧ u.2.2.2.1 a0 3 = x1 ∧ iv 0 420 x0 ∧ iv (-2147483648) 2147483647 x1 ∧ (x0.toInt ≤ 420 - a1.toInt ∧ (¬ x1.toInt = 0 ∨ x0.toInt ≤ ln.toInt)))))) 0 0 (fun q => base ≤ q) := by
  intro d
  induction d with
  | zero =>
    intro Ma Ra Ja hTy a0 hz_a0 hk_a0 a1 h_a1 tb k_tb ln k_ln h_ln pa k_pa h_pa fa k_fa h_fa hin hmd
    exfalso
    have := h_a1.2
    omega
  | succ d ih =>
    intro Ma Ra Ja hTy a0 hz_a0 hk_a0 a1 h_a1 tb k_tb ln k_ln h_ln pa k_pa h_pa fa k_fa h_fa hin hmd
    refine tw_ofW (L := Lt_X8_fact) (LR := LRt_X8_fact) (by decide) (Nat.le_of_ble_eq_true rfl) hTy ?_
    intro p e s m args below meth c Q ls hx hb hr hlocks hown hml hW hK hT hS hQ hl
    have hl : lv_has ls 5 [(0, .ref (base + a0)), (1, .int a1)] := hl
    obtain ⟨hz_tb, hk_tb, hn_tb⟩ := hTy.refn hz_a0 hk_a0 (show rtR 9 0 = (13, 400, 1) from rfl) k_tb
    have hn_tb := hn_tb (by decide)
    refine lv_aload_n hx hb dX8_fact_0 rfl (lv_at hl 0 rfl) ?_
    refine tw_goi hS (md_runU (As := []) (rest := []) hx hb hml hown hW hK hT hS.1 (t_X10_hereBehindBlanks l D cy tx base Z K N Ma Ra Ja hS.2.1 a0 hz_a0 hk_a0 tb k_tb ln k_ln (iv_mono h_ln (by decide) (by decide)) pa k_pa (iv_mono h_pa (by decide) (by decide))) s_X8_26_X8 ⟨rfl, rfl, ⟨by simp only [md_rm]; omega, by simp only [md_rm]; omega⟩, ⟨Nat.le_of_ble_eq_true rfl, Nat.le_of_ble_eq_true rfl⟩⟩ hz_a0 hk_a0 (by decide) rfl rfl hl.1 rfl (Nat.le_of_ble_eq_true rfl) dX8_fact_1) rfl rfl (fun x7 H locs M3 R4 J5 hS f1 g2 E6 => ?_)
    obtain ⟨h_x7, p8⟩ := E6
    obtain ⟨x10, k11, h9, q12⟩ := p8
    have k11 : M3 a0 2 = x10 := k11
    have h13 : iv 0 400 x10 := by
      have := (h_a1).1; have := (h_a1).2; have := (h_fa).1; have := (h_fa).2; have := (h_ln).1; have := (h_ln).2; have := (h_pa).1; have := (h_pa).2; have := (h9).1; have := (h9).2; exact ⟨by omega, by omega⟩
    refine lv_bipush (v := 91) hx hb dX8_fact_4 (by decide) ?_
    refine lv_icmp_ne (tgt := 13) hx hb dX8_fact_6 (by decide) (fun c14 => ?_) (fun c14 => ?_)
    · have q15 : ¬ x7.toInt = 91 := ti_ne c14
      refine lv_iconst (v := 0) hx hb dX8_fact_13 (by decide) ?_
      refine lv_istore_n (lv' := [(2, .int 0), (0, .ref (base + a0)), (1, .int a1)]) hx hb dX8_fact_14 rfl hl (by decide) rfl (fun ls hl => ?_)
      refine lv_iload_n hx hb dX8_fact_15 rfl (lv_at hl 0 rfl) ?_
      refine lv_if_ne (tgt := 32) hx hb dX8_fact_16 (by decide) (fun h => absurd h (by decide)) (fun _ => ?_)
      refine lv_aload_n hx hb dX8_fact_19 rfl (lv_at hl 1 rfl) ?_
      refine va_ldcS hx hb hown hT.2.1.2.2.2.2.2 dX8_fact_20 ?_
      have k16 : R4 a0 0 = some tb := (Fr.kp (k := 0) g2 hk_a0 rfl).trans k_tb
      have k17 : M3 a0 1 = ln := (Fr.kp (k := 1) f1 hk_a0 rfl).trans k_ln
      refine tw_goi hS (md_runU (As := [.ref (tx.1 5)]) (rest := []) hx hb hml hown hW hK hT hS.1 (t_X10_whichWord l D cy tx base Z K N M3 R4 J5 hS.2.1 a0 hz_a0 hk_a0 5 (by decide) tb k16 ln k17 (iv_mono h_ln (by decide) (by decide)) x10 k11 (iv_mono h13 (by decide) (by decide))) s_X8_32_X8 ⟨rfl, rfl, ⟨by simp only [md_rm]; omega, by simp only [md_rm]; omega⟩, ⟨Nat.le_of_ble_eq_true rfl, Nat.le_of_ble_eq_true rfl⟩⟩ hz_a0 hk_a0 (by decide) rfl rfl hl.1 rfl (Nat.le_of_ble_eq_true rfl) dX8_fact_22) rfl rfl (fun x24 H locs M20 R21 J22 hS f18 g19 E23 => ?_)
      obtain ⟨h_x24, p25⟩ := E23
      obtain ⟨x27, k28, h26, q29⟩ := p25
      have k28 : M20 a0 4 = x27 := k28
      have h30 : iv 0 400 x27 := by
        have := (h_a1).1; have := (h_a1).2; have := (h_fa).1; have := (h_fa).2; have := (h_ln).1; have := (h_ln).2; have := (h_pa).1; have := (h_pa).2; have := (h13).1; have := (h13).2; have := (h26).1; have := (h26).2; exact ⟨by omega, by omega⟩
      refine lv_if_ne (tgt := 32) hx hb dX8_fact_25 (by decide) (fun c31 => ?_) (fun c31 => ?_)
      · have q32 : ¬ x24.toInt = 0 := ti_ne c31
        refine lv_iconst (v := 0) hx hb dX8_fact_32 (by decide) ?_
        refine lv_istore_n (lv' := [(3, .int 0), (2, .int 0), (0, .ref (base + a0)), (1, .int a1)]) hx hb dX8_fact_33 rfl hl (by decide) rfl (fun ls hl => ?_)
        refine lv_iload_n hx hb dX8_fact_34 rfl (lv_at hl 1 rfl) ?_
        refine lv_if_ne (tgt := 67) hx hb dX8_fact_35 (by decide) (fun h => absurd h (by decide)) (fun _ => ?_)
        refine lv_iload_n hx hb dX8_fact_38 rfl (lv_at hl 0 rfl) ?_
        refine lv_if_ne (tgt := 67) hx hb dX8_fact_39 (by decide) (fun h => absurd h (by decide)) (fun _ => ?_)
        refine lv_aload_n hx hb dX8_fact_42 rfl (lv_at hl 2 rfl) ?_
        have k33 : R21 a0 0 = some tb := ((Fr.kp (k := 0) g19 hk_a0 rfl).trans (Fr.kp (k := 0) g2 hk_a0 rfl)).trans k_tb
        have k34 : M20 a0 1 = ln := ((Fr.kp (k := 1) f18 hk_a0 rfl).trans (Fr.kp (k := 1) f1 hk_a0 rfl)).trans k_ln
        have k35 : M20 a0 2 = x10 := (Fr.kp (k := 2) f18 hk_a0 rfl).trans k11
        have k36 : M20 a0 3 = fa := ((Fr.kp (k := 3) f18 hk_a0 rfl).trans (Fr.kp (k := 3) f1 hk_a0 rfl)).trans k_fa
        have q37 : ¬ fa.toInt = 0 ∨ x10.toInt ≤ ln.toInt := by
          have := (h_a1).1; have := (h_a1).2; have := (h_fa).1; have := (h_fa).2; have := (h_ln).1; have := (h_ln).2; have := (h_pa).1; have := (h_pa).2; have := (h13).1; have := (h13).2; have := (h30).1; have := (h30).2; omega
        refine tw_gov hS (md_runV (As := []) (rest := []) hx hb hml hown hW hK hT hS.1 (t_X8_sum l D cy tx base Z K N M20 R21 J22 hS.2.1 a0 hz_a0 hk_a0 tb k33 ln k34 (iv_mono h_ln (by decide) (by decide)) x10 k35 (iv_mono h13 (by decide) (by decide)) fa k36 (iv_mono h_fa (by decide) (by decide)) q37) s_X8_82 ⟨rfl, rfl, ⟨by simp only [md_rm]; omega, by simp only [md_rm]; omega⟩, ⟨Nat.le_of_ble_eq_true rfl, Nat.le_of_ble_eq_true rfl⟩⟩ hz_a0 hk_a0 (by decide) rfl rfl hl.1 rfl (Nat.le_of_ble_eq_true rfl) dX8_fact_43) rfl rfl (fun H locs M40 R41 J42 hS f38 g39 E43 => ?_)
        have p44 := E43
        obtain ⟨x46, x48, k49, k50, h45, h47, q51⟩ := p44
        have k49 : M40 a0 2 = x46 := k49
        have k50 : M40 a0 3 = x48 := k50
        have h52 : iv 0 400 x46 := by
          have := (h_a1).1; have := (h_a1).2; have := (h_fa).1; have := (h_fa).2; have := (h_ln).1; have := (h_ln).2; have := (h_pa).1; have := (h_pa).2; have := (h13).1; have := (h13).2; have := (h30).1; have := (h30).2; have := (h45).1; have := (h45).2; have := (h47).1; have := (h47).2; exact ⟨by omega, by omega⟩
        refine lv_aload_n hx hb dX8_fact_46 rfl (lv_at hl 2 rfl) ?_
        have k53 : R41 a0 0 = some tb := ((Fr.kp (k := 0) g39 hk_a0 rfl).trans ((Fr.kp (k := 0) g19 hk_a0 rfl).trans (Fr.kp (k := 0) g2 hk_a0 rfl))).trans k_tb
        have k54 : M40 a0 1 = ln := ((Fr.kp (k := 1) f38 hk_a0 rfl).trans ((Fr.kp (k := 1) f18 hk_a0 rfl).trans (Fr.kp (k := 1) f1 hk_a0 rfl))).trans k_ln
        have q55 : ¬ x48.toInt = 0 ∨ x46.toInt ≤ ln.toInt := by
          have := (h_a1).1; have := (h_a1).2; have := (h_fa).1; have := (h_fa).2; have := (h_ln).1; have := (h_ln).2; have := (h_pa).1; have := (h_pa).2; have := (h13).1; have := (h13).2; have := (h30).1; have := (h30).2; have := (h52).1; have := (h52).2; have := (h47).1; have := (h47).2; omega
        refine tw_goi hS (md_runV (As := []) (rest := []) hx hb hml hown hW hK hT hS.1 (t_X8_sign l D cy tx base Z K N M40 R41 J42 hS.2.1 a0 hz_a0 hk_a0 tb k53 ln k54 (iv_mono h_ln (by decide) (by decide)) x46 k49 (iv_mono h52 (by decide) (by decide)) x48 k50 (iv_mono h47 (by decide) (by decide)) q55) s_X8_85 ⟨rfl, rfl, ⟨by simp only [md_rm]; omega, by simp only [md_rm]; omega⟩, ⟨Nat.le_of_ble_eq_true rfl, Nat.le_of_ble_eq_true rfl⟩⟩ hz_a0 hk_a0 (by decide) rfl rfl hl.1 rfl (Nat.le_of_ble_eq_true rfl) dX8_fact_47) rfl rfl (fun x62 H locs M58 R59 J60 hS f56 g57 E61 => ?_)
        obtain ⟨h_x62, p63⟩ := E61
        obtain ⟨x65, x67, k68, k69, h64, h66, q70⟩ := p63
        have k68 : M58 a0 2 = x65 := k68
        have k69 : M58 a0 3 = x67 := k69
        refine lv_istore (lv' := [(4, .int x62), (3, .int 0), (2, .int 0), (0, .ref (base + a0)), (1, .int a1)]) hx hb dX8_fact_50 hl (by decide) rfl (fun ls hl => ?_)
        refine lv_aload_n hx hb dX8_fact_52 rfl (lv_at hl 3 rfl) ?_
        have k71 : R59 a0 0 = some tb := ((Fr.kp (k := 0) g57 hk_a0 rfl).trans ((Fr.kp (k := 0) g39 hk_a0 rfl).trans ((Fr.kp (k := 0) g19 hk_a0 rfl).trans (Fr.kp (k := 0) g2 hk_a0 rfl)))).trans k_tb
        have k72 : M58 a0 1 = ln := ((Fr.kp (k := 1) f56 hk_a0 rfl).trans ((Fr.kp (k := 1) f38 hk_a0 rfl).trans ((Fr.kp (k := 1) f18 hk_a0 rfl).trans (Fr.kp (k := 1) f1 hk_a0 rfl)))).trans k_ln
        have h73 : iv 0 420 x65 := by
          have := (h_a1).1; have := (h_a1).2; have := (h_fa).1; have := (h_fa).2; have := (h_ln).1; have := (h_ln).2; have := (h_pa).1; have := (h_pa).2; have := (h13).1; have := (h13).2; have := (h30).1; have := (h30).2; have := (h52).1; have := (h52).2; have := (h47).1; have := (h47).2; have := (h64).1; have := (h64).2; have := (h66).1; have := (h66).2; exact ⟨by omega, by omega⟩
        have q74 : ¬ x67.toInt = 0 ∨ x65.toInt ≤ ln.toInt := by
          have := (h_a1).1; have := (h_a1).2; have := (h_fa).1; have := (h_fa).2; have := (h_ln).1; have := (h_ln).2; have := (h_pa).1; have := (h_pa).2; have := (h13).1; have := (h13).2; have := (h30).1; have := (h30).2; have := (h52).1; have := (h52).2; have := (h47).1; have := (h47).2; have := (h64).1; have := (h64).2; have := (h66).1; have := (h66).2; omega
        refine tw_gov hS (md_runV (As := []) (rest := []) hx hb hml hown hW hK hT hS.1 (t_X8_sum l D cy tx base Z K N M58 R59 J60 hS.2.1 a0 hz_a0 hk_a0 tb k71 ln k72 (iv_mono h_ln (by decide) (by decide)) x65 k68 h73 x67 k69 (iv_mono h66 (by decide) (by decide)) q74) s_X8_82 ⟨rfl, rfl, ⟨by simp only [md_rm]; omega, by simp only [md_rm]; omega⟩, ⟨Nat.le_of_ble_eq_true rfl, Nat.le_of_ble_eq_true rfl⟩⟩ hz_a0 hk_a0 (by decide) rfl rfl hl.1 rfl (Nat.le_of_ble_eq_true rfl) dX8_fact_53) rfl rfl (fun H locs M77 R78 J79 hS f75 g76 E80 => ?_)
        have p81 := E80
        obtain ⟨x83, x85, k86, k87, h82, h84, q88⟩ := p81
        have k86 : M77 a0 2 = x83 := k86
        have k87 : M77 a0 3 = x85 := k87
        refine lv_aload_n hx hb dX8_fact_56 rfl (lv_at hl 3 rfl) ?_
        refine lv_iload hx hb dX8_fact_57 (lv_at hl 0 rfl) ?_
        refine lv_iconst (v := 0) hx hb dX8_fact_59 (by decide) ?_
        refine tw_goi hS (md_runV (As := [.int x62, .int 0]) (rest := []) hx hb hml hown hW hK hT hS.1 (t_X8_put l D cy tx base Z K N M77 R78 J79 hS.2.1 a0 hz_a0 hk_a0 x62 (iv_mono h_x62 (by decide) (by decide)) 0 (iv_mono (iv_c (c := 0) (n := 0) (by decide)) (by decide) (by decide))) s_X8_54 ⟨rfl, rfl, ⟨by simp only [md_rm]; omega, by simp only [md_rm]; omega⟩, ⟨Nat.le_of_ble_eq_true rfl, Nat.le_of_ble_eq_true rfl⟩⟩ hz_a0 hk_a0 (by decide) rfl rfl hl.1 rfl (Nat.le_of_ble_eq_true rfl) dX8_fact_60) rfl rfl (fun x95 H locs M91 R92 J93 hS f89 g90 E94 => ?_)
        have h_x95 := E94
        refine lv_pop hx hb dX8_fact_63 rfl ?_
        refine lv_goto (tgt := 156) hx hb dX8_fact_64 (by decide) ?_
        have k96 : M91 a0 2 = x83 := (Fr.kp (k := 2) f89 hk_a0 rfl).trans k86
        have k97 : M91 a0 3 = x85 := (Fr.kp (k := 3) f89 hk_a0 rfl).trans k87
        have q98 : x83.toInt ≤ 420 - a1.toInt ∧ (¬ x85.toInt = 0 ∨ x83.toInt ≤ ln.toInt) := by
          have := (h_a1).1; have := (h_a1).2; have := (h_fa).1; have := (h_fa).2; have := (h_ln).1; have := (h_ln).2; have := (h_pa).1; have := (h_pa).2; have := (h13).1; have := (h13).2; have := (h30).1; have := (h30).2; have := (h52).1; have := (h52).2; have := (h47).1; have := (h47).2; have := (h64).1; have := (h64).2; have := (h66).1; have := (h66).2; have := (h82).1; have := (h82).2; have := (h84).1; have := (h84).2; omega
        exact tw_endv hx hb hr hlocks hK hT hS hQ (⟨x83, x85, k96, k97, h82, h84, q98⟩) dX8_fact_156
      · have q99 : x24.toInt = 0 := ti_eq c31
        have h100 : iv 0 0 x24 := ⟨by have := (h_x24).1; have := ((iv_c (c := 0) (n := 0) (by decide))).1; omega, by have := (h_x24).2; have := ((iv_c (c := 0) (n := 0) (by decide))).2; omega⟩
        refine lv_iconst (v := 1) hx hb dX8_fact_28 (by decide) ?_
        refine lv_goto (tgt := 33) hx hb dX8_fact_29 (by decide) ?_
        refine lv_istore_n (lv' := [(3, .int 1), (2, .int 0), (0, .ref (base + a0)), (1, .int a1)]) hx hb dX8_fact_33 rfl hl (by decide) rfl (fun ls hl => ?_)
        refine lv_iload_n hx hb dX8_fact_34 rfl (lv_at hl 1 rfl) ?_
        refine lv_if_ne (tgt := 67) hx hb dX8_fact_35 (by decide) (fun h => absurd h (by decide)) (fun _ => ?_)
        refine lv_iload_n hx hb dX8_fact_38 rfl (lv_at hl 0 rfl) ?_
        refine lv_if_ne (tgt := 67) hx hb dX8_fact_39 (by decide) (fun _ => ?_) (fun h => absurd h (by decide))
        refine lv_iload_n hx hb dX8_fact_67 rfl (lv_at hl 3 rfl) ?_
        refine lv_bipush (v := 10) hx hb dX8_fact_68 (by decide) ?_
        refine lv_icmp_lt (tgt := 85) hx hb dX8_fact_70 (by decide) (fun c101 => ?_) (fun c101 => ?_)
        · have q102 : a1.toInt < 10 := ti_lt c101
          have h103 : iv 0 9 a1 := iv_ltL (y := 10) h_a1 (iv_c (c := 10) (n := 10) (by decide)) q102 (by decide)
          refine lv_iload_n hx hb dX8_fact_85 rfl (lv_at hl 0 rfl) ?_
          refine lv_if_eq (tgt := 111) hx hb dX8_fact_86 (by decide) (fun h => absurd h (by decide)) (fun _ => ?_)
          refine lv_aload_n hx hb dX8_fact_89 rfl (lv_at hl 2 rfl) ?_
          refine tw_gov hS (md_runU (As := []) (rest := []) hx hb hml hown hW hK hT hS.1 (t_X10_passWord l D cy tx base Z K N M20 R21 J22 hS.2.1 a0 hz_a0 hk_a0 x27 k28 (iv_mono h30 (by decide) (by decide))) s_X8_43_X8 ⟨rfl, rfl, ⟨by simp only [md_rm]; omega, by simp only [md_rm]; omega⟩, ⟨Nat.le_of_ble_eq_true rfl, Nat.le_of_ble_eq_true rfl⟩⟩ hz_a0 hk_a0 (by decide) rfl rfl hl.1 rfl (Nat.le_of_ble_eq_true rfl) dX8_fact_90) rfl rfl (fun H locs M106 R107 J108 hS f104 g105 E109 => ?_)
          have p110 := E109
          have k111 : M106 a0 2 = x27 := p110
          refine lv_aload_n hx hb dX8_fact_93 rfl (lv_at hl 2 rfl) ?_
          refine lv_iload_n hx hb dX8_fact_94 rfl (lv_at hl 3 rfl) ?_
          refine lv_iconst (v := 1) hx hb dX8_fact_95 (by decide) ?_
          refine tw_iadd (lo := 1) (hi := 10) hx hb h103 (iv_c (c := 1) (n := 1) (by decide)) ⟨by decide, by decide⟩ ⟨by decide, by decide⟩ dX8_fact_96 (fun x114 e113 h112 => ?_)
          have e113 : x114.toInt = a1.toInt + 1 := e113
          have k115 : R107 a0 0 = some tb := ((Fr.kp (k := 0) g105 hk_a0 rfl).trans ((Fr.kp (k := 0) g19 hk_a0 rfl).trans (Fr.kp (k := 0) g2 hk_a0 rfl))).trans k_tb
          have k116 : M106 a0 1 = ln := ((Fr.kp (k := 1) f104 hk_a0 rfl).trans ((Fr.kp (k := 1) f18 hk_a0 rfl).trans (Fr.kp (k := 1) f1 hk_a0 rfl))).trans k_ln
          have k117 : M106 a0 3 = fa := ((Fr.kp (k := 3) f104 hk_a0 rfl).trans ((Fr.kp (k := 3) f18 hk_a0 rfl).trans (Fr.kp (k := 3) f1 hk_a0 rfl))).trans k_fa
          have q118 : x27.toInt ≤ ln.toInt := by
            have := (h103).1; have := (h103).2; have := (h_fa).1; have := (h_fa).2; have := (h_ln).1; have := (h_ln).2; have := (h_pa).1; have := (h_pa).2; have := (h13).1; have := (h13).2; have := (h30).1; have := (h30).2; omega
          have hm119 : 10 - x114.toInt < (d : Int) := by
            have := (h103).1; have := (h103).2; have := (h_fa).1; have := (h_fa).2; have := (h_ln).1; have := (h_ln).2; have := (h_pa).1; have := (h_pa).2; have := (h112).1; have := (h112).2; omega
          refine tw_gov hS (md_runV (As := [.int x114]) (rest := []) hx hb hml hown hW hK hT hS.1 (ih M106 R107 J108 hS.2.1 a0 hz_a0 hk_a0 x114 (iv_mono h112 (by decide) (by decide)) tb k115 ln k116 (iv_mono h_ln (by decide) (by decide)) x27 k111 (iv_mono h30 (by decide) (by decide)) fa k117 (iv_mono h_fa (by decide) (by decide)) q118 hm119) s_X8_75 ⟨rfl, rfl, ⟨by simp only [md_rm]; omega, by simp only [md_rm]; omega⟩, ⟨Nat.le_of_ble_eq_true rfl, Nat.le_of_ble_eq_true rfl⟩⟩ hz_a0 hk_a0 (by decide) rfl rfl hl.1 rfl (Nat.le_of_ble_eq_true rfl) dX8_fact_97) rfl rfl (fun H locs M122 R123 J124 hS f120 g121 E125 => ?_)
          have p126 := E125
          obtain ⟨x128, x130, k131, k132, h127, h129, q133⟩ := p126
          have k131 : M122 a0 2 = x128 := k131
          have k132 : M122 a0 3 = x130 := k132
          refine lv_aload_n hx hb dX8_fact_100 rfl (lv_at hl 2 rfl) ?_
          refine lv_bipush (v := 11) hx hb dX8_fact_101 (by decide) ?_
          refine lv_iconst (v := 0) hx hb dX8_fact_103 (by decide) ?_
          refine tw_goi hS (md_runV (As := [.int 11, .int 0]) (rest := []) hx hb hml hown hW hK hT hS.1 (t_X8_put l D cy tx base Z K N M122 R123 J124 hS.2.1 a0 hz_a0 hk_a0 11 (iv_mono (iv_c (c := 11) (n := 11) (by decide)) (by decide) (by decide)) 0 (iv_mono (iv_c (c := 0) (n := 0) (by decide)) (by decide) (by decide))) s_X8_54 ⟨rfl, rfl, ⟨by simp only [md_rm]; omega, by simp only [md_rm]; omega⟩, ⟨Nat.le_of_ble_eq_true rfl, Nat.le_of_ble_eq_true rfl⟩⟩ hz_a0 hk_a0 (by decide) rfl rfl hl.1 rfl (Nat.le_of_ble_eq_true rfl) dX8_fact_104) rfl rfl (fun x140 H locs M136 R137 J138 hS f134 g135 E139 => ?_)
          have h_x140 := E139
          refine lv_pop hx hb dX8_fact_107 rfl ?_
          refine lv_goto (tgt := 156) hx hb dX8_fact_108 (by decide) ?_
          have k141 : M136 a0 2 = x128 := (Fr.kp (k := 2) f134 hk_a0 rfl).trans k131
          have k142 : M136 a0 3 = x130 := (Fr.kp (k := 3) f134 hk_a0 rfl).trans k132
          have q143 : x128.toInt ≤ 420 - a1.toInt ∧ (¬ x130.toInt = 0 ∨ x128.toInt ≤ ln.toInt) := by
            have := (h103).1; have := (h103).2; have := (h_fa).1; have := (h_fa).2; have := (h_ln).1; have := (h_ln).2; have := (h_pa).1; have := (h_pa).2; have := (h13).1; have := (h13).2; have := (h112).1; have := (h112).2; have := (h127).1; have := (h127).2; have := (h129).1; have := (h129).2; have := (h30).1; have := (h30).2; omega
          exact tw_endv hx hb hr hlocks hK hT hS hQ (⟨x128, x130, k141, k142, h127, h129, q143⟩) dX8_fact_156
        · have q144 : 10 ≤ a1.toInt := ti_nlt c101
          have h145 : iv 10 10 a1 := iv_geL (y := 10) h_a1 (iv_c (c := 10) (n := 10) (by decide)) q144 (by decide)
          refine lv_aload_n hx hb dX8_fact_73 rfl (lv_at hl 2 rfl) ?_
          refine lv_aload_n hx hb dX8_fact_74 rfl (lv_at hl 2 rfl) ?_
          have k146 : M20 a0 2 = x10 := (Fr.kp (k := 2) f18 hk_a0 rfl).trans k11
          refine tw_getk hx hb hW hown hK hS f_X8_36_8 hz_a0 hk_a0 (v := x10) k146 dX8_fact_75 ?_
          refine lv_iconst (v := 2) hx hb dX8_fact_78 (by decide) ?_
          refine tw_gov hS (md_runU (As := [.int x10, .int 2]) (rest := []) hx hb hml hown hW hK hT hS.1 (t_X10_fail l D cy tx base Z K N M20 R21 J22 hS.2.1 a0 hz_a0 hk_a0 x10 (iv_mono h13 (by decide) (by decide)) 2 (iv_mono (iv_c (c := 2) (n := 2) (by decide)) (by decide) (by decide))) s_X8_39_X8 ⟨rfl, rfl, ⟨by simp only [md_rm]; omega, by simp only [md_rm]; omega⟩, ⟨Nat.le_of_ble_eq_true rfl, Nat.le_of_ble_eq_true rfl⟩⟩ hz_a0 hk_a0 (by decide) rfl rfl hl.1 rfl (Nat.le_of_ble_eq_true rfl) dX8_fact_79) rfl rfl (fun H locs M149 R150 J151 hS f147 g148 E152 => ?_)
          have p153 := E152
          obtain ⟨x155, k156, h154, q157⟩ := p153
          have k156 : M149 a0 3 = x155 := k156
          refine lv_goto (tgt := 156) hx hb dX8_fact_82 (by decide) ?_
          have k158 : M149 a0 2 = x10 := (Fr.kp (k := 2) f147 hk_a0 rfl).trans k146
          have q159 : x10.toInt ≤ 420 - a1.toInt ∧ (¬ x155.toInt = 0 ∨ x10.toInt ≤ ln.toInt) := by
            have := (h145).1; have := (h145).2; have := (h_fa).1; have := (h_fa).2; have := (h_ln).1; have := (h_ln).2; have := (h_pa).1; have := (h_pa).2; have := (h13).1; have := (h13).2; have := (h154).1; have := (h154).2; have := (h30).1; have := (h30).2; omega
          exact tw_endv hx hb hr hlocks hK hT hS hQ (⟨x10, x155, k158, k156, (iv_mono h13 (by decide) (by decide)), h154, q159⟩) dX8_fact_156
    · have q160 : x7.toInt = 91 := ti_eq c14
      have h161 : iv 91 91 x7 := ⟨by have := (h_x7).1; have := ((iv_c (c := 91) (n := 91) (by decide))).1; omega, by have := (h_x7).2; have := ((iv_c (c := 91) (n := 91) (by decide))).2; omega⟩
      refine lv_iconst (v := 1) hx hb dX8_fact_9 (by decide) ?_
      refine lv_goto (tgt := 14) hx hb dX8_fact_10 (by decide) ?_
      refine lv_istore_n (lv' := [(2, .int 1), (0, .ref (base + a0)), (1, .int a1)]) hx hb dX8_fact_14 rfl hl (by decide) rfl (fun ls hl => ?_)
      refine lv_iload_n hx hb dX8_fact_15 rfl (lv_at hl 0 rfl) ?_
      refine lv_if_ne (tgt := 32) hx hb dX8_fact_16 (by decide) (fun _ => ?_) (fun h => absurd h (by decide))
      refine lv_iconst (v := 0) hx hb dX8_fact_32 (by decide) ?_
      refine lv_istore_n (lv' := [(3, .int 0), (2, .int 1), (0, .ref (base + a0)), (1, .int a1)]) hx hb dX8_fact_33 rfl hl (by decide) rfl (fun ls hl => ?_)
      refine lv_iload_n hx hb dX8_fact_34 rfl (lv_at hl 1 rfl) ?_
      refine lv_if_ne (tgt := 67) hx hb dX8_fact_35 (by decide) (fun _ => ?_) (fun h => absurd h (by decide))
      refine lv_iload_n hx hb dX8_fact_67 rfl (lv_at hl 3 rfl) ?_
      refine lv_bipush (v := 10) hx hb dX8_fact_68 (by decide) ?_
      refine lv_icmp_lt (tgt := 85) hx hb dX8_fact_70 (by decide) (fun c162 => ?_) (fun c162 => ?_)
      · have q163 : a1.toInt < 10 := ti_lt c162
        have h164 : iv 0 9 a1 := iv_ltL (y := 10) h_a1 (iv_c (c := 10) (n := 10) (by decide)) q163 (by decide)
        refine lv_iload_n hx hb dX8_fact_85 rfl (lv_at hl 0 rfl) ?_
        refine lv_if_eq (tgt := 111) hx hb dX8_fact_86 (by decide) (fun _ => ?_) (fun h => absurd h (by decide))
        refine lv_aload_n hx hb dX8_fact_111 rfl (lv_at hl 2 rfl) ?_
        refine lv_dup hx hb dX8_fact_112 rfl ?_
        refine tw_getk hx hb hW hown hK hS f_X8_36_8 hz_a0 hk_a0 (v := x10) k11 dX8_fact_113 ?_
        refine lv_iconst (v := 1) hx hb dX8_fact_116 (by decide) ?_
        refine tw_iadd (lo := 1) (hi := 401) hx hb h13 (iv_c (c := 1) (n := 1) (by decide)) ⟨by decide, by decide⟩ ⟨by decide, by decide⟩ dX8_fact_117 (fun x167 e166 h165 => ?_)
        have e166 : x167.toInt = x10.toInt + 1 := e166
        refine tw_puti hx hb hW hown hK hS f_X8_36_8 hz_a0 hk_a0 rfl rfl (lo := 0) (hi := 1000) rfl (iv_mono h165 (by decide) (by decide)) rfl dX8_fact_118 (fun H locs M170 hS k168 f169 => ?_)
        refine lv_aload_n hx hb dX8_fact_121 rfl (lv_at hl 2 rfl) ?_
        refine lv_iload_n hx hb dX8_fact_122 rfl (lv_at hl 3 rfl) ?_
        refine lv_iconst (v := 1) hx hb dX8_fact_123 (by decide) ?_
        refine tw_iadd (lo := 1) (hi := 10) hx hb h164 (iv_c (c := 1) (n := 1) (by decide)) ⟨by decide, by decide⟩ ⟨by decide, by decide⟩ dX8_fact_124 (fun x173 e172 h171 => ?_)
        have e172 : x173.toInt = a1.toInt + 1 := e172
        have k174 : R4 a0 0 = some tb := (Fr.kp (k := 0) g2 hk_a0 rfl).trans k_tb
        have k175 : M170 a0 1 = ln := ((Fr.kp (k := 1) f169 hk_a0 rfl).trans (Fr.kp (k := 1) f1 hk_a0 rfl)).trans k_ln
        have h176 : iv 0 400 x167 := by
          have := (h164).1; have := (h164).2; have := (h_fa).1; have := (h_fa).2; have := (h_ln).1; have := (h_ln).2; have := (h_pa).1; have := (h_pa).2; have := (h13).1; have := (h13).2; have := (h165).1; have := (h165).2; exact ⟨by omega, by omega⟩
        have k177 : M170 a0 3 = fa := ((Fr.kp (k := 3) f169 hk_a0 rfl).trans (Fr.kp (k := 3) f1 hk_a0 rfl)).trans k_fa
        have q178 : x167.toInt ≤ ln.toInt := by
          have := (h164).1; have := (h164).2; have := (h_fa).1; have := (h_fa).2; have := (h_ln).1; have := (h_ln).2; have := (h_pa).1; have := (h_pa).2; have := (h13).1; have := (h13).2; have := (h165).1; have := (h165).2; omega
        have hm179 : 10 - x173.toInt < (d : Int) := by
          have := (h164).1; have := (h164).2; have := (h_fa).1; have := (h_fa).2; have := (h_ln).1; have := (h_ln).2; have := (h_pa).1; have := (h_pa).2; have := (h171).1; have := (h171).2; omega
        refine tw_gov hS (md_runV (As := [.int x173]) (rest := []) hx hb hml hown hW hK hT hS.1 (t_X8_test l D cy tx base Z K N d ih M170 R4 J5 hS.2.1 a0 hz_a0 hk_a0 x173 (iv_mono h171 (by decide) (by decide)) tb k174 ln k175 (iv_mono h_ln (by decide) (by decide)) x167 k168 h176 fa k177 (iv_mono h_fa (by decide) (by decide)) q178 hm179) s_X8_48 ⟨rfl, rfl, ⟨by simp only [md_rm]; omega, by simp only [md_rm]; omega⟩, ⟨Nat.le_of_ble_eq_true rfl, Nat.le_of_ble_eq_true rfl⟩⟩ hz_a0 hk_a0 (by decide) rfl rfl hl.1 rfl (Nat.le_of_ble_eq_true rfl) dX8_fact_125) rfl rfl (fun H locs M182 R183 J184 hS f180 g181 E185 => ?_)
        have p186 := E185
        obtain ⟨x188, x190, k191, k192, h187, h189, q193⟩ := p186
        have k191 : M182 a0 2 = x188 := k191
        have k192 : M182 a0 3 = x190 := k192
        refine lv_aload_n hx hb dX8_fact_128 rfl (lv_at hl 2 rfl) ?_
        have k194 : R183 a0 0 = some tb := ((Fr.kp (k := 0) g181 hk_a0 rfl).trans (Fr.kp (k := 0) g2 hk_a0 rfl)).trans k_tb
        have k195 : M182 a0 1 = ln := ((Fr.kp (k := 1) f180 hk_a0 rfl).trans ((Fr.kp (k := 1) f169 hk_a0 rfl).trans (Fr.kp (k := 1) f1 hk_a0 rfl))).trans k_ln
        refine tw_goi hS (md_runU (As := []) (rest := []) hx hb hml hown hW hK hT hS.1 (t_X10_hereBehindBlanks l D cy tx base Z K N M182 R183 J184 hS.2.1 a0 hz_a0 hk_a0 tb k194 ln k195 (iv_mono h_ln (by decide) (by decide)) x188 k191 (iv_mono h187 (by decide) (by decide))) s_X8_26_X8 ⟨rfl, rfl, ⟨by simp only [md_rm]; omega, by simp only [md_rm]; omega⟩, ⟨Nat.le_of_ble_eq_true rfl, Nat.le_of_ble_eq_true rfl⟩⟩ hz_a0 hk_a0 (by decide) rfl rfl hl.1 rfl (Nat.le_of_ble_eq_true rfl) dX8_fact_129) rfl rfl (fun x202 H locs M198 R199 J200 hS f196 g197 E201 => ?_)
        obtain ⟨h_x202, p203⟩ := E201
        obtain ⟨x205, k206, h204, q207⟩ := p203
        have k206 : M198 a0 2 = x205 := k206
        have h208 : iv 0 420 x205 := by
          have := (h164).1; have := (h164).2; have := (h_fa).1; have := (h_fa).2; have := (h_ln).1; have := (h_ln).2; have := (h_pa).1; have := (h_pa).2; have := (h13).1; have := (h13).2; have := (h171).1; have := (h171).2; have := (h187).1; have := (h187).2; have := (h189).1; have := (h189).2; have := (h204).1; have := (h204).2; exact ⟨by omega, by omega⟩
        refine lv_bipush (v := 93) hx hb dX8_fact_132 (by decide) ?_
        refine lv_icmp_eq (tgt := 146) hx hb dX8_fact_134 (by decide) (fun c209 => ?_) (fun c209 => ?_)
        · have q210 : x202.toInt = 93 := ti_eq c209
          have h211 : iv 93 93 x202 := ⟨by have := (h_x202).1; have := ((iv_c (c := 93) (n := 93) (by decide))).1; omega, by have := (h_x202).2; have := ((iv_c (c := 93) (n := 93) (by decide))).2; omega⟩
          refine lv_aload_n hx hb dX8_fact_146 rfl (lv_at hl 2 rfl) ?_
          refine lv_dup hx hb dX8_fact_147 rfl ?_
          refine tw_getk hx hb hW hown hK hS f_X8_36_8 hz_a0 hk_a0 (v := x205) k206 dX8_fact_148 ?_
          refine lv_iconst (v := 1) hx hb dX8_fact_151 (by decide) ?_
          refine tw_iadd (lo := 1) (hi := 421) hx hb h208 (iv_c (c := 1) (n := 1) (by decide)) ⟨by decide, by decide⟩ ⟨by decide, by decide⟩ dX8_fact_152 (fun x214 e213 h212 => ?_)
          have e213 : x214.toInt = x205.toInt + 1 := e213
          refine tw_puti hx hb hW hown hK hS f_X8_36_8 hz_a0 hk_a0 rfl rfl (lo := 0) (hi := 1000) rfl (iv_mono h212 (by decide) (by decide)) rfl dX8_fact_153 (fun H locs M217 hS k215 f216 => ?_)
          have h218 : iv 0 420 x214 := by
            have := (h164).1; have := (h164).2; have := (h_fa).1; have := (h_fa).2; have := (h_ln).1; have := (h_ln).2; have := (h_pa).1; have := (h_pa).2; have := (h13).1; have := (h13).2; have := (h171).1; have := (h171).2; have := (h187).1; have := (h187).2; have := (h189).1; have := (h189).2; have := (h208).1; have := (h208).2; have := (h212).1; have := (h212).2; exact ⟨by omega, by omega⟩
          have k219 : M217 a0 3 = x190 := ((Fr.kp (k := 3) f216 hk_a0 rfl).trans (Fr.kp (k := 3) f196 hk_a0 rfl)).trans k192
          have q220 : x214.toInt ≤ 420 - a1.toInt ∧ (¬ x190.toInt = 0 ∨ x214.toInt ≤ ln.toInt) := by
            have := (h164).1; have := (h164).2; have := (h_fa).1; have := (h_fa).2; have := (h_ln).1; have := (h_ln).2; have := (h_pa).1; have := (h_pa).2; have := (h13).1; have := (h13).2; have := (h171).1; have := (h171).2; have := (h187).1; have := (h187).2; have := (h189).1; have := (h189).2; have := (h208).1; have := (h208).2; have := (h212).1; have := (h212).2; omega
          exact tw_endv hx hb hr hlocks hK hT hS hQ (⟨x214, x190, k215, k219, h218, h189, q220⟩) dX8_fact_156
        · have q221 : ¬ x202.toInt = 93 := ti_ne c209
          refine lv_aload_n hx hb dX8_fact_137 rfl (lv_at hl 2 rfl) ?_
          refine lv_aload_n hx hb dX8_fact_138 rfl (lv_at hl 2 rfl) ?_
          refine tw_getk hx hb hW hown hK hS f_X8_36_8 hz_a0 hk_a0 (v := x205) k206 dX8_fact_139 ?_
          refine lv_iconst (v := 0) hx hb dX8_fact_142 (by decide) ?_
          refine tw_gov hS (md_runU (As := [.int x205, .int 0]) (rest := []) hx hb hml hown hW hK hT hS.1 (t_X10_fail l D cy tx base Z K N M198 R199 J200 hS.2.1 a0 hz_a0 hk_a0 x205 (iv_mono h208 (by decide) (by decide)) 0 (iv_mono (iv_c (c := 0) (n := 0) (by decide)) (by decide) (by decide))) s_X8_39_X8 ⟨rfl, rfl, ⟨by simp only [md_rm]; omega, by simp only [md_rm]; omega⟩, ⟨Nat.le_of_ble_eq_true rfl, Nat.le_of_ble_eq_true rfl⟩⟩ hz_a0 hk_a0 (by decide) rfl rfl hl.1 rfl (Nat.le_of_ble_eq_true rfl) dX8_fact_143) rfl rfl (fun H locs M224 R225 J226 hS f222 g223 E227 => ?_)
          have p228 := E227
          obtain ⟨x230, k231, h229, q232⟩ := p228
          have k231 : M224 a0 3 = x230 := k231
          refine lv_aload_n hx hb dX8_fact_146 rfl (lv_at hl 2 rfl) ?_
          refine lv_dup hx hb dX8_fact_147 rfl ?_
          have k233 : M224 a0 2 = x205 := (Fr.kp (k := 2) f222 hk_a0 rfl).trans k206
          refine tw_getk hx hb hW hown hK hS f_X8_36_8 hz_a0 hk_a0 (v := x205) k233 dX8_fact_148 ?_
          refine lv_iconst (v := 1) hx hb dX8_fact_151 (by decide) ?_
          refine tw_iadd (lo := 1) (hi := 421) hx hb h208 (iv_c (c := 1) (n := 1) (by decide)) ⟨by decide, by decide⟩ ⟨by decide, by decide⟩ dX8_fact_152 (fun x236 e235 h234 => ?_)
          have e235 : x236.toInt = x205.toInt + 1 := e235
          refine tw_puti hx hb hW hown hK hS f_X8_36_8 hz_a0 hk_a0 rfl rfl (lo := 0) (hi := 1000) rfl (iv_mono h234 (by decide) (by decide)) rfl dX8_fact_153 (fun H locs M239 hS k237 f238 => ?_)
          have h240 : iv 0 420 x236 := by
            have := (h164).1; have := (h164).2; have := (h_fa).1; have := (h_fa).2; have := (h_ln).1; have := (h_ln).2; have := (h_pa).1; have := (h_pa).2; have := (h13).1; have := (h13).2; have := (h171).1; have := (h171).2; have := (h187).1; have := (h187).2; have := (h189).1; have := (h189).2; have := (h208).1; have := (h208).2; have := (h234).1; have := (h234).2; exact ⟨by omega, by omega⟩
          have k241 : M239 a0 3 = x230 := (Fr.kp (k := 3) f238 hk_a0 rfl).trans k231
          have q242 : x236.toInt ≤ 420 - a1.toInt ∧ (¬ x230.toInt = 0 ∨ x236.toInt ≤ ln.toInt) := by
            have := (h164).1; have := (h164).2; have := (h_fa).1; have := (h_fa).2; have := (h_ln).1; have := (h_ln).2; have := (h_pa).1; have := (h_pa).2; have := (h13).1; have := (h13).2; have := (h171).1; have := (h171).2; have := (h187).1; have := (h187).2; have := (h189).1; have := (h189).2; have := (h208).1; have := (h208).2; have := (h229).1; have := (h229).2; have := (h234).1; have := (h234).2; omega
          exact tw_endv hx hb hr hlocks hK hT hS hQ (⟨x236, x230, k237, k241, h240, h229, q242⟩) dX8_fact_156
      · have q243 : 10 ≤ a1.toInt := ti_nlt c162
        have h244 : iv 10 10 a1 := iv_geL (y := 10) h_a1 (iv_c (c := 10) (n := 10) (by decide)) q243 (by decide)
        refine lv_aload_n hx hb dX8_fact_73 rfl (lv_at hl 2 rfl) ?_
        refine lv_aload_n hx hb dX8_fact_74 rfl (lv_at hl 2 rfl) ?_
        refine tw_getk hx hb hW hown hK hS f_X8_36_8 hz_a0 hk_a0 (v := x10) k11 dX8_fact_75 ?_
        refine lv_iconst (v := 2) hx hb dX8_fact_78 (by decide) ?_
        refine tw_gov hS (md_runU (As := [.int x10, .int 2]) (rest := []) hx hb hml hown hW hK hT hS.1 (t_X10_fail l D cy tx base Z K N M3 R4 J5 hS.2.1 a0 hz_a0 hk_a0 x10 (iv_mono h13 (by decide) (by decide)) 2 (iv_mono (iv_c (c := 2) (n := 2) (by decide)) (by decide) (by decide))) s_X8_39_X8 ⟨rfl, rfl, ⟨by simp only [md_rm]; omega, by simp only [md_rm]; omega⟩, ⟨Nat.le_of_ble_eq_true rfl, Nat.le_of_ble_eq_true rfl⟩⟩ hz_a0 hk_a0 (by decide) rfl rfl hl.1 rfl (Nat.le_of_ble_eq_true rfl) dX8_fact_79) rfl rfl (fun H locs M247 R248 J249 hS f245 g246 E250 => ?_)
        have p251 := E250
        obtain ⟨x253, k254, h252, q255⟩ := p251
        have k254 : M247 a0 3 = x253 := k254
        refine lv_goto (tgt := 156) hx hb dX8_fact_82 (by decide) ?_
        have k256 : M247 a0 2 = x10 := (Fr.kp (k := 2) f245 hk_a0 rfl).trans k11
        have q257 : x10.toInt ≤ 420 - a1.toInt ∧ (¬ x253.toInt = 0 ∨ x10.toInt ≤ ln.toInt) := by
          have := (h244).1; have := (h244).2; have := (h_fa).1; have := (h_fa).2; have := (h_ln).1; have := (h_ln).2; have := (h_pa).1; have := (h_pa).2; have := (h13).1; have := (h13).2; have := (h252).1; have := (h252).2; omega
        exact tw_endv hx hb hr hlocks hK hT hS hQ (⟨x10, x253, k256, k254, (iv_mono h13 (by decide) (by decide)), h252, q257⟩) dX8_fact_156
