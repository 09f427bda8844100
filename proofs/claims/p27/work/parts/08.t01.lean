def Lt_X10_number : WL := [(9, 2, 4)]
def LRt_X10_number : WL := []
set_option maxRecDepth 100000 in
set_option maxHeartbeats 4000000 in
theorem t_X10_number (l : Launch) (D : va_G) (cy : Nat → ClassId) (tx : (Nat → Nat) × (Nat → Nat)) (base Z : Nat) (K N : Nat → Nat) (Ma : MT) (Ra : RT) (Ja : JT) (hTy : Ty Z K N Ma Ra) (a0 : Nat) (hz_a0 : a0 < Z) (hk_a0 : K a0 = 9) (a1 : Int32) (h_a1 : iv 0 0 a1) (a2 : Int32) (h_a2 : iv 99999 99999 a2) (tb : Nat) (k_tb : Ra a0 0 = some tb) (ln : Int32) (k_ln : Ma a0 1 = ln) (h_ln : iv 0 400 ln) (pa : Int32) (k_pa : Ma a0 2 = pa) (h_pa : iv 0 1000 pa) (fa : Int32) (k_fa : Ma a0 3 = fa) (h_fa : iv (-2147483648) 2147483647 fa) : Met l yX10_number [Cond.code yX10_number cX10_number 5 (some .int)] (md_rm 2 0 0) (va_Pc [.ref (base + a0), .int a1, .int a2] (md_U D cy tx base Z K N Ma Ra Ja)) (mQi D cy tx base (fun r u => TP Z K N Lt_X10_number LRt_X10_number Ma Ra u ∧ (iv (-2147483648) 2147483647 r ∧ (∃ x0 x1 : Int32, u.2.2.2.1 a0 2 = x0 ∧ u.2.2.2.1 a0 3 = x1 ∧ iv 0 1000 x0 ∧ iv (-2147483648) 2147483647 x1 ∧ ((pa.toInt ≤ x0.toInt ∧ (x0.toInt ≤ ln.toInt ∨ x0.toInt = pa.toInt)) ∧ (¬ x1.toInt = 0 ∨ fa.toInt = 0)))))) 0 0 (fun q => base ≤ q) := by
  refine tw_ofW (L := Lt_X10_number) (LR := LRt_X10_number) (by decide) (Nat.le_of_ble_eq_true rfl) hTy ?_
  intro p e s m args below meth c Q ls hx hb hr hlocks hown hml hW hK hT hS hQ hl
  have hl : lv_has ls 5 [(0, .ref (base + a0)), (1, .int a1), (2, .int a2)] := hl
  obtain ⟨hz_tb, hk_tb, hn_tb⟩ := hTy.refn hz_a0 hk_a0 (show rtR 9 0 = (13, 400, 1) from rfl) k_tb
  have hn_tb := hn_tb (by decide)
  refine lv_aload_n hx hb dX10_number_0 rfl (lv_at hl 0 rfl) ?_
  refine tw_getk hx hb hW hown hK hS f_X10_25_8 hz_a0 hk_a0 (v := pa) k_pa dX10_number_1 ?_
  refine lv_istore_n (lv' := [(3, .int pa), (0, .ref (base + a0)), (1, .int a1), (2, .int a2)]) hx hb dX10_number_4 rfl hl (by decide) rfl (fun ls hl => ?_)
  refine lv_iconst (v := 0) hx hb dX10_number_5 (by decide) ?_
  refine lv_istore (lv' := [(4, .int 0), (3, .int pa), (0, .ref (base + a0)), (1, .int a1), (2, .int a2)]) hx hb dX10_number_6 hl (by decide) rfl (fun ls hl => ?_)
  have W8_2 : ∀ (n_2 : Nat) (x1 : Int32) (x7 : Int32) (x9 : Int32) (M2 : MT) (R3 : RT) (J4 : JT) (H : Heap) (locs : List Loc) (ls : Array Slot) (h_x1 : iv (-2147483648) 2147483647 x1) (h_x7 : iv 0 1000 x7) (k8 : M2 a0 2 = x7) (h_x9 : iv (-2147483648) 2147483647 x9) (k10 : M2 a0 3 = x9) (w0_2 : pa.toInt ≤ x7.toInt ∧ (x7.toInt ≤ ln.toInt ∨ x7.toInt = pa.toInt)) (w1_2 : x9.toInt = fa.toInt) (hm_2 : 1000 - x7.toInt < (n_2 : Int)) (hS : SB D cy base Z K N Lt_X10_number LRt_X10_number Ma Ra M2 R3 J4 s H locs) (hl : lv_has ls 5 [(4, .int x1), (3, .int pa), (0, .ref (base + a0)), (1, .int a1), (2, .int a2)]), W p l e (md_rm 2 0 0) s m args below meth c H locs 0 0 Q (F0 m 8 ls []) := by
    intro n_2
    induction n_2 with
    | zero =>
      intro x1 x7 x9 M2 R3 J4 H locs ls h_x1 h_x7 k8 h_x9 k10 w0_2 w1_2 hm_2 hS hl
      exfalso
      have := (h_a1).1; have := (h_a1).2; have := (h_a2).1; have := (h_a2).2; have := (h_fa).1; have := (h_fa).2; have := (h_ln).1; have := (h_ln).2; have := (h_pa).1; have := (h_pa).2; have := (h_x7).1; have := (h_x7).2; omega
    | succ n_2 ih_2 =>
      intro x1 x7 x9 M2 R3 J4 H locs ls h_x1 h_x7 k8 h_x9 k10 w0_2 w1_2 hm_2 hS hl
      have f5 := hS.2.2.1
      have g6 := hS.2.2.2
      refine lv_aload_n hx hb dX10_number_8 rfl (lv_at hl 2 rfl) ?_
      refine tw_getk hx hb hW hown hK hS f_X10_25_8 hz_a0 hk_a0 (v := x7) k8 dX10_number_9 ?_
      refine lv_aload_n hx hb dX10_number_12 rfl (lv_at hl 2 rfl) ?_
      have k11 : M2 a0 1 = ln := (Fr.kp (k := 1) f5 hk_a0 rfl).trans k_ln
      refine tw_getk hx hb hW hown hK hS f_X10_21_8 hz_a0 hk_a0 (v := ln) k11 dX10_number_13 ?_
      refine lv_icmp_ge (tgt := 69) hx hb dX10_number_16 (by decide) (fun c12 => ?_) (fun c12 => ?_)
      · have q13 : ln.toInt ≤ x7.toInt := ti_le c12
        refine lv_aload_n hx hb dX10_number_69 rfl (lv_at hl 2 rfl) ?_
        refine tw_getk hx hb hW hown hK hS f_X10_25_8 hz_a0 hk_a0 (v := x7) k8 dX10_number_70 ?_
        refine lv_iload_n hx hb dX10_number_73 rfl (lv_at hl 1 rfl) ?_
        refine lv_icmp_ne (tgt := 86) hx hb dX10_number_74 (by decide) (fun c14 => ?_) (fun c14 => ?_)
        · have q15 : ¬ x7.toInt = pa.toInt := ti_ne c14
          refine lv_aload_n hx hb dX10_number_86 rfl (lv_at hl 2 rfl) ?_
          refine tw_getk hx hb hW hown hK hS f_X10_25_8 hz_a0 hk_a0 (v := x7) k8 dX10_number_87 ?_
          refine lv_iload_n hx hb dX10_number_90 rfl (lv_at hl 1 rfl) ?_
          refine tw_isub (lo := (-1000)) (hi := 1000) hx hb h_x7 h_pa ⟨by decide, by decide⟩ ⟨by decide, by decide⟩ dX10_number_91 (fun x18 e17 h16 => ?_)
          refine lv_iconst (v := 5) hx hb dX10_number_92 (by decide) ?_
          refine lv_icmp_gt (tgt := 108) hx hb dX10_number_93 (by decide) (fun c19 => ?_) (fun c19 => ?_)
          · have q20 : 5 < x18.toInt := ti_lt c19
            have h21 : iv 6 1000 x18 := iv_gtL (y := 5) h16 (iv_c (c := 5) (n := 5) (by decide)) q20 (by decide)
            refine lv_aload_n hx hb dX10_number_108 rfl (lv_at hl 2 rfl) ?_
            refine lv_iload_n hx hb dX10_number_109 rfl (lv_at hl 1 rfl) ?_
            refine lv_iconst (v := 1) hx hb dX10_number_110 (by decide) ?_
            refine tw_gov hS (md_runU (As := [.int pa, .int 1]) (rest := []) hx hb hml hown hW hK hT hS.1 (t_X10_fail l D cy tx base Z K N M2 R3 J4 hS.2.1 a0 hz_a0 hk_a0 pa h_pa 1 (iv_mono (iv_c (c := 1) (n := 1) (by decide)) (by decide) (by decide))) s_X10_50_X8 ⟨rfl, rfl, ⟨Nat.le_of_ble_eq_true rfl, Nat.le_of_ble_eq_true rfl⟩, ⟨Nat.le_of_ble_eq_true rfl, Nat.le_of_ble_eq_true rfl⟩⟩ hz_a0 hk_a0 (by decide) rfl rfl hl.1 rfl (Nat.le_of_ble_eq_true rfl) dX10_number_111) rfl rfl (fun H locs M25 R26 J24 hS f22 g23 E27 => ?_)
            have eR26 := Fr.nil g23 rfl
            subst eR26
            have p28 := E27
            clear E27
            obtain ⟨x30, k31, h29, q32⟩ := p28
            have k31 : M25 a0 3 = x30 := k31
            refine lv_iload hx hb dX10_number_114 (lv_at hl 0 rfl) ?_
            have k33 : M25 a0 2 = x7 := (Fr.kp (k := 2) f22 hk_a0 rfl).trans k8
            have q34 : (pa.toInt ≤ x7.toInt ∧ (x7.toInt ≤ ln.toInt ∨ x7.toInt = pa.toInt)) ∧ (¬ x30.toInt = 0 ∨ fa.toInt = 0) := by
              have := (h_a1).1; have := (h_a1).2; have := (h_a2).1; have := (h_a2).2; have := (h_fa).1; have := (h_fa).2; have := (h_ln).1; have := (h_ln).2; have := (h_pa).1; have := (h_pa).2; have := (h21).1; have := (h21).2; have := (h29).1; have := (h29).2; have := (h_x7).1; have := (h_x7).2; have := (h_x9).1; have := (h_x9).2; omega
            exact tw_endi hx hb hr hlocks hK hT hS hQ (⟨h_x1, ⟨x7, x30, k33, k31, h_x7, h29, q34⟩⟩) dX10_number_116
          · have q35 : x18.toInt ≤ 5 := ti_nlt c19
            have h36 : iv (-1000) 5 x18 := iv_leL (y := 5) h16 (iv_c (c := 5) (n := 5) (by decide)) q35 (by decide)
            refine lv_iload hx hb dX10_number_96 (lv_at hl 0 rfl) ?_
            refine lv_iload_n hx hb dX10_number_98 rfl (lv_at hl 3 rfl) ?_
            refine lv_icmp_lt (tgt := 108) hx hb dX10_number_99 (by decide) (fun c37 => ?_) (fun c37 => ?_)
            · have q38 : x1.toInt < a1.toInt := ti_lt c37
              have h39 : iv (-2147483648) (-1) x1 := iv_ltL (y := a1) h_x1 h_a1 q38 (by decide)
              refine lv_aload_n hx hb dX10_number_108 rfl (lv_at hl 2 rfl) ?_
              refine lv_iload_n hx hb dX10_number_109 rfl (lv_at hl 1 rfl) ?_
              refine lv_iconst (v := 1) hx hb dX10_number_110 (by decide) ?_
              refine tw_gov hS (md_runU (As := [.int pa, .int 1]) (rest := []) hx hb hml hown hW hK hT hS.1 (t_X10_fail l D cy tx base Z K N M2 R3 J4 hS.2.1 a0 hz_a0 hk_a0 pa h_pa 1 (iv_mono (iv_c (c := 1) (n := 1) (by decide)) (by decide) (by decide))) s_X10_50_X8 ⟨rfl, rfl, ⟨Nat.le_of_ble_eq_true rfl, Nat.le_of_ble_eq_true rfl⟩, ⟨Nat.le_of_ble_eq_true rfl, Nat.le_of_ble_eq_true rfl⟩⟩ hz_a0 hk_a0 (by decide) rfl rfl hl.1 rfl (Nat.le_of_ble_eq_true rfl) dX10_number_111) rfl rfl (fun H locs M43 R44 J42 hS f40 g41 E45 => ?_)
              have eR44 := Fr.nil g41 rfl
              subst eR44
              have p46 := E45
              clear E45
              obtain ⟨x48, k49, h47, q50⟩ := p46
              have k49 : M43 a0 3 = x48 := k49
              refine lv_iload hx hb dX10_number_114 (lv_at hl 0 rfl) ?_
              have k51 : M43 a0 2 = x7 := (Fr.kp (k := 2) f40 hk_a0 rfl).trans k8
              have q52 : (pa.toInt ≤ x7.toInt ∧ (x7.toInt ≤ ln.toInt ∨ x7.toInt = pa.toInt)) ∧ (¬ x48.toInt = 0 ∨ fa.toInt = 0) := by
                have := (h_a1).1; have := (h_a1).2; have := (h_a2).1; have := (h_a2).2; have := (h_fa).1; have := (h_fa).2; have := (h_ln).1; have := (h_ln).2; have := (h_pa).1; have := (h_pa).2; have := (h36).1; have := (h36).2; have := (h47).1; have := (h47).2; have := (h_x7).1; have := (h_x7).2; have := (h_x9).1; have := (h_x9).2; omega
              exact tw_endi hx hb hr hlocks hK hT hS hQ (⟨(iv_mono h39 (by decide) (by decide)), ⟨x7, x48, k51, k49, h_x7, h47, q52⟩⟩) dX10_number_116
            · have q53 : a1.toInt ≤ x1.toInt := ti_nlt c37
              have h54 : iv 0 2147483647 x1 := iv_geL (y := a1) h_x1 h_a1 q53 (by decide)
              refine lv_iload hx hb dX10_number_102 (lv_at hl 0 rfl) ?_
              refine lv_iload_n hx hb dX10_number_104 rfl (lv_at hl 4 rfl) ?_
              refine lv_icmp_le (tgt := 114) hx hb dX10_number_105 (by decide) (fun c55 => ?_) (fun c55 => ?_)
              · have q56 : x1.toInt ≤ a2.toInt := ti_le c55
                have h57 : iv 0 99999 x1 := iv_leL (y := a2) h54 h_a2 q56 (by decide)
                refine lv_iload hx hb dX10_number_114 (lv_at hl 0 rfl) ?_
                have q58 : (pa.toInt ≤ x7.toInt ∧ (x7.toInt ≤ ln.toInt ∨ x7.toInt = pa.toInt)) ∧ (¬ x9.toInt = 0 ∨ fa.toInt = 0) := by
                  have := (h_a1).1; have := (h_a1).2; have := (h_a2).1; have := (h_a2).2; have := (h_fa).1; have := (h_fa).2; have := (h_ln).1; have := (h_ln).2; have := (h_pa).1; have := (h_pa).2; have := (h36).1; have := (h36).2; have := (h_x7).1; have := (h_x7).2; have := (h_x9).1; have := (h_x9).2; omega
                exact tw_endi hx hb hr hlocks hK hT hS hQ (⟨(iv_mono h57 (by decide) (by decide)), ⟨x7, x9, k8, k10, h_x7, h_x9, q58⟩⟩) dX10_number_116
              · have q59 : a2.toInt < x1.toInt := ti_nle c55
                have h60 : iv 100000 2147483647 x1 := iv_gtL (y := a2) h54 h_a2 q59 (by decide)
                refine lv_aload_n hx hb dX10_number_108 rfl (lv_at hl 2 rfl) ?_
                refine lv_iload_n hx hb dX10_number_109 rfl (lv_at hl 1 rfl) ?_
                refine lv_iconst (v := 1) hx hb dX10_number_110 (by decide) ?_
                refine tw_gov hS (md_runU (As := [.int pa, .int 1]) (rest := []) hx hb hml hown hW hK hT hS.1 (t_X10_fail l D cy tx base Z K N M2 R3 J4 hS.2.1 a0 hz_a0 hk_a0 pa h_pa 1 (iv_mono (iv_c (c := 1) (n := 1) (by decide)) (by decide) (by decide))) s_X10_50_X8 ⟨rfl, rfl, ⟨Nat.le_of_ble_eq_true rfl, Nat.le_of_ble_eq_true rfl⟩, ⟨Nat.le_of_ble_eq_true rfl, Nat.le_of_ble_eq_true rfl⟩⟩ hz_a0 hk_a0 (by decide) rfl rfl hl.1 rfl (Nat.le_of_ble_eq_true rfl) dX10_number_111) rfl rfl (fun H locs M64 R65 J63 hS f61 g62 E66 => ?_)
                have eR65 := Fr.nil g62 rfl
                subst eR65
                have p67 := E66
                clear E66
                obtain ⟨x69, k70, h68, q71⟩ := p67
                have k70 : M64 a0 3 = x69 := k70
                refine lv_iload hx hb dX10_number_114 (lv_at hl 0 rfl) ?_
                have k72 : M64 a0 2 = x7 := (Fr.kp (k := 2) f61 hk_a0 rfl).trans k8
                have q73 : (pa.toInt ≤ x7.toInt ∧ (x7.toInt ≤ ln.toInt ∨ x7.toInt = pa.toInt)) ∧ (¬ x69.toInt = 0 ∨ fa.toInt = 0) := by
                  have := (h_a1).1; have := (h_a1).2; have := (h_a2).1; have := (h_a2).2; have := (h_fa).1; have := (h_fa).2; have := (h_ln).1; have := (h_ln).2; have := (h_pa).1; have := (h_pa).2; have := (h36).1; have := (h36).2; have := (h68).1; have := (h68).2; have := (h_x7).1; have := (h_x7).2; have := (h_x9).1; have := (h_x9).2; omega
                exact tw_endi hx hb hr hlocks hK hT hS hQ (⟨(iv_mono h60 (by decide) (by decide)), ⟨x7, x69, k72, k70, h_x7, h68, q73⟩⟩) dX10_number_116
        · have q74 : x7.toInt = pa.toInt := ti_eq c14
          refine lv_aload_n hx hb dX10_number_77 rfl (lv_at hl 2 rfl) ?_
          refine lv_iload_n hx hb dX10_number_78 rfl (lv_at hl 1 rfl) ?_
          refine lv_iconst (v := 0) hx hb dX10_number_79 (by decide) ?_
          refine tw_gov hS (md_runU (As := [.int pa, .int 0]) (rest := []) hx hb hml hown hW hK hT hS.1 (t_X10_fail l D cy tx base Z K N M2 R3 J4 hS.2.1 a0 hz_a0 hk_a0 pa h_pa 0 (iv_mono (iv_c (c := 0) (n := 0) (by decide)) (by decide) (by decide))) s_X10_50_X8 ⟨rfl, rfl, ⟨Nat.le_of_ble_eq_true rfl, Nat.le_of_ble_eq_true rfl⟩, ⟨Nat.le_of_ble_eq_true rfl, Nat.le_of_ble_eq_true rfl⟩⟩ hz_a0 hk_a0 (by decide) rfl rfl hl.1 rfl (Nat.le_of_ble_eq_true rfl) dX10_number_80) rfl rfl (fun H locs M78 R79 J77 hS f75 g76 E80 => ?_)
          have eR79 := Fr.nil g76 rfl
          subst eR79
          have p81 := E80
          clear E80
          obtain ⟨x83, k84, h82, q85⟩ := p81
          have k84 : M78 a0 3 = x83 := k84
          refine lv_goto (tgt := 114) hx hb dX10_number_83 (by decide) ?_
          refine lv_iload hx hb dX10_number_114 (lv_at hl 0 rfl) ?_
          have k86 : M78 a0 2 = x7 := (Fr.kp (k := 2) f75 hk_a0 rfl).trans k8
          have q87 : (pa.toInt ≤ x7.toInt ∧ (x7.toInt ≤ ln.toInt ∨ x7.toInt = pa.toInt)) ∧ (¬ x83.toInt = 0 ∨ fa.toInt = 0) := by
            have := (h_a1).1; have := (h_a1).2; have := (h_a2).1; have := (h_a2).2; have := (h_fa).1; have := (h_fa).2; have := (h_ln).1; have := (h_ln).2; have := (h_pa).1; have := (h_pa).2; have := (h_x7).1; have := (h_x7).2; have := (h82).1; have := (h82).2; have := (h_x9).1; have := (h_x9).2; omega
          exact tw_endi hx hb hr hlocks hK hT hS hQ (⟨h_x1, ⟨x7, x83, k86, k84, h_x7, h82, q87⟩⟩) dX10_number_116
      · have q88 : x7.toInt < ln.toInt := ti_nle c12
        have h89 : iv 0 399 x7 := iv_ltL (y := ln) h_x7 h_ln q88 (by decide)
        have h90 : iv 1 400 ln := iv_gtL (y := x7) h_ln h_x7 q88 (by decide)
        refine lv_aload_n hx hb dX10_number_19 rfl (lv_at hl 2 rfl) ?_
        have k91 : R3 a0 0 = some tb := (Fr.kp (k := 0) g6 hk_a0 rfl).trans k_tb
        have k92 : M2 a0 1 = ln := (Fr.kp (k := 1) f5 hk_a0 rfl).trans k_ln
        refine tw_goi hS (md_runU (As := []) (rest := []) hx hb hml hown hW hK hT hS.1 (t_X10_isDigitHere l D cy tx base Z K N M2 R3 J4 hS.2.1 a0 hz_a0 hk_a0 tb k91 ln k92 (iv_mono h90 (by decide) (by decide)) x7 k8 (iv_mono h89 (by decide) (by decide))) s_X10_46_X8 ⟨rfl, rfl, ⟨Nat.le_of_ble_eq_true rfl, Nat.le_of_ble_eq_true rfl⟩, ⟨Nat.le_of_ble_eq_true rfl, Nat.le_of_ble_eq_true rfl⟩⟩ hz_a0 hk_a0 (by decide) rfl rfl hl.1 rfl (Nat.le_of_ble_eq_true rfl) dX10_number_20) rfl rfl (fun x99 H locs M96 R97 J95 hS f93 g94 E98 => ?_)
        have eM96 := Fr.nil f93 rfl
        subst eM96
        have eR97 := Fr.nil g94 rfl
        subst eR97
        obtain ⟨h_x99, p100⟩ := E98
        refine lv_if_eq (tgt := 69) hx hb dX10_number_23 (by decide) (fun c101 => ?_) (fun c101 => ?_)
        · have q102 : x99.toInt = 0 := ti_eq c101
          have h103 : iv 0 0 x99 := ⟨by have := (h_x99).1; have := ((iv_c (c := 0) (n := 0) (by decide))).1; omega, by have := (h_x99).2; have := ((iv_c (c := 0) (n := 0) (by decide))).2; omega⟩
          refine lv_aload_n hx hb dX10_number_69 rfl (lv_at hl 2 rfl) ?_
          refine tw_getk hx hb hW hown hK hS f_X10_25_8 hz_a0 hk_a0 (v := x7) k8 dX10_number_70 ?_
          refine lv_iload_n hx hb dX10_number_73 rfl (lv_at hl 1 rfl) ?_
          refine lv_icmp_ne (tgt := 86) hx hb dX10_number_74 (by decide) (fun c104 => ?_) (fun c104 => ?_)
          · have q105 : ¬ x7.toInt = pa.toInt := ti_ne c104
            refine lv_aload_n hx hb dX10_number_86 rfl (lv_at hl 2 rfl) ?_
            refine tw_getk hx hb hW hown hK hS f_X10_25_8 hz_a0 hk_a0 (v := x7) k8 dX10_number_87 ?_
            refine lv_iload_n hx hb dX10_number_90 rfl (lv_at hl 1 rfl) ?_
            refine tw_isub (lo := (-1000)) (hi := 399) hx hb h89 h_pa ⟨by decide, by decide⟩ ⟨by decide, by decide⟩ dX10_number_91 (fun x108 e107 h106 => ?_)
            refine lv_iconst (v := 5) hx hb dX10_number_92 (by decide) ?_
            refine lv_icmp_gt (tgt := 108) hx hb dX10_number_93 (by decide) (fun c109 => ?_) (fun c109 => ?_)
            · have q110 : 5 < x108.toInt := ti_lt c109
              have h111 : iv 6 399 x108 := iv_gtL (y := 5) h106 (iv_c (c := 5) (n := 5) (by decide)) q110 (by decide)
              refine lv_aload_n hx hb dX10_number_108 rfl (lv_at hl 2 rfl) ?_
              refine lv_iload_n hx hb dX10_number_109 rfl (lv_at hl 1 rfl) ?_
              refine lv_iconst (v := 1) hx hb dX10_number_110 (by decide) ?_
              refine tw_gov hS (md_runU (As := [.int pa, .int 1]) (rest := []) hx hb hml hown hW hK hT hS.1 (t_X10_fail l D cy tx base Z K N M2 R3 J95 hS.2.1 a0 hz_a0 hk_a0 pa h_pa 1 (iv_mono (iv_c (c := 1) (n := 1) (by decide)) (by decide) (by decide))) s_X10_50_X8 ⟨rfl, rfl, ⟨Nat.le_of_ble_eq_true rfl, Nat.le_of_ble_eq_true rfl⟩, ⟨Nat.le_of_ble_eq_true rfl, Nat.le_of_ble_eq_true rfl⟩⟩ hz_a0 hk_a0 (by decide) rfl rfl hl.1 rfl (Nat.le_of_ble_eq_true rfl) dX10_number_111) rfl rfl (fun H locs M115 R116 J114 hS f112 g113 E117 => ?_)
              have eR116 := Fr.nil g113 rfl
              subst eR116
              have p118 := E117
              clear E117
              obtain ⟨x120, k121, h119, q122⟩ := p118
              have k121 : M115 a0 3 = x120 := k121
              refine lv_iload hx hb dX10_number_114 (lv_at hl 0 rfl) ?_
              have k123 : M115 a0 2 = x7 := (Fr.kp (k := 2) f112 hk_a0 rfl).trans k8
              have q124 : (pa.toInt ≤ x7.toInt ∧ (x7.toInt ≤ ln.toInt ∨ x7.toInt = pa.toInt)) ∧ (¬ x120.toInt = 0 ∨ fa.toInt = 0) := by
                have := (h_a1).1; have := (h_a1).2; have := (h_a2).1; have := (h_a2).2; have := (h_fa).1; have := (h_fa).2; have := (h90).1; have := (h90).2; have := (h_pa).1; have := (h_pa).2; have := (h111).1; have := (h111).2; have := (h119).1; have := (h119).2; have := (h89).1; have := (h89).2; have := (h_x9).1; have := (h_x9).2; omega
              exact tw_endi hx hb hr hlocks hK hT hS hQ (⟨h_x1, ⟨x7, x120, k123, k121, (iv_mono h89 (by decide) (by decide)), h119, q124⟩⟩) dX10_number_116
            · have q125 : x108.toInt ≤ 5 := ti_nlt c109
              have h126 : iv (-1000) 5 x108 := iv_leL (y := 5) h106 (iv_c (c := 5) (n := 5) (by decide)) q125 (by decide)
              refine lv_iload hx hb dX10_number_96 (lv_at hl 0 rfl) ?_
              refine lv_iload_n hx hb dX10_number_98 rfl (lv_at hl 3 rfl) ?_
              refine lv_icmp_lt (tgt := 108) hx hb dX10_number_99 (by decide) (fun c127 => ?_) (fun c127 => ?_)
              · have q128 : x1.toInt < a1.toInt := ti_lt c127
                have h129 : iv (-2147483648) (-1) x1 := iv_ltL (y := a1) h_x1 h_a1 q128 (by decide)
                refine lv_aload_n hx hb dX10_number_108 rfl (lv_at hl 2 rfl) ?_
                refine lv_iload_n hx hb dX10_number_109 rfl (lv_at hl 1 rfl) ?_
                refine lv_iconst (v := 1) hx hb dX10_number_110 (by decide) ?_
                refine tw_gov hS (md_runU (As := [.int pa, .int 1]) (rest := []) hx hb hml hown hW hK hT hS.1 (t_X10_fail l D cy tx base Z K N M2 R3 J95 hS.2.1 a0 hz_a0 hk_a0 pa h_pa 1 (iv_mono (iv_c (c := 1) (n := 1) (by decide)) (by decide) (by decide))) s_X10_50_X8 ⟨rfl, rfl, ⟨Nat.le_of_ble_eq_true rfl, Nat.le_of_ble_eq_true rfl⟩, ⟨Nat.le_of_ble_eq_true rfl, Nat.le_of_ble_eq_true rfl⟩⟩ hz_a0 hk_a0 (by decide) rfl rfl hl.1 rfl (Nat.le_of_ble_eq_true rfl) dX10_number_111) rfl rfl (fun H locs M133 R134 J132 hS f130 g131 E135 => ?_)
                have eR134 := Fr.nil g131 rfl
                subst eR134
                have p136 := E135
                clear E135
                obtain ⟨x138, k139, h137, q140⟩ := p136
                have k139 : M133 a0 3 = x138 := k139
                refine lv_iload hx hb dX10_number_114 (lv_at hl 0 rfl) ?_
                have k141 : M133 a0 2 = x7 := (Fr.kp (k := 2) f130 hk_a0 rfl).trans k8
                have q142 : (pa.toInt ≤ x7.toInt ∧ (x7.toInt ≤ ln.toInt ∨ x7.toInt = pa.toInt)) ∧ (¬ x138.toInt = 0 ∨ fa.toInt = 0) := by
                  have := (h_a1).1; have := (h_a1).2; have := (h_a2).1; have := (h_a2).2; have := (h_fa).1; have := (h_fa).2; have := (h90).1; have := (h90).2; have := (h_pa).1; have := (h_pa).2; have := (h126).1; have := (h126).2; have := (h137).1; have := (h137).2; have := (h89).1; have := (h89).2; have := (h_x9).1; have := (h_x9).2; omega
                exact tw_endi hx hb hr hlocks hK hT hS hQ (⟨(iv_mono h129 (by decide) (by decide)), ⟨x7, x138, k141, k139, (iv_mono h89 (by decide) (by decide)), h137, q142⟩⟩) dX10_number_116
              · have q143 : a1.toInt ≤ x1.toInt := ti_nlt c127
                have h144 : iv 0 2147483647 x1 := iv_geL (y := a1) h_x1 h_a1 q143 (by decide)
                refine lv_iload hx hb dX10_number_102 (lv_at hl 0 rfl) ?_
                refine lv_iload_n hx hb dX10_number_104 rfl (lv_at hl 4 rfl) ?_
                refine lv_icmp_le (tgt := 114) hx hb dX10_number_105 (by decide) (fun c145 => ?_) (fun c145 => ?_)
                · have q146 : x1.toInt ≤ a2.toInt := ti_le c145
                  have h147 : iv 0 99999 x1 := iv_leL (y := a2) h144 h_a2 q146 (by decide)
                  refine lv_iload hx hb dX10_number_114 (lv_at hl 0 rfl) ?_
                  have q148 : (pa.toInt ≤ x7.toInt ∧ (x7.toInt ≤ ln.toInt ∨ x7.toInt = pa.toInt)) ∧ (¬ x9.toInt = 0 ∨ fa.toInt = 0) := by
                    have := (h_a1).1; have := (h_a1).2; have := (h_a2).1; have := (h_a2).2; have := (h_fa).1; have := (h_fa).2; have := (h90).1; have := (h90).2; have := (h_pa).1; have := (h_pa).2; have := (h126).1; have := (h126).2; have := (h89).1; have := (h89).2; have := (h_x9).1; have := (h_x9).2; omega
                  exact tw_endi hx hb hr hlocks hK hT hS hQ (⟨(iv_mono h147 (by decide) (by decide)), ⟨x7, x9, k8, k10, (iv_mono h89 (by decide) (by decide)), h_x9, q148⟩⟩) dX10_number_116
                · have q149 : a2.toInt < x1.toInt := ti_nle c145
                  have h150 : iv 100000 2147483647 x1 := iv_gtL (y := a2) h144 h_a2 q149 (by decide)
                  refine lv_aload_n hx hb dX10_number_108 rfl (lv_at hl 2 rfl) ?_
                  refine lv_iload_n hx hb dX10_number_109 rfl (lv_at hl 1 rfl) ?_
                  refine lv_iconst (v := 1) hx hb dX10_number_110 (by decide) ?_
                  refine tw_gov hS (md_runU (As := [.int pa, .int 1]) (rest := []) hx hb hml hown hW hK hT hS.1 (t_X10_fail l D cy tx base Z K N M2 R3 J95 hS.2.1 a0 hz_a0 hk_a0 pa h_pa 1 (iv_mono (iv_c (c := 1) (n := 1) (by decide)) (by decide) (by decide))) s_X10_50_X8 ⟨rfl, rfl, ⟨Nat.le_of_ble_eq_true rfl, Nat.le_of_ble_eq_true rfl⟩, ⟨Nat.le_of_ble_eq_true rfl, Nat.le_of_ble_eq_true rfl⟩⟩ hz_a0 hk_a0 (by decide) rfl rfl hl.1 rfl (Nat.le_of_ble_eq_true rfl) dX10_number_111) rfl rfl (fun H locs M154 R155 J153 hS f151 g152 E156 => ?_)
                  have eR155 := Fr.nil g152 rfl
                  subst eR155
                  have p157 := E156
                  clear E156
                  obtain ⟨x159, k160, h158, q161⟩ := p157
                  have k160 : M154 a0 3 = x159 := k160
                  refine lv_iload hx hb dX10_number_114 (lv_at hl 0 rfl) ?_
                  have k162 : M154 a0 2 = x7 := (Fr.kp (k := 2) f151 hk_a0 rfl).trans k8
                  have q163 : (pa.toInt ≤ x7.toInt ∧ (x7.toInt ≤ ln.toInt ∨ x7.toInt = pa.toInt)) ∧ (¬ x159.toInt = 0 ∨ fa.toInt = 0) := by
                    have := (h_a1).1; have := (h_a1).2; have := (h_a2).1; have := (h_a2).2; have := (h_fa).1; have := (h_fa).2; have := (h90).1; have := (h90).2; have := (h_pa).1; have := (h_pa).2; have := (h126).1; have := (h126).2; have := (h158).1; have := (h158).2; have := (h89).1; have := (h89).2; have := (h_x9).1; have := (h_x9).2; omega
                  exact tw_endi hx hb hr hlocks hK hT hS hQ (⟨(iv_mono h150 (by decide) (by decide)), ⟨x7, x159, k162, k160, (iv_mono h89 (by decide) (by decide)), h158, q163⟩⟩) dX10_number_116
          · have q164 : x7.toInt = pa.toInt := ti_eq c104
            have h165 : iv 0 399 pa := ⟨by have := (h89).1; have := (h_pa).1; omega, by have := (h89).2; have := (h_pa).2; omega⟩
            refine lv_aload_n hx hb dX10_number_77 rfl (lv_at hl 2 rfl) ?_
            refine lv_iload_n hx hb dX10_number_78 rfl (lv_at hl 1 rfl) ?_
            refine lv_iconst (v := 0) hx hb dX10_number_79 (by decide) ?_
            refine tw_gov hS (md_runU (As := [.int pa, .int 0]) (rest := []) hx hb hml hown hW hK hT hS.1 (t_X10_fail l D cy tx base Z K N M2 R3 J95 hS.2.1 a0 hz_a0 hk_a0 pa (iv_mono h165 (by decide) (by decide)) 0 (iv_mono (iv_c (c := 0) (n := 0) (by decide)) (by decide) (by decide))) s_X10_50_X8 ⟨rfl, rfl, ⟨Nat.le_of_ble_eq_true rfl, Nat.le_of_ble_eq_true rfl⟩, ⟨Nat.le_of_ble_eq_true rfl, Nat.le_of_ble_eq_true rfl⟩⟩ hz_a0 hk_a0 (by decide) rfl rfl hl.1 rfl (Nat.le_of_ble_eq_true rfl) dX10_number_80) rfl rfl (fun H locs M169 R170 J168 hS f166 g167 E171 => ?_)
            have eR170 := Fr.nil g167 rfl
            subst eR170
            have p172 := E171
            clear E171
            obtain ⟨x174, k175, h173, q176⟩ := p172
            have k175 : M169 a0 3 = x174 := k175
            refine lv_goto (tgt := 114) hx hb dX10_number_83 (by decide) ?_
            refine lv_iload hx hb dX10_number_114 (lv_at hl 0 rfl) ?_
            have k177 : M169 a0 2 = x7 := (Fr.kp (k := 2) f166 hk_a0 rfl).trans k8
            have q178 : (pa.toInt ≤ x7.toInt ∧ (x7.toInt ≤ ln.toInt ∨ x7.toInt = pa.toInt)) ∧ (¬ x174.toInt = 0 ∨ fa.toInt = 0) := by
              have := (h_a1).1; have := (h_a1).2; have := (h_a2).1; have := (h_a2).2; have := (h_fa).1; have := (h_fa).2; have := (h90).1; have := (h90).2; have := (h165).1; have := (h165).2; have := (h173).1; have := (h173).2; have := (h89).1; have := (h89).2; have := (h_x9).1; have := (h_x9).2; omega
            exact tw_endi hx hb hr hlocks hK hT hS hQ (⟨h_x1, ⟨x7, x174, k177, k175, (iv_mono h89 (by decide) (by decide)), h173, q178⟩⟩) dX10_number_116
        · have q179 : ¬ x99.toInt = 0 := ti_ne c101
          have h180 : iv 1 1 x99 := ⟨by have := (h_x99).1; have := ((iv_c (c := 0) (n := 0) (by decide))).1; have := ((iv_c (c := 0) (n := 0) (by decide))).2; omega, by have := (h_x99).2; have := ((iv_c (c := 0) (n := 0) (by decide))).1; have := ((iv_c (c := 0) (n := 0) (by decide))).2; omega⟩
          have q181 := p100 c101
          refine lv_aload_n hx hb dX10_number_26 rfl (lv_at hl 2 rfl) ?_
          refine tw_getk hx hb hW hown hK hS f_X10_25_8 hz_a0 hk_a0 (v := x7) k8 dX10_number_27 ?_
          refine lv_iload_n hx hb dX10_number_30 rfl (lv_at hl 1 rfl) ?_
          refine tw_isub (lo := (-1000)) (hi := 399) hx hb h89 h_pa ⟨by decide, by decide⟩ ⟨by decide, by decide⟩ dX10_number_31 (fun x184 e183 h182 => ?_)
          refine lv_iconst (v := 5) hx hb dX10_number_32 (by decide) ?_
          refine lv_icmp_ge (tgt := 56) hx hb dX10_number_33 (by decide) (fun c185 => ?_) (fun c185 => ?_)
          · have q186 : 5 ≤ x184.toInt := ti_le c185
            have h187 : iv 5 399 x184 := iv_geL (y := 5) h182 (iv_c (c := 5) (n := 5) (by decide)) q186 (by decide)
            refine lv_aload_n hx hb dX10_number_56 rfl (lv_at hl 2 rfl) ?_
            refine lv_dup hx hb dX10_number_57 rfl ?_
            refine tw_getk hx hb hW hown hK hS f_X10_25_8 hz_a0 hk_a0 (v := x7) k8 dX10_number_58 ?_
            refine lv_iconst (v := 1) hx hb dX10_number_61 (by decide) ?_
            refine tw_iadd (lo := 1) (hi := 400) hx hb h89 (iv_c (c := 1) (n := 1) (by decide)) ⟨by decide, by decide⟩ ⟨by decide, by decide⟩ dX10_number_62 (fun x190 e189 h188 => ?_)
            have e189 : x190.toInt = x7.toInt + 1 := e189
            refine tw_puti hx hb hW hown hK hS f_X10_25_8 hz_a0 hk_a0 rfl rfl (lo := 0) (hi := 1000) rfl (iv_mono h188 (by decide) (by decide)) rfl dX10_number_63 (fun H locs M193 hS k191 f192 => ?_)
            refine lv_goto (tgt := 8) hx hb dX10_number_66 (by decide) ?_
            have k194 : M193 a0 3 = x9 := (Fr.kp (k := 3) f192 hk_a0 rfl).trans k10
            have w195 : pa.toInt ≤ x190.toInt ∧ (x190.toInt ≤ ln.toInt ∨ x190.toInt = pa.toInt) := by
              have := (h_a1).1; have := (h_a1).2; have := (h_a2).1; have := (h_a2).2; have := (h_fa).1; have := (h_fa).2; have := (h90).1; have := (h90).2; have := (h_pa).1; have := (h_pa).2; have := (h187).1; have := (h187).2; have := (h188).1; have := (h188).2; have := (h89).1; have := (h89).2; omega
            have w196 : x9.toInt = fa.toInt := by
              have := (h_a1).1; have := (h_a1).2; have := (h_a2).1; have := (h_a2).2; have := (h_fa).1; have := (h_fa).2; have := (h90).1; have := (h90).2; have := (h_pa).1; have := (h_pa).2; have := (h_x9).1; have := (h_x9).2; omega
            have hm197 : 1000 - x190.toInt < (n_2 : Int) := by
              have := (h_a1).1; have := (h_a1).2; have := (h_a2).1; have := (h_a2).2; have := (h_fa).1; have := (h_fa).2; have := (h90).1; have := (h90).2; have := (h_pa).1; have := (h_pa).2; have := (h187).1; have := (h187).2; have := (h188).1; have := (h188).2; have := (h89).1; have := (h89).2; omega
            exact ih_2 x1 x190 x9 M193 R3 J95 H locs _ h_x1 (iv_mono h188 (by decide) (by decide)) k191 h_x9 k194 w195 w196 hm197 hS hl
          · have q198 : x184.toInt < 5 := ti_nle c185
            have h199 : iv (-1000) 4 x184 := iv_ltL (y := 5) h182 (iv_c (c := 5) (n := 5) (by decide)) q198 (by decide)
            refine lv_iload hx hb dX10_number_36 (lv_at hl 0 rfl) ?_
            refine lv_bipush (v := 10) hx hb dX10_number_38 (by decide) ?_
            refine lv_imul hx hb dX10_number_40 ?_
            refine tw_top (fun x201 => ?_)
            have h200 := iv_any x201
            refine lv_aload_n hx hb dX10_number_41 rfl (lv_at hl 2 rfl) ?_
            have k202 : R3 a0 0 = some tb := (Fr.kp (k := 0) g6 hk_a0 rfl).trans k_tb
            refine tw_getrk hx hb hW hown hK hS f_X10_9_8 hz_a0 hk_a0 (b := tb) k202 dX10_number_42 ?_
            refine lv_aload_n hx hb dX10_number_45 rfl (lv_at hl 2 rfl) ?_
            refine tw_getk hx hb hW hown hK hS f_X10_25_8 hz_a0 hk_a0 (v := x7) k8 dX10_number_46 ?_
            refine tw_bald hx hb hK hS hz_tb hk_tb hn_tb h89 ⟨by decide, by decide⟩ dX10_number_49 (fun x205 k204 => ?_)
            have h203 := iv_any x205
            refine lv_iadd hx hb dX10_number_50 ?_
            refine tw_top (fun x207 => ?_)
            have h206 := iv_any x207
            refine lv_bipush (v := 48) hx hb dX10_number_51 (by decide) ?_
            refine lv_isub hx hb dX10_number_53 ?_
            refine tw_top (fun x209 => ?_)
            have h208 := iv_any x209
            refine lv_istore (lv' := [(4, .int x209), (3, .int pa), (0, .ref (base + a0)), (1, .int a1), (2, .int a2)]) hx hb dX10_number_54 hl (by decide) rfl (fun ls hl => ?_)
            refine lv_aload_n hx hb dX10_number_56 rfl (lv_at hl 2 rfl) ?_
            refine lv_dup hx hb dX10_number_57 rfl ?_
            refine tw_getk hx hb hW hown hK hS f_X10_25_8 hz_a0 hk_a0 (v := x7) k8 dX10_number_58 ?_
            refine lv_iconst (v := 1) hx hb dX10_number_61 (by decide) ?_
            refine tw_iadd (lo := 1) (hi := 400) hx hb h89 (iv_c (c := 1) (n := 1) (by decide)) ⟨by decide, by decide⟩ ⟨by decide, by decide⟩ dX10_number_62 (fun x212 e211 h210 => ?_)
            have e211 : x212.toInt = x7.toInt + 1 := e211
            refine tw_puti hx hb hW hown hK hS f_X10_25_8 hz_a0 hk_a0 rfl rfl (lo := 0) (hi := 1000) rfl (iv_mono h210 (by decide) (by decide)) rfl dX10_number_63 (fun H locs M215 hS k213 f214 => ?_)
            refine lv_goto (tgt := 8) hx hb dX10_number_66 (by decide) ?_
            have k216 : M215 a0 3 = x9 := (Fr.kp (k := 3) f214 hk_a0 rfl).trans k10
            have w217 : pa.toInt ≤ x212.toInt ∧ (x212.toInt ≤ ln.toInt ∨ x212.toInt = pa.toInt) := by
              have := (h_a1).1; have := (h_a1).2; have := (h_a2).1; have := (h_a2).2; have := (h_fa).1; have := (h_fa).2; have := (h90).1; have := (h90).2; have := (h_pa).1; have := (h_pa).2; have := (h199).1; have := (h199).2; have := (h210).1; have := (h210).2; have := (h89).1; have := (h89).2; omega
            have w218 : x9.toInt = fa.toInt := by
              have := (h_a1).1; have := (h_a1).2; have := (h_a2).1; have := (h_a2).2; have := (h_fa).1; have := (h_fa).2; have := (h90).1; have := (h90).2; have := (h_pa).1; have := (h_pa).2; have := (h_x9).1; have := (h_x9).2; omega
            have hm219 : 1000 - x212.toInt < (n_2 : Int) := by
              have := (h_a1).1; have := (h_a1).2; have := (h_a2).1; have := (h_a2).2; have := (h_fa).1; have := (h_fa).2; have := (h90).1; have := (h90).2; have := (h_pa).1; have := (h_pa).2; have := (h199).1; have := (h199).2; have := (h210).1; have := (h210).2; have := (h89).1; have := (h89).2; omega
            exact ih_2 x209 x212 x9 M215 R3 J95 H locs _ h208 (iv_mono h210 (by decide) (by decide)) k213 h_x9 k216 w217 w218 hm219 hS hl
  have w220 : pa.toInt ≤ pa.toInt ∧ (pa.toInt ≤ ln.toInt ∨ pa.toInt = pa.toInt) := by
    have := (h_a1).1; have := (h_a1).2; have := (h_a2).1; have := (h_a2).2; have := (h_fa).1; have := (h_fa).2; have := (h_ln).1; have := (h_ln).2; have := (h_pa).1; have := (h_pa).2; omega
  have w221 : fa.toInt = fa.toInt := by
    have := (h_a1).1; have := (h_a1).2; have := (h_a2).1; have := (h_a2).2; have := (h_fa).1; have := (h_fa).2; have := (h_ln).1; have := (h_ln).2; have := (h_pa).1; have := (h_pa).2; omega
  have hm222 : 1000 - pa.toInt < (((1001 : Nat) : Int) : Int) := by
    have := (h_a1).1; have := (h_a1).2; have := (h_a2).1; have := (h_a2).2; have := (h_fa).1; have := (h_fa).2; have := (h_ln).1; have := (h_ln).2; have := (h_pa).1; have := (h_pa).2; omega
  exact W8_2 1001 0 pa fa Ma Ra Ja s.heap [] _ (iv_mono (iv_c (c := 0) (n := 0) (by decide)) (by decide) (by decide)) h_pa k_pa h_fa k_fa w220 w221 hm222 hS hl
def Lt_X10_number_1 : WL := [(3, 2, 4)]
def LRt_X10_number_1 : WL := []
set_option maxRecDepth 100000 in
set_option maxHeartbeats 4000000 in
theorem t_X10_number_1 (l : Launch) (D : va_G) (cy : Nat → ClassId) (tx : (Nat → Nat) × (Nat → Nat)) (base Z : Nat) (K N : Nat → Nat) (Ma : MT) (Ra : RT) (Ja : JT) (hTy : Ty Z K N Ma Ra) (a0 : Nat) (hz_a0 : a0 < Z) (hk_a0 : K a0 = 3) (a1 : Int32) (h_a1 : iv 0 1 a1) (a2 : Int32) (h_a2 : iv (-2147483648) 2147483647 a2) (tb : Nat) (k_tb : Ra a0 0 = some tb) (ln : Int32) (k_ln : Ma a0 1 = ln) (h_ln : iv 0 400 ln) (pa : Int32) (k_pa : Ma a0 2 = pa) (h_pa : iv 0 1000 pa) (fa : Int32) (k_fa : Ma a0 3 = fa) (h_fa : iv (-2147483648) 2147483647 fa) : Met l yX10_number [Cond.code yX10_number cX10_number 5 (some .int)] (md_rm 2 0 0) (va_Pc [.ref (base + a0), .int a1, .int a2] (md_U D cy tx base Z K N Ma Ra Ja)) (mQi D cy tx base (fun r u => TP Z K N Lt_X10_number_1 LRt_X10_number_1 Ma Ra u ∧ (iv (-2147483648) 2147483647 r ∧ (∃ x0 x1 : Int32, u.2.2.2.1 a0 2 = x0 ∧ u.2.2.2.1 a0 3 = x1 ∧ iv 0 1000 x0 ∧ iv (-2147483648) 2147483647 x1 ∧ ((pa.toInt ≤ x0.toInt ∧ (x0.toInt ≤ ln.toInt ∨ x0.toInt = pa.toInt)) ∧ (¬ x1.toInt = 0 ∨ fa.toInt = 0)))))) 0 0 (fun q => base ≤ q) := by
  refine tw_ofW (L := Lt_X10_number_1) (LR := LRt_X10_number_1) (by decide) (Nat.le_of_ble_eq_true rfl) hTy ?_
  intro p e s m args below meth c Q ls hx hb hr hlocks hown hml hW hK hT hS hQ hl
  have hl : lv_has ls 5 [(0, .ref (base + a0)), (1, .int a1), (2, .int a2)] := hl
  obtain ⟨hz_tb, hk_tb, hn_tb⟩ := hTy.refn hz_a0 hk_a0 (show rtR 3 0 = (13, 400, 1) from rfl) k_tb
  have hn_tb := hn_tb (by decide)
  refine lv_aload_n hx hb dX10_number_0 rfl (lv_at hl 0 rfl) ?_
  refine tw_getk hx hb hW hown hK hS f_X10_25_2 hz_a0 hk_a0 (v := pa) k_pa dX10_number_1 ?_
  refine lv_istore_n (lv' := [(3, .int pa), (0, .ref (base + a0)), (1, .int a1), (2, .int a2)]) hx hb dX10_number_4 rfl hl (by decide) rfl (fun ls hl => ?_)
  refine lv_iconst (v := 0) hx hb dX10_number_5 (by decide) ?_
  refine lv_istore (lv' := [(4, .int 0), (3, .int pa), (0, .ref (base + a0)), (1, .int a1), (2, .int a2)]) hx hb dX10_number_6 hl (by decide) rfl (fun ls hl => ?_)
  have W8_2 : ∀ (n_2 : Nat) (x1 : Int32) (x7 : Int32) (x9 : Int32) (M2 : MT) (R3 : RT) (J4 : JT) (H : Heap) (locs : List Loc) (ls : Array Slot) (h_x1 : iv (-2147483648) 2147483647 x1) (h_x7 : iv 0 1000 x7) (k8 : M2 a0 2 = x7) (h_x9 : iv (-2147483648) 2147483647 x9) (k10 : M2 a0 3 = x9) (w0_2 : pa.toInt ≤ x7.toInt ∧ (x7.toInt ≤ ln.toInt ∨ x7.toInt = pa.toInt)) (w1_2 : x9.toInt = fa.toInt) (hm_2 : 1000 - x7.toInt < (n_2 : Int)) (hS : SB D cy base Z K N Lt_X10_number_1 LRt_X10_number_1 Ma Ra M2 R3 J4 s H locs) (hl : lv_has ls 5 [(4, .int x1), (3, .int pa), (0, .ref (base + a0)), (1, .int a1), (2, .int a2)]), W p l e (md_rm 2 0 0) s m args below meth c H locs 0 0 Q (F0 m 8 ls []) := by
    intro n_2
    induction n_2 with
    | zero =>
      intro x1 x7 x9 M2 R3 J4 H locs ls h_x1 h_x7 k8 h_x9 k10 w0_2 w1_2 hm_2 hS hl
      exfalso
      have := (h_a1).1; have := (h_a1).2; have := (h_a2).1; have := (h_a2).2; have := (h_fa).1; have := (h_fa).2; have := (h_ln).1; have := (h_ln).2; have := (h_pa).1; have := (h_pa).2; have := (h_x7).1; have := (h_x7).2; omega
    | succ n_2 ih_2 =>
      intro x1 x7 x9 M2 R3 J4 H locs ls h_x1 h_x7 k8 h_x9 k10 w0_2 w1_2 hm_2 hS hl
      have f5 := hS.2.2.1
      have g6 := hS.2.2.2
      refine lv_aload_n hx hb dX10_number_8 rfl (lv_at hl 2 rfl) ?_
      refine tw_getk hx hb hW hown hK hS f_X10_25_2 hz_a0 hk_a0 (v := x7) k8 dX10_number_9 ?_
      refine lv_aload_n hx hb dX10_number_12 rfl (lv_at hl 2 rfl) ?_
      have k11 : M2 a0 1 = ln := (Fr.kp (k := 1) f5 hk_a0 rfl).trans k_ln
      refine tw_getk hx hb hW hown hK hS f_X10_21_2 hz_a0 hk_a0 (v := ln) k11 dX10_number_13 ?_
      refine lv_icmp_ge (tgt := 69) hx hb dX10_number_16 (by decide) (fun c12 => ?_) (fun c12 => ?_)
      · have q13 : ln.toInt ≤ x7.toInt := ti_le c12
        refine lv_aload_n hx hb dX10_number_69 rfl (lv_at hl 2 rfl) ?_
        refine tw_getk hx hb hW hown hK hS f_X10_25_2 hz_a0 hk_a0 (v := x7) k8 dX10_number_70 ?_
        refine lv_iload_n hx hb dX10_number_73 rfl (lv_at hl 1 rfl) ?_
        refine lv_icmp_ne (tgt := 86) hx hb dX10_number_74 (by decide) (fun c14 => ?_) (fun c14 => ?_)
        · have q15 : ¬ x7.toInt = pa.toInt := ti_ne c14
          refine lv_aload_n hx hb dX10_number_86 rfl (lv_at hl 2 rfl) ?_
          refine tw_getk hx hb hW hown hK hS f_X10_25_2 hz_a0 hk_a0 (v := x7) k8 dX10_number_87 ?_
          refine lv_iload_n hx hb dX10_number_90 rfl (lv_at hl 1 rfl) ?_
          refine tw_isub (lo := (-1000)) (hi := 1000) hx hb h_x7 h_pa ⟨by decide, by decide⟩ ⟨by decide, by decide⟩ dX10_number_91 (fun x18 e17 h16 => ?_)
          refine lv_iconst (v := 5) hx hb dX10_number_92 (by decide) ?_
          refine lv_icmp_gt (tgt := 108) hx hb dX10_number_93 (by decide) (fun c19 => ?_) (fun c19 => ?_)
          · have q20 : 5 < x18.toInt := ti_lt c19
            have h21 : iv 6 1000 x18 := iv_gtL (y := 5) h16 (iv_c (c := 5) (n := 5) (by decide)) q20 (by decide)
            refine lv_aload_n hx hb dX10_number_108 rfl (lv_at hl 2 rfl) ?_
            refine lv_iload_n hx hb dX10_number_109 rfl (lv_at hl 1 rfl) ?_
            refine lv_iconst (v := 1) hx hb dX10_number_110 (by decide) ?_
            refine tw_gov hS (md_runU (As := [.int pa, .int 1]) (rest := []) hx hb hml hown hW hK hT hS.1 (t_X10_fail_1 l D cy tx base Z K N M2 R3 J4 hS.2.1 a0 hz_a0 hk_a0 pa h_pa 1 (iv_mono (iv_c (c := 1) (n := 1) (by decide)) (by decide) (by decide))) s_X10_50_X2 ⟨rfl, rfl, ⟨Nat.le_of_ble_eq_true rfl, Nat.le_of_ble_eq_true rfl⟩, ⟨Nat.le_of_ble_eq_true rfl, Nat.le_of_ble_eq_true rfl⟩⟩ hz_a0 hk_a0 (by decide) rfl rfl hl.1 rfl (Nat.le_of_ble_eq_true rfl) dX10_number_111) rfl rfl (fun H locs M25 R26 J24 hS f22 g23 E27 => ?_)
            have eR26 := Fr.nil g23 rfl
            subst eR26
            have p28 := E27
            clear E27
            obtain ⟨x30, k31, h29, q32⟩ := p28
            have k31 : M25 a0 3 = x30 := k31
            refine lv_iload hx hb dX10_number_114 (lv_at hl 0 rfl) ?_
            have k33 : M25 a0 2 = x7 := (Fr.kp (k := 2) f22 hk_a0 rfl).trans k8
            have q34 : (pa.toInt ≤ x7.toInt ∧ (x7.toInt ≤ ln.toInt ∨ x7.toInt = pa.toInt)) ∧ (¬ x30.toInt = 0 ∨ fa.toInt = 0) := by
              have := (h_a1).1; have := (h_a1).2; have := (h_a2).1; have := (h_a2).2; have := (h_fa).1; have := (h_fa).2; have := (h_ln).1; have := (h_ln).2; have := (h_pa).1; have := (h_pa).2; have := (h21).1; have := (h21).2; have := (h29).1; have := (h29).2; have := (h_x7).1; have := (h_x7).2; have := (h_x9).1; have := (h_x9).2; omega
            exact tw_endi hx hb hr hlocks hK hT hS hQ (⟨h_x1, ⟨x7, x30, k33, k31, h_x7, h29, q34⟩⟩) dX10_number_116
          · have q35 : x18.toInt ≤ 5 := ti_nlt c19
            have h36 : iv (-1000) 5 x18 := iv_leL (y := 5) h16 (iv_c (c := 5) (n := 5) (by decide)) q35 (by decide)
            refine lv_iload hx hb dX10_number_96 (lv_at hl 0 rfl) ?_
            refine lv_iload_n hx hb dX10_number_98 rfl (lv_at hl 3 rfl) ?_
            refine lv_icmp_lt (tgt := 108) hx hb dX10_number_99 (by decide) (fun c37 => ?_) (fun c37 => ?_)
            · have q38 : x1.toInt < a1.toInt := ti_lt c37
              have h39 : iv (-2147483648) 0 x1 := iv_ltL (y := a1) h_x1 h_a1 q38 (by decide)
              refine lv_aload_n hx hb dX10_number_108 rfl (lv_at hl 2 rfl) ?_
              refine lv_iload_n hx hb dX10_number_109 rfl (lv_at hl 1 rfl) ?_
              refine lv_iconst (v := 1) hx hb dX10_number_110 (by decide) ?_
              refine tw_gov hS (md_runU (As := [.int pa, .int 1]) (rest := []) hx hb hml hown hW hK hT hS.1 (t_X10_fail_1 l D cy tx base Z K N M2 R3 J4 hS.2.1 a0 hz_a0 hk_a0 pa h_pa 1 (iv_mono (iv_c (c := 1) (n := 1) (by decide)) (by decide) (by decide))) s_X10_50_X2 ⟨rfl, rfl, ⟨Nat.le_of_ble_eq_true rfl, Nat.le_of_ble_eq_true rfl⟩, ⟨Nat.le_of_ble_eq_true rfl, Nat.le_of_ble_eq_true rfl⟩⟩ hz_a0 hk_a0 (by decide) rfl rfl hl.1 rfl (Nat.le_of_ble_eq_true rfl) dX10_number_111) rfl rfl (fun H locs M43 R44 J42 hS f40 g41 E45 => ?_)
              have eR44 := Fr.nil g41 rfl
              subst eR44
              have p46 := E45
              clear E45
              obtain ⟨x48, k49, h47, q50⟩ := p46
              have k49 : M43 a0 3 = x48 := k49
              refine lv_iload hx hb dX10_number_114 (lv_at hl 0 rfl) ?_
              have k51 : M43 a0 2 = x7 := (Fr.kp (k := 2) f40 hk_a0 rfl).trans k8
              have q52 : (pa.toInt ≤ x7.toInt ∧ (x7.toInt ≤ ln.toInt ∨ x7.toInt = pa.toInt)) ∧ (¬ x48.toInt = 0 ∨ fa.toInt = 0) := by
                have := (h_a1).1; have := (h_a1).2; have := (h_a2).1; have := (h_a2).2; have := (h_fa).1; have := (h_fa).2; have := (h_ln).1; have := (h_ln).2; have := (h_pa).1; have := (h_pa).2; have := (h36).1; have := (h36).2; have := (h47).1; have := (h47).2; have := (h_x7).1; have := (h_x7).2; have := (h_x9).1; have := (h_x9).2; omega
              exact tw_endi hx hb hr hlocks hK hT hS hQ (⟨(iv_mono h39 (by decide) (by decide)), ⟨x7, x48, k51, k49, h_x7, h47, q52⟩⟩) dX10_number_116
            · have q53 : a1.toInt ≤ x1.toInt := ti_nlt c37
              have h54 : iv 0 2147483647 x1 := iv_geL (y := a1) h_x1 h_a1 q53 (by decide)
              refine lv_iload hx hb dX10_number_102 (lv_at hl 0 rfl) ?_
              refine lv_iload_n hx hb dX10_number_104 rfl (lv_at hl 4 rfl) ?_
              refine lv_icmp_le (tgt := 114) hx hb dX10_number_105 (by decide) (fun c55 => ?_) (fun c55 => ?_)
              · have q56 : x1.toInt ≤ a2.toInt := ti_le c55
                have h57 : iv 0 2147483647 a2 := iv_geL (y := x1) h_a2 h54 q56 (by decide)
                refine lv_iload hx hb dX10_number_114 (lv_at hl 0 rfl) ?_
                have q58 : (pa.toInt ≤ x7.toInt ∧ (x7.toInt ≤ ln.toInt ∨ x7.toInt = pa.toInt)) ∧ (¬ x9.toInt = 0 ∨ fa.toInt = 0) := by
                  have := (h_a1).1; have := (h_a1).2; have := (h57).1; have := (h57).2; have := (h_fa).1; have := (h_fa).2; have := (h_ln).1; have := (h_ln).2; have := (h_pa).1; have := (h_pa).2; have := (h36).1; have := (h36).2; have := (h_x7).1; have := (h_x7).2; have := (h_x9).1; have := (h_x9).2; omega
                exact tw_endi hx hb hr hlocks hK hT hS hQ (⟨(iv_mono h54 (by decide) (by decide)), ⟨x7, x9, k8, k10, h_x7, h_x9, q58⟩⟩) dX10_number_116
              · have q59 : a2.toInt < x1.toInt := ti_nle c55
                have h60 : iv (-2147483648) 2147483646 a2 := iv_ltL (y := x1) h_a2 h54 q59 (by decide)
                refine lv_aload_n hx hb dX10_number_108 rfl (lv_at hl 2 rfl) ?_
                refine lv_iload_n hx hb dX10_number_109 rfl (lv_at hl 1 rfl) ?_
                refine lv_iconst (v := 1) hx hb dX10_number_110 (by decide) ?_
                refine tw_gov hS (md_runU (As := [.int pa, .int 1]) (rest := []) hx hb hml hown hW hK hT hS.1 (t_X10_fail_1 l D cy tx base Z K N M2 R3 J4 hS.2.1 a0 hz_a0 hk_a0 pa h_pa 1 (iv_mono (iv_c (c := 1) (n := 1) (by decide)) (by decide) (by decide))) s_X10_50_X2 ⟨rfl, rfl, ⟨Nat.le_of_ble_eq_true rfl, Nat.le_of_ble_eq_true rfl⟩, ⟨Nat.le_of_ble_eq_true rfl, Nat.le_of_ble_eq_true rfl⟩⟩ hz_a0 hk_a0 (by decide) rfl rfl hl.1 rfl (Nat.le_of_ble_eq_true rfl) dX10_number_111) rfl rfl (fun H locs M64 R65 J63 hS f61 g62 E66 => ?_)
                have eR65 := Fr.nil g62 rfl
                subst eR65
                have p67 := E66
                clear E66
                obtain ⟨x69, k70, h68, q71⟩ := p67
                have k70 : M64 a0 3 = x69 := k70
                refine lv_iload hx hb dX10_number_114 (lv_at hl 0 rfl) ?_
                have k72 : M64 a0 2 = x7 := (Fr.kp (k := 2) f61 hk_a0 rfl).trans k8
                have q73 : (pa.toInt ≤ x7.toInt ∧ (x7.toInt ≤ ln.toInt ∨ x7.toInt = pa.toInt)) ∧ (¬ x69.toInt = 0 ∨ fa.toInt = 0) := by
                  have := (h_a1).1; have := (h_a1).2; have := (h60).1; have := (h60).2; have := (h_fa).1; have := (h_fa).2; have := (h_ln).1; have := (h_ln).2; have := (h_pa).1; have := (h_pa).2; have := (h36).1; have := (h36).2; have := (h68).1; have := (h68).2; have := (h_x7).1; have := (h_x7).2; have := (h_x9).1; have := (h_x9).2; omega
                exact tw_endi hx hb hr hlocks hK hT hS hQ (⟨(iv_mono h54 (by decide) (by decide)), ⟨x7, x69, k72, k70, h_x7, h68, q73⟩⟩) dX10_number_116
        · have q74 : x7.toInt = pa.toInt := ti_eq c14
          refine lv_aload_n hx hb dX10_number_77 rfl (lv_at hl 2 rfl) ?_
          refine lv_iload_n hx hb dX10_number_78 rfl (lv_at hl 1 rfl) ?_
          refine lv_iconst (v := 0) hx hb dX10_number_79 (by decide) ?_
          refine tw_gov hS (md_runU (As := [.int pa, .int 0]) (rest := []) hx hb hml hown hW hK hT hS.1 (t_X10_fail_1 l D cy tx base Z K N M2 R3 J4 hS.2.1 a0 hz_a0 hk_a0 pa h_pa 0 (iv_mono (iv_c (c := 0) (n := 0) (by decide)) (by decide) (by decide))) s_X10_50_X2 ⟨rfl, rfl, ⟨Nat.le_of_ble_eq_true rfl, Nat.le_of_ble_eq_true rfl⟩, ⟨Nat.le_of_ble_eq_true rfl, Nat.le_of_ble_eq_true rfl⟩⟩ hz_a0 hk_a0 (by decide) rfl rfl hl.1 rfl (Nat.le_of_ble_eq_true rfl) dX10_number_80) rfl rfl (fun H locs M78 R79 J77 hS f75 g76 E80 => ?_)
          have eR79 := Fr.nil g76 rfl
          subst eR79
          have p81 := E80
          clear E80
          obtain ⟨x83, k84, h82, q85⟩ := p81
          have k84 : M78 a0 3 = x83 := k84
          refine lv_goto (tgt := 114) hx hb dX10_number_83 (by decide) ?_
          refine lv_iload hx hb dX10_number_114 (lv_at hl 0 rfl) ?_
          have k86 : M78 a0 2 = x7 := (Fr.kp (k := 2) f75 hk_a0 rfl).trans k8
          have q87 : (pa.toInt ≤ x7.toInt ∧ (x7.toInt ≤ ln.toInt ∨ x7.toInt = pa.toInt)) ∧ (¬ x83.toInt = 0 ∨ fa.toInt = 0) := by
            have := (h_a1).1; have := (h_a1).2; have := (h_a2).1; have := (h_a2).2; have := (h_fa).1; have := (h_fa).2; have := (h_ln).1; have := (h_ln).2; have := (h_pa).1; have := (h_pa).2; have := (h_x7).1; have := (h_x7).2; have := (h82).1; have := (h82).2; have := (h_x9).1; have := (h_x9).2; omega
          exact tw_endi hx hb hr hlocks hK hT hS hQ (⟨h_x1, ⟨x7, x83, k86, k84, h_x7, h82, q87⟩⟩) dX10_number_116
      · have q88 : x7.toInt < ln.toInt := ti_nle c12
        have h89 : iv 0 399 x7 := iv_ltL (y := ln) h_x7 h_ln q88 (by decide)
        have h90 : iv 1 400 ln := iv_gtL (y := x7) h_ln h_x7 q88 (by decide)
        refine lv_aload_n hx hb dX10_number_19 rfl (lv_at hl 2 rfl) ?_
        have k91 : R3 a0 0 = some tb := (Fr.kp (k := 0) g6 hk_a0 rfl).trans k_tb
        have k92 : M2 a0 1 = ln := (Fr.kp (k := 1) f5 hk_a0 rfl).trans k_ln
        refine tw_goi hS (md_runU (As := []) (rest := []) hx hb hml hown hW hK hT hS.1 (t_X10_isDigitHere_1 l D cy tx base Z K N M2 R3 J4 hS.2.1 a0 hz_a0 hk_a0 tb k91 ln k92 (iv_mono h90 (by decide) (by decide)) x7 k8 (iv_mono h89 (by decide) (by decide))) s_X10_46_X2 ⟨rfl, rfl, ⟨Nat.le_of_ble_eq_true rfl, Nat.le_of_ble_eq_true rfl⟩, ⟨Nat.le_of_ble_eq_true rfl, Nat.le_of_ble_eq_true rfl⟩⟩ hz_a0 hk_a0 (by decide) rfl rfl hl.1 rfl (Nat.le_of_ble_eq_true rfl) dX10_number_20) rfl rfl (fun x99 H locs M96 R97 J95 hS f93 g94 E98 => ?_)
        have eM96 := Fr.nil f93 rfl
        subst eM96
        have eR97 := Fr.nil g94 rfl
        subst eR97
        obtain ⟨h_x99, p100⟩ := E98
        refine lv_if_eq (tgt := 69) hx hb dX10_number_23 (by decide) (fun c101 => ?_) (fun c101 => ?_)
        · have q102 : x99.toInt = 0 := ti_eq c101
          have h103 : iv 0 0 x99 := ⟨by have := (h_x99).1; have := ((iv_c (c := 0) (n := 0) (by decide))).1; omega, by have := (h_x99).2; have := ((iv_c (c := 0) (n := 0) (by decide))).2; omega⟩
          refine lv_aload_n hx hb dX10_number_69 rfl (lv_at hl 2 rfl) ?_
          refine tw_getk hx hb hW hown hK hS f_X10_25_2 hz_a0 hk_a0 (v := x7) k8 dX10_number_70 ?_
          refine lv_iload_n hx hb dX10_number_73 rfl (lv_at hl 1 rfl) ?_
          refine lv_icmp_ne (tgt := 86) hx hb dX10_number_74 (by decide) (fun c104 => ?_) (fun c104 => ?_)
          · have q105 : ¬ x7.toInt = pa.toInt := ti_ne c104
            refine lv_aload_n hx hb dX10_number_86 rfl (lv_at hl 2 rfl) ?_
            refine tw_getk hx hb hW hown hK hS f_X10_25_2 hz_a0 hk_a0 (v := x7) k8 dX10_number_87 ?_
            refine lv_iload_n hx hb dX10_number_90 rfl (lv_at hl 1 rfl) ?_
            refine tw_isub (lo := (-1000)) (hi := 399) hx hb h89 h_pa ⟨by decide, by decide⟩ ⟨by decide, by decide⟩ dX10_number_91 (fun x108 e107 h106 => ?_)
            refine lv_iconst (v := 5) hx hb dX10_number_92 (by decide) ?_
            refine lv_icmp_gt (tgt := 108) hx hb dX10_number_93 (by decide) (fun c109 => ?_) (fun c109 => ?_)
            · have q110 : 5 < x108.toInt := ti_lt c109
              have h111 : iv 6 399 x108 := iv_gtL (y := 5) h106 (iv_c (c := 5) (n := 5) (by decide)) q110 (by decide)
              refine lv_aload_n hx hb dX10_number_108 rfl (lv_at hl 2 rfl) ?_
              refine lv_iload_n hx hb dX10_number_109 rfl (lv_at hl 1 rfl) ?_
              refine lv_iconst (v := 1) hx hb dX10_number_110 (by decide) ?_
              refine tw_gov hS (md_runU (As := [.int pa, .int 1]) (rest := []) hx hb hml hown hW hK hT hS.1 (t_X10_fail_1 l D cy tx base Z K N M2 R3 J95 hS.2.1 a0 hz_a0 hk_a0 pa h_pa 1 (iv_mono (iv_c (c := 1) (n := 1) (by decide)) (by decide) (by decide))) s_X10_50_X2 ⟨rfl, rfl, ⟨Nat.le_of_ble_eq_true rfl, Nat.le_of_ble_eq_true rfl⟩, ⟨Nat.le_of_ble_eq_true rfl, Nat.le_of_ble_eq_true rfl⟩⟩ hz_a0 hk_a0 (by decide) rfl rfl hl.1 rfl (Nat.le_of_ble_eq_true rfl) dX10_number_111) rfl rfl (fun H locs M115 R116 J114 hS f112 g113 E117 => ?_)
              have eR116 := Fr.nil g113 rfl
              subst eR116
              have p118 := E117
              clear E117
              obtain ⟨x120, k121, h119, q122⟩ := p118
              have k121 : M115 a0 3 = x120 := k121
              refine lv_iload hx hb dX10_number_114 (lv_at hl 0 rfl) ?_
              have k123 : M115 a0 2 = x7 := (Fr.kp (k := 2) f112 hk_a0 rfl).trans k8
              have q124 : (pa.toInt ≤ x7.toInt ∧ (x7.toInt ≤ ln.toInt ∨ x7.toInt = pa.toInt)) ∧ (¬ x120.toInt = 0 ∨ fa.toInt = 0) := by
                have := (h_a1).1; have := (h_a1).2; have := (h_a2).1; have := (h_a2).2; have := (h_fa).1; have := (h_fa).2; have := (h90).1; have := (h90).2; have := (h_pa).1; have := (h_pa).2; have := (h111).1; have := (h111).2; have := (h119).1; have := (h119).2; have := (h89).1; have := (h89).2; have := (h_x9).1; have := (h_x9).2; omega
              exact tw_endi hx hb hr hlocks hK hT hS hQ (⟨h_x1, ⟨x7, x120, k123, k121, (iv_mono h89 (by decide) (by decide)), h119, q124⟩⟩) dX10_number_116
            · have q125 : x108.toInt ≤ 5 := ti_nlt c109
              have h126 : iv (-1000) 5 x108 := iv_leL (y := 5) h106 (iv_c (c := 5) (n := 5) (by decide)) q125 (by decide)
              refine lv_iload hx hb dX10_number_96 (lv_at hl 0 rfl) ?_
              refine lv_iload_n hx hb dX10_number_98 rfl (lv_at hl 3 rfl) ?_
              refine lv_icmp_lt (tgt := 108) hx hb dX10_number_99 (by decide) (fun c127 => ?_) (fun c127 => ?_)
              · have q128 : x1.toInt < a1.toInt := ti_lt c127
                have h129 : iv (-2147483648) 0 x1 := iv_ltL (y := a1) h_x1 h_a1 q128 (by decide)
                refine lv_aload_n hx hb dX10_number_108 rfl (lv_at hl 2 rfl) ?_
                refine lv_iload_n hx hb dX10_number_109 rfl (lv_at hl 1 rfl) ?_
                refine lv_iconst (v := 1) hx hb dX10_number_110 (by decide) ?_
                refine tw_gov hS (md_runU (As := [.int pa, .int 1]) (rest := []) hx hb hml hown hW hK hT hS.1 (t_X10_fail_1 l D cy tx base Z K N M2 R3 J95 hS.2.1 a0 hz_a0 hk_a0 pa h_pa 1 (iv_mono (iv_c (c := 1) (n := 1) (by decide)) (by decide) (by decide))) s_X10_50_X2 ⟨rfl, rfl, ⟨Nat.le_of_ble_eq_true rfl, Nat.le_of_ble_eq_true rfl⟩, ⟨Nat.le_of_ble_eq_true rfl, Nat.le_of_ble_eq_true rfl⟩⟩ hz_a0 hk_a0 (by decide) rfl rfl hl.1 rfl (Nat.le_of_ble_eq_true rfl) dX10_number_111) rfl rfl (fun H locs M133 R134 J132 hS f130 g131 E135 => ?_)
                have eR134 := Fr.nil g131 rfl
                subst eR134
                have p136 := E135
                clear E135
                obtain ⟨x138, k139, h137, q140⟩ := p136
                have k139 : M133 a0 3 = x138 := k139
                refine lv_iload hx hb dX10_number_114 (lv_at hl 0 rfl) ?_
                have k141 : M133 a0 2 = x7 := (Fr.kp (k := 2) f130 hk_a0 rfl).trans k8
                have q142 : (pa.toInt ≤ x7.toInt ∧ (x7.toInt ≤ ln.toInt ∨ x7.toInt = pa.toInt)) ∧ (¬ x138.toInt = 0 ∨ fa.toInt = 0) := by
                  have := (h_a1).1; have := (h_a1).2; have := (h_a2).1; have := (h_a2).2; have := (h_fa).1; have := (h_fa).2; have := (h90).1; have := (h90).2; have := (h_pa).1; have := (h_pa).2; have := (h126).1; have := (h126).2; have := (h137).1; have := (h137).2; have := (h89).1; have := (h89).2; have := (h_x9).1; have := (h_x9).2; omega
                exact tw_endi hx hb hr hlocks hK hT hS hQ (⟨(iv_mono h129 (by decide) (by decide)), ⟨x7, x138, k141, k139, (iv_mono h89 (by decide) (by decide)), h137, q142⟩⟩) dX10_number_116
              · have q143 : a1.toInt ≤ x1.toInt := ti_nlt c127
                have h144 : iv 0 2147483647 x1 := iv_geL (y := a1) h_x1 h_a1 q143 (by decide)
                refine lv_iload hx hb dX10_number_102 (lv_at hl 0 rfl) ?_
                refine lv_iload_n hx hb dX10_number_104 rfl (lv_at hl 4 rfl) ?_
                refine lv_icmp_le (tgt := 114) hx hb dX10_number_105 (by decide) (fun c145 => ?_) (fun c145 => ?_)
                · have q146 : x1.toInt ≤ a2.toInt := ti_le c145
                  have h147 : iv 0 2147483647 a2 := iv_geL (y := x1) h_a2 h144 q146 (by decide)
                  refine lv_iload hx hb dX10_number_114 (lv_at hl 0 rfl) ?_
                  have q148 : (pa.toInt ≤ x7.toInt ∧ (x7.toInt ≤ ln.toInt ∨ x7.toInt = pa.toInt)) ∧ (¬ x9.toInt = 0 ∨ fa.toInt = 0) := by
                    have := (h_a1).1; have := (h_a1).2; have := (h147).1; have := (h147).2; have := (h_fa).1; have := (h_fa).2; have := (h90).1; have := (h90).2; have := (h_pa).1; have := (h_pa).2; have := (h126).1; have := (h126).2; have := (h89).1; have := (h89).2; have := (h_x9).1; have := (h_x9).2; omega
                  exact tw_endi hx hb hr hlocks hK hT hS hQ (⟨(iv_mono h144 (by decide) (by decide)), ⟨x7, x9, k8, k10, (iv_mono h89 (by decide) (by decide)), h_x9, q148⟩⟩) dX10_number_116
                · have q149 : a2.toInt < x1.toInt := ti_nle c145
                  have h150 : iv (-2147483648) 2147483646 a2 := iv_ltL (y := x1) h_a2 h144 q149 (by decide)
                  refine lv_aload_n hx hb dX10_number_108 rfl (lv_at hl 2 rfl) ?_
                  refine lv_iload_n hx hb dX10_number_109 rfl (lv_at hl 1 rfl) ?_
                  refine lv_iconst (v := 1) hx hb dX10_number_110 (by decide) ?_
                  refine tw_gov hS (md_runU (As := [.int pa, .int 1]) (rest := []) hx hb hml hown hW hK hT hS.1 (t_X10_fail_1 l D cy tx base Z K N M2 R3 J95 hS.2.1 a0 hz_a0 hk_a0 pa h_pa 1 (iv_mono (iv_c (c := 1) (n := 1) (by decide)) (by decide) (by decide))) s_X10_50_X2 ⟨rfl, rfl, ⟨Nat.le_of_ble_eq_true rfl, Nat.le_of_ble_eq_true rfl⟩, ⟨Nat.le_of_ble_eq_true rfl, Nat.le_of_ble_eq_true rfl⟩⟩ hz_a0 hk_a0 (by decide) rfl rfl hl.1 rfl (Nat.le_of_ble_eq_true rfl) dX10_number_111) rfl rfl (fun H locs M154 R155 J153 hS f151 g152 E156 => ?_)
                  have eR155 := Fr.nil g152 rfl
                  subst eR155
                  have p157 := E156
                  clear E156
                  obtain ⟨x159, k160, h158, q161⟩ := p157
                  have k160 : M154 a0 3 = x159 := k160
                  refine lv_iload hx hb dX10_number_114 (lv_at hl 0 rfl) ?_
                  have k162 : M154 a0 2 = x7 := (Fr.kp (k := 2) f151 hk_a0 rfl).trans k8
                  have q163 : (pa.toInt ≤ x7.toInt ∧ (x7.toInt ≤ ln.toInt ∨ x7.toInt = pa.toInt)) ∧ (¬ x159.toInt = 0 ∨ fa.toInt = 0) := by
                    have := (h_a1).1; have := (h_a1).2; have := (h150).1; have := (h150).2; have := (h_fa).1; have := (h_fa).2; have := (h90).1; have := (h90).2; have := (h_pa).1; have := (h_pa).2; have := (h126).1; have := (h126).2; have := (h158).1; have := (h158).2; have := (h89).1; have := (h89).2; have := (h_x9).1; have := (h_x9).2; omega
                  exact tw_endi hx hb hr hlocks hK hT hS hQ (⟨(iv_mono h144 (by decide) (by decide)), ⟨x7, x159, k162, k160, (iv_mono h89 (by decide) (by decide)), h158, q163⟩⟩) dX10_number_116
          · have q164 : x7.toInt = pa.toInt := ti_eq c104
            have h165 : iv 0 399 pa := ⟨by have := (h89).1; have := (h_pa).1; omega, by have := (h89).2; have := (h_pa).2; omega⟩
            refine lv_aload_n hx hb dX10_number_77 rfl (lv_at hl 2 rfl) ?_
            refine lv_iload_n hx hb dX10_number_78 rfl (lv_at hl 1 rfl) ?_
            refine lv_iconst (v := 0) hx hb dX10_number_79 (by decide) ?_
            refine tw_gov hS (md_runU (As := [.int pa, .int 0]) (rest := []) hx hb hml hown hW hK hT hS.1 (t_X10_fail_1 l D cy tx base Z K N M2 R3 J95 hS.2.1 a0 hz_a0 hk_a0 pa (iv_mono h165 (by decide) (by decide)) 0 (iv_mono (iv_c (c := 0) (n := 0) (by decide)) (by decide) (by decide))) s_X10_50_X2 ⟨rfl, rfl, ⟨Nat.le_of_ble_eq_true rfl, Nat.le_of_ble_eq_true rfl⟩, ⟨Nat.le_of_ble_eq_true rfl, Nat.le_of_ble_eq_true rfl⟩⟩ hz_a0 hk_a0 (by decide) rfl rfl hl.1 rfl (Nat.le_of_ble_eq_true rfl) dX10_number_80) rfl rfl (fun H locs M169 R170 J168 hS f166 g167 E171 => ?_)
            have eR170 := Fr.nil g167 rfl
            subst eR170
            have p172 := E171
            clear E171
            obtain ⟨x174, k175, h173, q176⟩ := p172
            have k175 : M169 a0 3 = x174 := k175
            refine lv_goto (tgt := 114) hx hb dX10_number_83 (by decide) ?_
            refine lv_iload hx hb dX10_number_114 (lv_at hl 0 rfl) ?_
            have k177 : M169 a0 2 = x7 := (Fr.kp (k := 2) f166 hk_a0 rfl).trans k8
            have q178 : (pa.toInt ≤ x7.toInt ∧ (x7.toInt ≤ ln.toInt ∨ x7.toInt = pa.toInt)) ∧ (¬ x174.toInt = 0 ∨ fa.toInt = 0) := by
              have := (h_a1).1; have := (h_a1).2; have := (h_a2).1; have := (h_a2).2; have := (h_fa).1; have := (h_fa).2; have := (h90).1; have := (h90).2; have := (h165).1; have := (h165).2; have := (h173).1; have := (h173).2; have := (h89).1; have := (h89).2; have := (h_x9).1; have := (h_x9).2; omega
            exact tw_endi hx hb hr hlocks hK hT hS hQ (⟨h_x1, ⟨x7, x174, k177, k175, (iv_mono h89 (by decide) (by decide)), h173, q178⟩⟩) dX10_number_116
        · have q179 : ¬ x99.toInt = 0 := ti_ne c101
          have h180 : iv 1 1 x99 := ⟨by have := (h_x99).1; have := ((iv_c (c := 0) (n := 0) (by decide))).1; have := ((iv_c (c := 0) (n := 0) (by decide))).2; omega, by have := (h_x99).2; have := ((iv_c (c := 0) (n := 0) (by decide))).1; have := ((iv_c (c := 0) (n := 0) (by decide))).2; omega⟩
          have q181 := p100 c101
          refine lv_aload_n hx hb dX10_number_26 rfl (lv_at hl 2 rfl) ?_
          refine tw_getk hx hb hW hown hK hS f_X10_25_2 hz_a0 hk_a0 (v := x7) k8 dX10_number_27 ?_
          refine lv_iload_n hx hb dX10_number_30 rfl (lv_at hl 1 rfl) ?_
          refine tw_isub (lo := (-1000)) (hi := 399) hx hb h89 h_pa ⟨by decide, by decide⟩ ⟨by decide, by decide⟩ dX10_number_31 (fun x184 e183 h182 => ?_)
          refine lv_iconst (v := 5) hx hb dX10_number_32 (by decide) ?_
          refine lv_icmp_ge (tgt := 56) hx hb dX10_number_33 (by decide) (fun c185 => ?_) (fun c185 => ?_)
          · have q186 : 5 ≤ x184.toInt := ti_le c185
            have h187 : iv 5 399 x184 := iv_geL (y := 5) h182 (iv_c (c := 5) (n := 5) (by decide)) q186 (by decide)
            refine lv_aload_n hx hb dX10_number_56 rfl (lv_at hl 2 rfl) ?_
            refine lv_dup hx hb dX10_number_57 rfl ?_
            refine tw_getk hx hb hW hown hK hS f_X10_25_2 hz_a0 hk_a0 (v := x7) k8 dX10_number_58 ?_
            refine lv_iconst (v := 1) hx hb dX10_number_61 (by decide) ?_
            refine tw_iadd (lo := 1) (hi := 400) hx hb h89 (iv_c (c := 1) (n := 1) (by decide)) ⟨by decide, by decide⟩ ⟨by decide, by decide⟩ dX10_number_62 (fun x190 e189 h188 => ?_)
            have e189 : x190.toInt = x7.toInt + 1 := e189
            refine tw_puti hx hb hW hown hK hS f_X10_25_2 hz_a0 hk_a0 rfl rfl (lo := 0) (hi := 1000) rfl (iv_mono h188 (by decide) (by decide)) rfl dX10_number_63 (fun H locs M193 hS k191 f192 => ?_)
            refine lv_goto (tgt := 8) hx hb dX10_number_66 (by decide) ?_
            have k194 : M193 a0 3 = x9 := (Fr.kp (k := 3) f192 hk_a0 rfl).trans k10
            have w195 : pa.toInt ≤ x190.toInt ∧ (x190.toInt ≤ ln.toInt ∨ x190.toInt = pa.toInt) := by
              have := (h_a1).1; have := (h_a1).2; have := (h_a2).1; have := (h_a2).2; have := (h_fa).1; have := (h_fa).2; have := (h90).1; have := (h90).2; have := (h_pa).1; have := (h_pa).2; have := (h187).1; have := (h187).2; have := (h188).1; have := (h188).2; have := (h89).1; have := (h89).2; omega
            have w196 : x9.toInt = fa.toInt := by
              have := (h_a1).1; have := (h_a1).2; have := (h_a2).1; have := (h_a2).2; have := (h_fa).1; have := (h_fa).2; have := (h90).1; have := (h90).2; have := (h_pa).1; have := (h_pa).2; have := (h_x9).1; have := (h_x9).2; omega
            have hm197 : 1000 - x190.toInt < (n_2 : Int) := by
              have := (h_a1).1; have := (h_a1).2; have := (h_a2).1; have := (h_a2).2; have := (h_fa).1; have := (h_fa).2; have := (h90).1; have := (h90).2; have := (h_pa).1; have := (h_pa).2; have := (h187).1; have := (h187).2; have := (h188).1; have := (h188).2; have := (h89).1; have := (h89).2; omega
            exact ih_2 x1 x190 x9 M193 R3 J95 H locs _ h_x1 (iv_mono h188 (by decide) (by decide)) k191 h_x9 k194 w195 w196 hm197 hS hl
          · have q198 : x184.toInt < 5 := ti_nle c185
            have h199 : iv (-1000) 4 x184 := iv_ltL (y := 5) h182 (iv_c (c := 5) (n := 5) (by decide)) q198 (by decide)
            refine lv_iload hx hb dX10_number_36 (lv_at hl 0 rfl) ?_
            refine lv_bipush (v := 10) hx hb dX10_number_38 (by decide) ?_
            refine lv_imul hx hb dX10_number_40 ?_
            refine tw_top (fun x201 => ?_)
            have h200 := iv_any x201
            refine lv_aload_n hx hb dX10_number_41 rfl (lv_at hl 2 rfl) ?_
            have k202 : R3 a0 0 = some tb := (Fr.kp (k := 0) g6 hk_a0 rfl).trans k_tb
            refine tw_getrk hx hb hW hown hK hS f_X10_9_2 hz_a0 hk_a0 (b := tb) k202 dX10_number_42 ?_
            refine lv_aload_n hx hb dX10_number_45 rfl (lv_at hl 2 rfl) ?_
            refine tw_getk hx hb hW hown hK hS f_X10_25_2 hz_a0 hk_a0 (v := x7) k8 dX10_number_46 ?_
            refine tw_bald hx hb hK hS hz_tb hk_tb hn_tb h89 ⟨by decide, by decide⟩ dX10_number_49 (fun x205 k204 => ?_)
            have h203 := iv_any x205
            refine lv_iadd hx hb dX10_number_50 ?_
            refine tw_top (fun x207 => ?_)
            have h206 := iv_any x207
            refine lv_bipush (v := 48) hx hb dX10_number_51 (by decide) ?_
            refine lv_isub hx hb dX10_number_53 ?_
            refine tw_top (fun x209 => ?_)
            have h208 := iv_any x209
            refine lv_istore (lv' := [(4, .int x209), (3, .int pa), (0, .ref (base + a0)), (1, .int a1), (2, .int a2)]) hx hb dX10_number_54 hl (by decide) rfl (fun ls hl => ?_)
            refine lv_aload_n hx hb dX10_number_56 rfl (lv_at hl 2 rfl) ?_
            refine lv_dup hx hb dX10_number_57 rfl ?_
            refine tw_getk hx hb hW hown hK hS f_X10_25_2 hz_a0 hk_a0 (v := x7) k8 dX10_number_58 ?_
            refine lv_iconst (v := 1) hx hb dX10_number_61 (by decide) ?_
            refine tw_iadd (lo := 1) (hi := 400) hx hb h89 (iv_c (c := 1) (n := 1) (by decide)) ⟨by decide, by decide⟩ ⟨by decide, by decide⟩ dX10_number_62 (fun x212 e211 h210 => ?_)
            have e211 : x212.toInt = x7.toInt + 1 := e211
            refine tw_puti hx hb hW hown hK hS f_X10_25_2 hz_a0 hk_a0 rfl rfl (lo := 0) (hi := 1000) rfl (iv_mono h210 (by decide) (by decide)) rfl dX10_number_63 (fun H locs M215 hS k213 f214 => ?_)
            refine lv_goto (tgt := 8) hx hb dX10_number_66 (by decide) ?_
            have k216 : M215 a0 3 = x9 := (Fr.kp (k := 3) f214 hk_a0 rfl).trans k10
            have w217 : pa.toInt ≤ x212.toInt ∧ (x212.toInt ≤ ln.toInt ∨ x212.toInt = pa.toInt) := by
              have := (h_a1).1; have := (h_a1).2; have := (h_a2).1; have := (h_a2).2; have := (h_fa).1; have := (h_fa).2; have := (h90).1; have := (h90).2; have := (h_pa).1; have := (h_pa).2; have := (h199).1; have := (h199).2; have := (h210).1; have := (h210).2; have := (h89).1; have := (h89).2; omega
            have w218 : x9.toInt = fa.toInt := by
              have := (h_a1).1; have := (h_a1).2; have := (h_a2).1; have := (h_a2).2; have := (h_fa).1; have := (h_fa).2; have := (h90).1; have := (h90).2; have := (h_pa).1; have := (h_pa).2; have := (h_x9).1; have := (h_x9).2; omega
            have hm219 : 1000 - x212.toInt < (n_2 : Int) := by
              have := (h_a1).1; have := (h_a1).2; have := (h_a2).1; have := (h_a2).2; have := (h_fa).1; have := (h_fa).2; have := (h90).1; have := (h90).2; have := (h_pa).1; have := (h_pa).2; have := (h199).1; have := (h199).2; have := (h210).1; have := (h210).2; have := (h89).1; have := (h89).2; omega
            exact ih_2 x209 x212 x9 M215 R3 J95 H locs _ h208 (iv_mono h210 (by decide) (by decide)) k213 h_x9 k216 w217 w218 hm219 hS hl
  have w220 : pa.toInt ≤ pa.toInt ∧ (pa.toInt ≤ ln.toInt ∨ pa.toInt = pa.toInt) := by
    have := (h_a1).1; have := (h_a1).2; have := (h_a2).1; have := (h_a2).2; have := (h_fa).1; have := (h_fa).2; have := (h_ln).1; have := (h_ln).2; have := (h_pa).1; have := (h_pa).2; omega
  have w221 : fa.toInt = fa.toInt := by
    have := (h_a1).1; have := (h_a1).2; have := (h_a2).1; have := (h_a2).2; have := (h_fa).1; have := (h_fa).2; have := (h_ln).1; have := (h_ln).2; have := (h_pa).1; have := (h_pa).2; omega
  have hm222 : 1000 - pa.toInt < (((1001 : Nat) : Int) : Int) := by
    have := (h_a1).1; have := (h_a1).2; have := (h_a2).1; have := (h_a2).2; have := (h_fa).1; have := (h_fa).2; have := (h_ln).1; have := (h_ln).2; have := (h_pa).1; have := (h_pa).2; omega
  exact W8_2 1001 0 pa fa Ma Ra Ja s.heap [] _ (iv_mono (iv_c (c := 0) (n := 0) (by decide)) (by decide) (by decide)) h_pa k_pa h_fa k_fa w220 w221 hm222 hS hl
def Lt_X10_passWord : WL := [(9, 2, 3)]
def LRt_X10_passWord : WL := []
set_option maxRecDepth 100000 in
set_option maxHeartbeats 4000000 in
theorem t_X10_passWord (l : Launch) (D : va_G) (cy : Nat → ClassId) (tx : (Nat → Nat) × (Nat → Nat)) (base Z : Nat) (K N : Nat → Nat) (Ma : MT) (Ra : RT) (Ja : JT) (hTy : Ty Z K N Ma Ra) (a0 : Nat) (hz_a0 : a0 < Z) (hk_a0 : K a0 = 9) (we : Int32) (k_we : Ma a0 4 = we) (h_we : iv 0 1000 we) : Met l yX10_passWord [Cond.code yX10_passWord cX10_passWord 1 none] (md_rm 1 0 0) (va_Pc [.ref (base + a0)] (md_U D cy tx base Z K N Ma Ra Ja)) (mQv D cy tx base (fun u => TP Z K N Lt_X10_passWord LRt_X10_passWord Ma Ra u ∧ (u.2.2.2.1 a0 2 = we))) 0 0 (fun q => base ≤ q) := by
  refine tw_ofW (L := Lt_X10_passWord) (LR := LRt_X10_passWord) (by decide) (Nat.le_of_ble_eq_true rfl) hTy ?_
  intro p e s m args below meth c Q ls hx hb hr hlocks hown hml hW hK hT hS hQ hl
  have hl : lv_has ls 1 [(0, .ref (base + a0))] := hl
  refine lv_aload_n hx hb dX10_passWord_0 rfl (lv_at hl 0 rfl) ?_
  refine lv_aload_n hx hb dX10_passWord_1 rfl (lv_at hl 0 rfl) ?_
  refine tw_getk hx hb hW hown hK hS f_X10_35_8 hz_a0 hk_a0 (v := we) k_we dX10_passWord_2 ?_
  refine tw_puti hx hb hW hown hK hS f_X10_25_8 hz_a0 hk_a0 rfl rfl (lo := 0) (hi := 1000) rfl h_we rfl dX10_passWord_5 (fun H locs M3 hS k1 f2 => ?_)
  exact tw_endv hx hb hr hlocks hK hT hS hQ (k1) dX10_passWord_8
def Lt_X10_passWord_1 : WL := [(3, 2, 3)]
def LRt_X10_passWord_1 : WL := []
set_option maxRecDepth 100000 in
set_option maxHeartbeats 4000000 in
theorem t_X10_passWord_1 (l : Launch) (D : va_G) (cy : Nat → ClassId) (tx : (Nat → Nat) × (Nat → Nat)) (base Z : Nat) (K N : Nat → Nat) (Ma : MT) (Ra : RT) (Ja : JT) (hTy : Ty Z K N Ma Ra) (a0 : Nat) (hz_a0 : a0 < Z) (hk_a0 : K a0 = 3) (we : Int32) (k_we : Ma a0 4 = we) (h_we : iv 0 1000 we) : Met l yX10_passWord [Cond.code yX10_passWord cX10_passWord 1 none] (md_rm 1 0 0) (va_Pc [.ref (base + a0)] (md_U D cy tx base Z K N Ma Ra Ja)) (mQv D cy tx base (fun u => TP Z K N Lt_X10_passWord_1 LRt_X10_passWord_1 Ma Ra u ∧ (u.2.2.2.1 a0 2 = we))) 0 0 (fun q => base ≤ q) := by
  refine tw_ofW (L := Lt_X10_passWord_1) (LR := LRt_X10_passWord_1) (by decide) (Nat.le_of_ble_eq_true rfl) hTy ?_
  intro p e s m args below meth c Q ls hx hb hr hlocks hown hml hW hK hT hS hQ hl
  have hl : lv_has ls 1 [(0, .ref (base + a0))] := hl
  refine lv_aload_n hx hb dX10_passWord_0 rfl (lv_at hl 0 rfl) ?_
  refine lv_aload_n hx hb dX10_passWord_1 rfl (lv_at hl 0 rfl) ?_
  refine tw_getk hx hb hW hown hK hS f_X10_35_2 hz_a0 hk_a0 (v := we) k_we dX10_passWord_2 ?_
  refine tw_puti hx hb hW hown hK hS f_X10_25_2 hz_a0 hk_a0 rfl rfl (lo := 0) (hi := 1000) rfl h_we rfl dX10_passWord_5 (fun H locs M3 hS k1 f2 => ?_)
  exact tw_endv hx hb hr hlocks hK hT hS hQ (k1) dX10_passWord_8
def Lt_X10_whichWord : WL := [(9, 4, 5)]
def LRt_X10_whichWord : WL := []
set_option maxRecDepth 100000 in
set_option maxHeartbeats 4000000 in
theorem t_X10_whichWord (l : Launch) (D : va_G) (cy : Nat → ClassId) (tx : (Nat → Nat) × (Nat → Nat)) (base Z : Nat) (K N : Nat → Nat) (Ma : MT) (Ra : RT) (Ja : JT) (hTy : Ty Z K N Ma Ra) (a0 : Nat) (hz_a0 : a0 < Z) (hk_a0 : K a0 = 9) (a1 : Nat) (hi_a1 : a1 < 6) (tb : Nat) (k_tb : Ra a0 0 = some tb) (ln : Int32) (k_ln : Ma a0 1 = ln) (h_ln : iv 0 400 ln) (pa : Int32) (k_pa : Ma a0 2 = pa) (h_pa : iv 0 1000 pa) : Met l yX10_whichWord [Cond.code yX10_whichWord cX10_whichWord 7 (some .int)] (md_rm 6 0 0) (va_Pc [.ref (base + a0), .ref (tx.1 a1)] (md_U D cy tx base Z K N Ma Ra Ja)) (mQi D cy tx base (fun r u => TP Z K N Lt_X10_whichWord LRt_X10_whichWord Ma Ra u ∧ (iv (-2147483648) 2147483647 r ∧ (∃ x0 : Int32, u.2.2.2.1 a0 4 = x0 ∧ iv 0 1000 x0 ∧ ((pa.toInt ≤ x0.toInt ∧ (x0.toInt ≤ ln.toInt ∨ x0.toInt = pa.toInt))))))) 0 0 (fun q => base ≤ q) := by
  refine tw_ofW (L := Lt_X10_whichWord) (LR := LRt_X10_whichWord) (by decide) (Nat.le_of_ble_eq_true rfl) hTy ?_
  intro p e s m args below meth c Q ls hx hb hr hlocks hown hml hW hK hT hS hQ hl
  have hl : lv_has ls 7 [(0, .ref (base + a0)), (1, .ref (tx.1 a1))] := hl
  obtain ⟨hz_tb, hk_tb, hn_tb⟩ := hTy.refn hz_a0 hk_a0 (show rtR 9 0 = (13, 400, 1) from rfl) k_tb
  have hn_tb := hn_tb (by decide)
  refine lv_aload_n hx hb dX10_whichWord_0 rfl (lv_at hl 0 rfl) ?_
  refine tw_getk hx hb hW hown hK hS f_X10_25_8 hz_a0 hk_a0 (v := pa) k_pa dX10_whichWord_1 ?_
  refine lv_istore_n (lv' := [(2, .int pa), (0, .ref (base + a0)), (1, .ref (tx.1 a1))]) hx hb dX10_whichWord_4 rfl hl (by decide) rfl (fun ls hl => ?_)
  have W5_2 : ∀ (n_2 : Nat) (x1 : Int32) (M2 : MT) (R3 : RT) (J4 : JT) (H : Heap) (locs : List Loc) (ls : Array Slot) (h_x1 : iv 0 1000 x1) (w0_2 : pa.toInt ≤ x1.toInt ∧ (x1.toInt ≤ ln.toInt ∨ x1.toInt = pa.toInt)) (hm_2 : 1000 - x1.toInt < (n_2 : Int)) (hS : SB D cy base Z K N Lt_X10_whichWord LRt_X10_whichWord Ma Ra M2 R3 J4 s H locs) (hl : lv_has ls 7 [(2, .int x1), (0, .ref (base + a0)), (1, .ref (tx.1 a1))]), W p l e (md_rm 6 0 0) s m args below meth c H locs 0 0 Q (F0 m 5 ls []) := by
    intro n_2
    induction n_2 with
    | zero =>
      intro x1 M2 R3 J4 H locs ls h_x1 w0_2 hm_2 hS hl
      exfalso
      have := (h_ln).1; have := (h_ln).2; have := (h_pa).1; have := (h_pa).2; have := (h_x1).1; have := (h_x1).2; omega
    | succ n_2 ih_2 =>
      intro x1 M2 R3 J4 H locs ls h_x1 w0_2 hm_2 hS hl
      have f5 := hS.2.2.1
      have g6 := hS.2.2.2
      refine lv_iload_n hx hb dX10_whichWord_5 rfl (lv_at hl 0 rfl) ?_
      refine lv_aload_n hx hb dX10_whichWord_6 rfl (lv_at hl 1 rfl) ?_
      have k7 : M2 a0 1 = ln := (Fr.kp (k := 1) f5 hk_a0 rfl).trans k_ln
      refine tw_getk hx hb hW hown hK hS f_X10_21_8 hz_a0 hk_a0 (v := ln) k7 dX10_whichWord_7 ?_
      have J41_8 : ∀  (M8 : MT) (R9 : RT) (J10 : JT) (H : Heap) (locs : List Loc) (ls : Array Slot) (w0_8 : pa.toInt ≤ x1.toInt ∧ (x1.toInt ≤ ln.toInt ∨ x1.toInt = pa.toInt)) (hS : SB D cy base Z K N Lt_X10_whichWord LRt_X10_whichWord Ma Ra M8 R9 J10 s H locs) (hl : lv_has ls 7 [(2, .int x1), (0, .ref (base + a0)), (1, .ref (tx.1 a1))]), W p l e (md_rm 6 0 0) s m args below meth c H locs 0 0 Q (F0 m 41 ls []) := by
        intro  M8 R9 J10 H locs ls w0_8 hS hl
        have f11 := hS.2.2.1
        have g12 := hS.2.2.2
        refine lv_aload_n hx hb dX10_whichWord_41 rfl (lv_at hl 1 rfl) ?_
        refine lv_iload_n hx hb dX10_whichWord_42 rfl (lv_at hl 0 rfl) ?_
        refine tw_puti hx hb hW hown hK hS f_X10_35_8 hz_a0 hk_a0 rfl rfl (lo := 0) (hi := 1000) rfl h_x1 rfl dX10_whichWord_43 (fun H locs M15 hS k13 f14 => ?_)
        refine lv_iconst (v := 0) hx hb dX10_whichWord_46 (by decide) ?_
        refine lv_istore_n (lv' := [(3, .int 0), (2, .int x1), (0, .ref (base + a0)), (1, .ref (tx.1 a1))]) hx hb dX10_whichWord_47 rfl hl (by decide) rfl (fun ls hl => ?_)
        refine lv_aload_n hx hb dX10_whichWord_48 rfl (lv_at hl 2 rfl) ?_
        have k16 : M15 a0 2 = pa := ((Fr.kp (k := 2) f14 hk_a0 rfl).trans (Fr.kp (k := 2) f11 hk_a0 rfl)).trans k_pa
        refine tw_getk hx hb hW hown hK hS f_X10_25_8 hz_a0 hk_a0 (v := pa) k16 dX10_whichWord_49 ?_
        refine lv_istore (lv' := [(4, .int pa), (3, .int 0), (2, .int x1), (0, .ref (base + a0)), (1, .ref (tx.1 a1))]) hx hb dX10_whichWord_52 hl (by decide) rfl (fun ls hl => ?_)
        refine lv_iconst (v := 0) hx hb dX10_whichWord_54 (by decide) ?_
        refine lv_istore (lv' := [(5, .int 0), (4, .int pa), (3, .int 0), (2, .int x1), (0, .ref (base + a0)), (1, .ref (tx.1 a1))]) hx hb dX10_whichWord_55 hl (by decide) rfl (fun ls hl => ?_)
        have W57_20 : ∀ (n_20 : Nat) (x17 : Int32) (x18 : Int32) (x19 : Int32) (x25 : Int32) (M20 : MT) (R21 : RT) (J22 : JT) (H : Heap) (locs : List Loc) (ls : Array Slot) (h_x17 : iv (-2147483648) 2147483647 x17) (h_x18 : iv (-1) 1000 x18) (h_x19 : iv 0 57 x19) (h_x25 : iv 0 1000 x25) (k26 : M20 a0 4 = x25) (w0_20 : x25.toInt = x1.toInt) (hm_20 : 57 - x19.toInt < (n_20 : Int)) (hS : SB D cy base Z K N Lt_X10_whichWord LRt_X10_whichWord Ma Ra M20 R21 J22 s H locs) (hl : lv_has ls 7 [(3, .int x17), (4, .int x18), (5, .int x19), (2, .int x1), (0, .ref (base + a0)), (1, .ref (tx.1 a1))]), W p l e (md_rm 6 0 0) s m args below meth c H locs 0 0 Q (F0 m 57 ls []) := by
          intro n_20
          induction n_20 with
          | zero =>
            intro x17 x18 x19 x25 M20 R21 J22 H locs ls h_x17 h_x18 h_x19 h_x25 k26 w0_20 hm_20 hS hl
            exfalso
            have := (h_ln).1; have := (h_ln).2; have := (h_pa).1; have := (h_pa).2; have := (h_x19).1; have := (h_x19).2; omega
          | succ n_20 ih_20 =>
            intro x17 x18 x19 x25 M20 R21 J22 H locs ls h_x17 h_x18 h_x19 h_x25 k26 w0_20 hm_20 hS hl
            have f23 := hS.2.2.1
            have g24 := hS.2.2.2
            refine lv_iload hx hb dX10_whichWord_57 (lv_at hl 2 rfl) ?_
            refine lv_aload_n hx hb dX10_whichWord_59 rfl (lv_at hl 5 rfl) ?_
            refine md_goi hS.1 (md_runT (As := []) (rest := [.int x19]) hx hb hml hown hW hK hT hS.1 (c_length l D cy tx base Z K N M20 R21 J22 a1 hi_a1) s_X10_38 ⟨rfl, rfl, ⟨Nat.le_of_ble_eq_true rfl, Nat.le_of_ble_eq_true rfl⟩, ⟨Nat.le_of_ble_eq_true rfl, Nat.le_of_ble_eq_true rfl⟩⟩ hi_a1 rfl hl.1 rfl (Nat.le_of_ble_eq_true rfl) dX10_whichWord_60) (fun x27 u H locs E28 hG => ?_)
            obtain ⟨E28, rfl⟩ := E28
            replace hS := SB.same hS hG
            have h_x27 := str_len hi_a1 E28
            refine lv_icmp_ge (tgt := 144) hx hb dX10_whichWord_63 (by decide) (fun c29 => ?_) (fun c29 => ?_)
            · have q30 : x27.toInt ≤ x19.toInt := ti_le c29
              have h31 : iv 3 57 x19 := iv_geL (y := x27) h_x19 h_x27 q30 (by decide)
              refine lv_iconst (v := (-1)) hx hb dX10_whichWord_144 (by decide) ?_
              have q32 : (pa.toInt ≤ x25.toInt ∧ (x25.toInt ≤ ln.toInt ∨ x25.toInt = pa.toInt)) := by
                have := (h_ln).1; have := (h_ln).2; have := (h_pa).1; have := (h_pa).2; have := (h_x1).1; have := (h_x1).2; have := (h_x25).1; have := (h_x25).2; omega
              exact tw_endi hx hb hr hlocks hK hT hS hQ (⟨(iv_mono (iv_c (c := (-1)) (n := (-1)) (by decide)) (by decide) (by decide)), ⟨x25, k26, h_x25, q32⟩⟩) dX10_whichWord_145
            · have q33 : x19.toInt < x27.toInt := ti_nle c29
              have h34 : iv 0 56 x19 := iv_ltL (y := x27) h_x19 h_x27 q33 (by decide)
              refine lv_aload_n hx hb dX10_whichWord_66 rfl (lv_at hl 5 rfl) ?_
              refine lv_iload hx hb dX10_whichWord_67 (lv_at hl 2 rfl) ?_
              have q35 : x19 < Int32.ofNat (md_sl.getD a1 0) := by rw [← E28]; exact Int32.lt_iff_toInt_lt.mpr (by omega)
              refine md_goi hS.1 (md_runT (As := [.int x19]) (rest := []) hx hb hml hown hW hK hT hS.1 (c_charAt l D cy tx base Z K N M20 R21 J22 a1 hi_a1 x19 (ti_in (h34).1 (by have := str_n hi_a1; have := ti_lt q35; omega)) q35) s_X10_42 ⟨rfl, rfl, ⟨Nat.le_of_ble_eq_true rfl, Nat.le_of_ble_eq_true rfl⟩, ⟨Nat.le_of_ble_eq_true rfl, Nat.le_of_ble_eq_true rfl⟩⟩ hi_a1 rfl hl.1 rfl (Nat.le_of_ble_eq_true rfl) dX10_whichWord_69) (fun x36 u H locs E37 hG => ?_)
              obtain ⟨E37, rfl⟩ := E37
              replace hS := SB.same hS hG
              have h_x36 := iv_any x36
              refine lv_istore (lv' := [(6, .int x36), (3, .int x17), (4, .int x18), (5, .int x19), (2, .int x1), (0, .ref (base + a0)), (1, .ref (tx.1 a1))]) hx hb dX10_whichWord_72 hl (by decide) rfl (fun ls hl => ?_)
              refine lv_iload hx hb dX10_whichWord_74 (lv_at hl 0 rfl) ?_
              refine lv_bipush (v := 32) hx hb dX10_whichWord_76 (by decide) ?_
              refine lv_icmp_ne (tgt := 101) hx hb dX10_whichWord_78 (by decide) (fun c38 => ?_) (fun c38 => ?_)
              · have q39 : ¬ x36.toInt = 32 := ti_ne c38
                refine lv_iload hx hb dX10_whichWord_101 (lv_at hl 2 rfl) ?_
                refine lv_aload_n hx hb dX10_whichWord_103 rfl (lv_at hl 5 rfl) ?_
                have k40 : M20 a0 2 = pa := (Fr.kp (k := 2) f23 hk_a0 rfl).trans k_pa
                refine tw_getk hx hb hW hown hK hS f_X10_25_8 hz_a0 hk_a0 (v := pa) k40 dX10_whichWord_104 ?_
                refine lv_icmp_lt (tgt := 138) hx hb dX10_whichWord_107 (by decide) (fun c41 => ?_) (fun c41 => ?_)
                · have q42 : x18.toInt < pa.toInt := ti_lt c41
                  have h43 : iv (-1) 999 x18 := iv_ltL (y := pa) h_x18 h_pa q42 (by decide)
                  refine tw_iinc (lv' := fun x46 => [(5, .int x46), (6, .int x36), (3, .int x17), (4, .int x18), (2, .int x1), (0, .ref (base + a0)), (1, .ref (tx.1 a1))]) (lo := 1) (hi := 57) hx hb dX10_whichWord_138 hl (k := 3) rfl h34 (by decide) ⟨by decide, by decide⟩ ⟨by decide, by decide⟩ (by decide) (fun _ => rfl) (fun x46 ls e45 h44 hl => ?_)
                  refine lv_goto (tgt := 57) hx hb dX10_whichWord_141 (by decide) ?_
                  have w47 : x25.toInt = x1.toInt := by
                    have := (h_ln).1; have := (h_ln).2; have := (h_pa).1; have := (h_pa).2; have := (h_x1).1; have := (h_x1).2; have := (h_x25).1; have := (h_x25).2; omega
                  have hm48 : 57 - x46.toInt < (n_20 : Int) := by
                    have := (h_ln).1; have := (h_ln).2; have := (h_pa).1; have := (h_pa).2; have := (h34).1; have := (h34).2; have := (h44).1; have := (h44).2; omega
                  exact ih_20 x17 x18 x46 x25 M20 R21 J22 H locs _ h_x17 (iv_mono h43 (by decide) (by decide)) (iv_mono h44 (by decide) (by decide)) h_x25 k26 w47 hm48 hS (lv_sub hl [2, 3, 0, 4, 5, 6] rfl)
                · have q49 : pa.toInt ≤ x18.toInt := ti_nlt c41
                  have h50 : iv 0 1000 x18 := iv_geL (y := pa) h_x18 h_pa q49 (by decide)
                  refine lv_iload hx hb dX10_whichWord_110 (lv_at hl 2 rfl) ?_
                  refine lv_iload_n hx hb dX10_whichWord_112 rfl (lv_at hl 4 rfl) ?_
                  refine lv_icmp_ge (tgt := 135) hx hb dX10_whichWord_113 (by decide) (fun c51 => ?_) (fun c51 => ?_)
                  · have q52 : x1.toInt ≤ x18.toInt := ti_le c51
                    refine lv_iconst (v := (-1)) hx hb dX10_whichWord_135 (by decide) ?_
                    refine lv_istore (lv' := [(4, .int (-1)), (6, .int x36), (3, .int x17), (5, .int x19), (2, .int x1), (0, .ref (base + a0)), (1, .ref (tx.1 a1))]) hx hb dX10_whichWord_136 hl (by decide) rfl (fun ls hl => ?_)
                    refine tw_iinc (lv' := fun x55 => [(5, .int x55), (4, .int (-1)), (6, .int x36), (3, .int x17), (2, .int x1), (0, .ref (base + a0)), (1, .ref (tx.1 a1))]) (lo := 1) (hi := 57) hx hb dX10_whichWord_138 hl (k := 3) rfl h34 (by decide) ⟨by decide, by decide⟩ ⟨by decide, by decide⟩ (by decide) (fun _ => rfl) (fun x55 ls e54 h53 hl => ?_)
                    refine lv_goto (tgt := 57) hx hb dX10_whichWord_141 (by decide) ?_
                    have w56 : x25.toInt = x1.toInt := by
                      have := (h_ln).1; have := (h_ln).2; have := (h_pa).1; have := (h_pa).2; have := (h_x1).1; have := (h_x1).2; have := (h_x25).1; have := (h_x25).2; omega
                    have hm57 : 57 - x55.toInt < (n_20 : Int) := by
                      have := (h_ln).1; have := (h_ln).2; have := (h_pa).1; have := (h_pa).2; have := (h34).1; have := (h34).2; have := (h53).1; have := (h53).2; omega
                    exact ih_20 x17 (-1) x55 x25 M20 R21 J22 H locs _ h_x17 (iv_mono (iv_c (c := (-1)) (n := (-1)) (by decide)) (by decide) (by decide)) (iv_mono h53 (by decide) (by decide)) h_x25 k26 w56 hm57 hS (lv_sub hl [3, 1, 0, 4, 5, 6] rfl)
                  · have q58 : x18.toInt < x1.toInt := ti_nle c51
                    have h59 : iv 0 999 x18 := iv_ltL (y := x1) h50 h_x1 q58 (by decide)
                    have h60 : iv 1 1000 x1 := iv_gtL (y := x18) h_x1 h50 q58 (by decide)
                    refine lv_aload_n hx hb dX10_whichWord_116 rfl (lv_at hl 5 rfl) ?_
                    have k61 : R21 a0 0 = some tb := (Fr.kp (k := 0) g24 hk_a0 rfl).trans k_tb
                    refine tw_getrk hx hb hW hown hK hS f_X10_9_8 hz_a0 hk_a0 (b := tb) k61 dX10_whichWord_117 ?_
                    refine lv_iload hx hb dX10_whichWord_120 (lv_at hl 2 rfl) ?_
                    have h62 : iv 0 399 x18 := by
                      have := (h_ln).1; have := (h_ln).2; have := (h_pa).1; have := (h_pa).2; have := (h59).1; have := (h59).2; exact ⟨by omega, by omega⟩
                    refine tw_bald hx hb hK hS hz_tb hk_tb hn_tb h62 ⟨by decide, by decide⟩ dX10_whichWord_122 (fun x65 k64 => ?_)
                    have h63 := iv_any x65
                    refine lv_iload hx hb dX10_whichWord_123 (lv_at hl 0 rfl) ?_
                    refine lv_icmp_ne (tgt := 135) hx hb dX10_whichWord_125 (by decide) (fun c66 => ?_) (fun c66 => ?_)
                    · have q67 : ¬ x65.toInt = x36.toInt := ti_ne c66
                      refine lv_iconst (v := (-1)) hx hb dX10_whichWord_135 (by decide) ?_
                      refine lv_istore (lv' := [(4, .int (-1)), (6, .int x36), (3, .int x17), (5, .int x19), (2, .int x1), (0, .ref (base + a0)), (1, .ref (tx.1 a1))]) hx hb dX10_whichWord_136 hl (by decide) rfl (fun ls hl => ?_)
                      refine tw_iinc (lv' := fun x70 => [(5, .int x70), (4, .int (-1)), (6, .int x36), (3, .int x17), (2, .int x1), (0, .ref (base + a0)), (1, .ref (tx.1 a1))]) (lo := 1) (hi := 57) hx hb dX10_whichWord_138 hl (k := 3) rfl h34 (by decide) ⟨by decide, by decide⟩ ⟨by decide, by decide⟩ (by decide) (fun _ => rfl) (fun x70 ls e69 h68 hl => ?_)
                      refine lv_goto (tgt := 57) hx hb dX10_whichWord_141 (by decide) ?_
                      have w71 : x25.toInt = x1.toInt := by
                        have := (h_ln).1; have := (h_ln).2; have := (h_pa).1; have := (h_pa).2; have := (h60).1; have := (h60).2; have := (h_x25).1; have := (h_x25).2; omega
                      have hm72 : 57 - x70.toInt < (n_20 : Int) := by
                        have := (h_ln).1; have := (h_ln).2; have := (h_pa).1; have := (h_pa).2; have := (h34).1; have := (h34).2; have := (h68).1; have := (h68).2; omega
                      exact ih_20 x17 (-1) x70 x25 M20 R21 J22 H locs _ h_x17 (iv_mono (iv_c (c := (-1)) (n := (-1)) (by decide)) (by decide) (by decide)) (iv_mono h68 (by decide) (by decide)) h_x25 k26 w71 hm72 hS (lv_sub hl [3, 1, 0, 4, 5, 6] rfl)
                    · have q73 : x65.toInt = x36.toInt := ti_eq c66
                      refine lv_iload hx hb dX10_whichWord_128 (lv_at hl 2 rfl) ?_
                      refine lv_iconst (v := 1) hx hb dX10_whichWord_130 (by decide) ?_
                      refine tw_iadd (lo := 1) (hi := 400) hx hb h62 (iv_c (c := 1) (n := 1) (by decide)) ⟨by decide, by decide⟩ ⟨by decide, by decide⟩ dX10_whichWord_131 (fun x76 e75 h74 => ?_)
                      have e75 : x76.toInt = x18.toInt + 1 := e75
                      refine lv_goto (tgt := 136) hx hb dX10_whichWord_132 (by decide) ?_
                      refine lv_istore (lv' := [(4, .int x76), (6, .int x36), (3, .int x17), (5, .int x19), (2, .int x1), (0, .ref (base + a0)), (1, .ref (tx.1 a1))]) hx hb dX10_whichWord_136 hl (by decide) rfl (fun ls hl => ?_)
                      refine tw_iinc (lv' := fun x79 => [(5, .int x79), (4, .int x76), (6, .int x36), (3, .int x17), (2, .int x1), (0, .ref (base + a0)), (1, .ref (tx.1 a1))]) (lo := 1) (hi := 57) hx hb dX10_whichWord_138 hl (k := 3) rfl h34 (by decide) ⟨by decide, by decide⟩ ⟨by decide, by decide⟩ (by decide) (fun _ => rfl) (fun x79 ls e78 h77 hl => ?_)
                      refine lv_goto (tgt := 57) hx hb dX10_whichWord_141 (by decide) ?_
                      have w80 : x25.toInt = x1.toInt := by
                        have := (h_ln).1; have := (h_ln).2; have := (h_pa).1; have := (h_pa).2; have := (h60).1; have := (h60).2; have := (h_x25).1; have := (h_x25).2; omega
                      have hm81 : 57 - x79.toInt < (n_20 : Int) := by
                        have := (h_ln).1; have := (h_ln).2; have := (h_pa).1; have := (h_pa).2; have := (h34).1; have := (h34).2; have := (h77).1; have := (h77).2; omega
                      exact ih_20 x17 x76 x79 x25 M20 R21 J22 H locs _ h_x17 (iv_mono h74 (by decide) (by decide)) (iv_mono h77 (by decide) (by decide)) h_x25 k26 w80 hm81 hS (lv_sub hl [3, 1, 0, 4, 5, 6] rfl)
              · have q82 : x36.toInt = 32 := ti_eq c38
                have h83 : iv 32 32 x36 := ⟨by have := (h_x36).1; have := ((iv_c (c := 32) (n := 32) (by decide))).1; omega, by have := (h_x36).2; have := ((iv_c (c := 32) (n := 32) (by decide))).2; omega⟩
                refine lv_iload hx hb dX10_whichWord_81 (lv_at hl 2 rfl) ?_
                refine lv_iload_n hx hb dX10_whichWord_83 rfl (lv_at hl 4 rfl) ?_
                refine lv_icmp_ne (tgt := 89) hx hb dX10_whichWord_84 (by decide) (fun c84 => ?_) (fun c84 => ?_)
                · have q85 : ¬ x18.toInt = x1.toInt := ti_ne c84
                  refine tw_iincw (lv' := fun x87 => [(3, .int x87), (6, .int x36), (4, .int x18), (5, .int x19), (2, .int x1), (0, .ref (base + a0)), (1, .ref (tx.1 a1))]) hx hb dX10_whichWord_89 hl (k := 1) rfl (by decide) (fun _ => rfl) (fun x87 ls hl => ?_)
                  have h86 := iv_any x87
                  refine lv_aload_n hx hb dX10_whichWord_92 rfl (lv_at hl 5 rfl) ?_
                  have k88 : M20 a0 2 = pa := (Fr.kp (k := 2) f23 hk_a0 rfl).trans k_pa
                  refine tw_getk hx hb hW hown hK hS f_X10_25_8 hz_a0 hk_a0 (v := pa) k88 dX10_whichWord_93 ?_
                  refine lv_istore (lv' := [(4, .int pa), (3, .int x87), (6, .int x36), (5, .int x19), (2, .int x1), (0, .ref (base + a0)), (1, .ref (tx.1 a1))]) hx hb dX10_whichWord_96 hl (by decide) rfl (fun ls hl => ?_)
                  refine lv_goto (tgt := 138) hx hb dX10_whichWord_98 (by decide) ?_
                  refine tw_iinc (lv' := fun x91 => [(5, .int x91), (4, .int pa), (3, .int x87), (6, .int x36), (2, .int x1), (0, .ref (base + a0)), (1, .ref (tx.1 a1))]) (lo := 1) (hi := 57) hx hb dX10_whichWord_138 hl (k := 3) rfl h34 (by decide) ⟨by decide, by decide⟩ ⟨by decide, by decide⟩ (by decide) (fun _ => rfl) (fun x91 ls e90 h89 hl => ?_)
                  refine lv_goto (tgt := 57) hx hb dX10_whichWord_141 (by decide) ?_
                  have w92 : x25.toInt = x1.toInt := by
                    have := (h_ln).1; have := (h_ln).2; have := (h_pa).1; have := (h_pa).2; have := (h_x1).1; have := (h_x1).2; have := (h_x25).1; have := (h_x25).2; omega
                  have hm93 : 57 - x91.toInt < (n_20 : Int) := by
                    have := (h_ln).1; have := (h_ln).2; have := (h_pa).1; have := (h_pa).2; have := (h34).1; have := (h34).2; have := (h89).1; have := (h89).2; omega
                  exact ih_20 x87 pa x91 x25 M20 R21 J22 H locs _ h86 (iv_mono h_pa (by decide) (by decide)) (iv_mono h89 (by decide) (by decide)) h_x25 k26 w92 hm93 hS (lv_sub hl [2, 1, 0, 4, 5, 6] rfl)
                · have q94 : x18.toInt = x1.toInt := ti_eq c84
                  have h95 : iv 0 1000 x18 := ⟨by have := (h_x18).1; have := (h_x1).1; omega, by have := (h_x18).2; have := (h_x1).2; omega⟩
                  refine lv_iload_n hx hb dX10_whichWord_87 rfl (lv_at hl 1 rfl) ?_
                  have q96 : (pa.toInt ≤ x25.toInt ∧ (x25.toInt ≤ ln.toInt ∨ x25.toInt = pa.toInt)) := by
                    have := (h_ln).1; have := (h_ln).2; have := (h_pa).1; have := (h_pa).2; have := (h_x1).1; have := (h_x1).2; have := (h_x25).1; have := (h_x25).2; omega
                  exact tw_endi hx hb hr hlocks hK hT hS hQ (⟨h_x17, ⟨x25, k26, h_x25, q96⟩⟩) dX10_whichWord_88
        have w97 : x1.toInt = x1.toInt := by
          have := (h_ln).1; have := (h_ln).2; have := (h_pa).1; have := (h_pa).2; have := (h_x1).1; have := (h_x1).2; omega
        have hm98 : 57 - (0 : Int32).toInt < (((58 : Nat) : Int) : Int) := by
          have := (h_ln).1; have := (h_ln).2; have := (h_pa).1; have := (h_pa).2; have : (0 : Int32).toInt = 0 := (by decide); omega
        exact W57_20 58 0 pa 0 x1 M15 R9 J10 H locs _ (iv_mono (iv_c (c := 0) (n := 0) (by decide)) (by decide) (by decide)) (iv_mono h_pa (by decide) (by decide)) (iv_mono (iv_c (c := 0) (n := 0) (by decide)) (by decide) (by decide)) h_x1 k13 w97 hm98 hS (lv_sub hl [2, 1, 0, 3, 4, 5] rfl)
      refine lv_icmp_ge (tgt := 41) hx hb dX10_whichWord_10 (by decide) (fun c99 => ?_) (fun c99 => ?_)
      · have q100 : ln.toInt ≤ x1.toInt := ti_le c99
        have w101 : pa.toInt ≤ x1.toInt ∧ (x1.toInt ≤ ln.toInt ∨ x1.toInt = pa.toInt) := by
          have := (h_ln).1; have := (h_ln).2; have := (h_pa).1; have := (h_pa).2; have := (h_x1).1; have := (h_x1).2; omega
        exact J41_8  M2 R3 J4 H locs _ w101 hS hl
      · have q102 : x1.toInt < ln.toInt := ti_nle c99
        have h103 : iv 0 399 x1 := iv_ltL (y := ln) h_x1 h_ln q102 (by decide)
        have h104 : iv 1 400 ln := iv_gtL (y := x1) h_ln h_x1 q102 (by decide)
        refine lv_aload_n hx hb dX10_whichWord_13 rfl (lv_at hl 1 rfl) ?_
        have k105 : R3 a0 0 = some tb := (Fr.kp (k := 0) g6 hk_a0 rfl).trans k_tb
        refine tw_getrk hx hb hW hown hK hS f_X10_9_8 hz_a0 hk_a0 (b := tb) k105 dX10_whichWord_14 ?_
        refine lv_iload_n hx hb dX10_whichWord_17 rfl (lv_at hl 0 rfl) ?_
        refine tw_bald hx hb hK hS hz_tb hk_tb hn_tb h103 ⟨by decide, by decide⟩ dX10_whichWord_18 (fun x108 k107 => ?_)
        have h106 := iv_any x108
        refine lv_bipush (v := 97) hx hb dX10_whichWord_19 (by decide) ?_
        refine lv_icmp_lt (tgt := 41) hx hb dX10_whichWord_21 (by decide) (fun c109 => ?_) (fun c109 => ?_)
        · have q110 : x108.toInt < 97 := ti_lt c109
          have h111 : iv (-2147483648) 96 x108 := iv_ltL (y := 97) h106 (iv_c (c := 97) (n := 97) (by decide)) q110 (by decide)
          have w112 : pa.toInt ≤ x1.toInt ∧ (x1.toInt ≤ ln.toInt ∨ x1.toInt = pa.toInt) := by
            have := (h104).1; have := (h104).2; have := (h_pa).1; have := (h_pa).2; have := (h103).1; have := (h103).2; omega
          exact J41_8  M2 R3 J4 H locs _ w112 hS hl
        · have q113 : 97 ≤ x108.toInt := ti_nlt c109
          have h114 : iv 97 2147483647 x108 := iv_geL (y := 97) h106 (iv_c (c := 97) (n := 97) (by decide)) q113 (by decide)
          refine lv_aload_n hx hb dX10_whichWord_24 rfl (lv_at hl 1 rfl) ?_
          have k115 : R3 a0 0 = some tb := (Fr.kp (k := 0) g6 hk_a0 rfl).trans k_tb
          refine tw_getrk hx hb hW hown hK hS f_X10_9_8 hz_a0 hk_a0 (b := tb) k115 dX10_whichWord_25 ?_
          refine lv_iload_n hx hb dX10_whichWord_28 rfl (lv_at hl 0 rfl) ?_
          refine tw_balk hx hb hK hS hz_tb hk_tb hn_tb h103 ⟨by decide, by decide⟩ (v := x108) k107 dX10_whichWord_29 ?_
          refine lv_bipush (v := 122) hx hb dX10_whichWord_30 (by decide) ?_
          refine lv_icmp_gt (tgt := 41) hx hb dX10_whichWord_32 (by decide) (fun c116 => ?_) (fun c116 => ?_)
          · have q117 : 122 < x108.toInt := ti_lt c116
            have h118 : iv 123 2147483647 x108 := iv_gtL (y := 122) h114 (iv_c (c := 122) (n := 122) (by decide)) q117 (by decide)
            have w119 : pa.toInt ≤ x1.toInt ∧ (x1.toInt ≤ ln.toInt ∨ x1.toInt = pa.toInt) := by
              have := (h104).1; have := (h104).2; have := (h_pa).1; have := (h_pa).2; have := (h103).1; have := (h103).2; omega
            exact J41_8  M2 R3 J4 H locs _ w119 hS hl
          · have q120 : x108.toInt ≤ 122 := ti_nlt c116
            have h121 : iv 97 122 x108 := iv_leL (y := 122) h114 (iv_c (c := 122) (n := 122) (by decide)) q120 (by decide)
            refine tw_iinc (lv' := fun x124 => [(2, .int x124), (0, .ref (base + a0)), (1, .ref (tx.1 a1))]) (lo := 1) (hi := 400) hx hb dX10_whichWord_35 hl (k := 0) rfl h103 (by decide) ⟨by decide, by decide⟩ ⟨by decide, by decide⟩ (by decide) (fun _ => rfl) (fun x124 ls e123 h122 hl => ?_)
            refine lv_goto (tgt := 5) hx hb dX10_whichWord_38 (by decide) ?_
            have w125 : pa.toInt ≤ x124.toInt ∧ (x124.toInt ≤ ln.toInt ∨ x124.toInt = pa.toInt) := by
              have := (h104).1; have := (h104).2; have := (h_pa).1; have := (h_pa).2; have := (h103).1; have := (h103).2; have := (h122).1; have := (h122).2; omega
            have hm126 : 1000 - x124.toInt < (n_2 : Int) := by
              have := (h104).1; have := (h104).2; have := (h_pa).1; have := (h_pa).2; have := (h103).1; have := (h103).2; have := (h122).1; have := (h122).2; omega
            exact ih_2 x124 M2 R3 J4 H locs _ (iv_mono h122 (by decide) (by decide)) w125 hm126 hS hl
  have w127 : pa.toInt ≤ pa.toInt ∧ (pa.toInt ≤ ln.toInt ∨ pa.toInt = pa.toInt) := by
    have := (h_ln).1; have := (h_ln).2; have := (h_pa).1; have := (h_pa).2; omega
  have hm128 : 1000 - pa.toInt < (((1001 : Nat) : Int) : Int) := by
    have := (h_ln).1; have := (h_ln).2; have := (h_pa).1; have := (h_pa).2; omega
  exact W5_2 1001 pa Ma Ra Ja s.heap [] _ h_pa w127 hm128 hS hl
def Lt_X10_whichWord_1 : WL := [(3, 4, 5)]
def LRt_X10_whichWord_1 : WL := []
set_option maxRecDepth 100000 in
set_option maxHeartbeats 4000000 in
theorem t_X10_whichWord_1 (l : Launch) (D : va_G) (cy : Nat → ClassId) (tx : (Nat → Nat) × (Nat → Nat)) (base Z : Nat) (K N : Nat → Nat) (Ma : MT) (Ra : RT) (Ja : JT) (hTy : Ty Z K N Ma Ra) (a0 : Nat) (hz_a0 : a0 < Z) (hk_a0 : K a0 = 3) (a1 : Nat) (hi_a1 : a1 < 6) (tb : Nat) (k_tb : Ra a0 0 = some tb) (ln : Int32) (k_ln : Ma a0 1 = ln) (h_ln : iv 0 400 ln) (pa : Int32) (k_pa : Ma a0 2 = pa) (h_pa : iv 0 1000 pa) : Met l yX10_whichWord [Cond.code yX10_whichWord cX10_whichWord 7 (some .int)] (md_rm 6 0 0) (va_Pc [.ref (base + a0), .ref (tx.1 a1)] (md_U D cy tx base Z K N Ma Ra Ja)) (mQi D cy tx base (fun r u => TP Z K N Lt_X10_whichWord_1 LRt_X10_whichWord_1 Ma Ra u ∧ (iv (-2147483648) 2147483647 r ∧ (∃ x0 : Int32, u.2.2.2.1 a0 4 = x0 ∧ iv 0 1000 x0 ∧ ((pa.toInt ≤ x0.toInt ∧ (x0.toInt ≤ ln.toInt ∨ x0.toInt = pa.toInt))))))) 0 0 (fun q => base ≤ q) := by
  refine tw_ofW (L := Lt_X10_whichWord_1) (LR := LRt_X10_whichWord_1) (by decide) (Nat.le_of_ble_eq_true rfl) hTy ?_
  intro p e s m args below meth c Q ls hx hb hr hlocks hown hml hW hK hT hS hQ hl
  have hl : lv_has ls 7 [(0, .ref (base + a0)), (1, .ref (tx.1 a1))] := hl
  obtain ⟨hz_tb, hk_tb, hn_tb⟩ := hTy.refn hz_a0 hk_a0 (show rtR 3 0 = (13, 400, 1) from rfl) k_tb
  have hn_tb := hn_tb (by decide)
  refine lv_aload_n hx hb dX10_whichWord_0 rfl (lv_at hl 0 rfl) ?_
  refine tw_getk hx hb hW hown hK hS f_X10_25_2 hz_a0 hk_a0 (v := pa) k_pa dX10_whichWord_1 ?_
  refine lv_istore_n (lv' := [(2, .int pa), (0, .ref (base + a0)), (1, .ref (tx.1 a1))]) hx hb dX10_whichWord_4 rfl hl (by decide) rfl (fun ls hl => ?_)
  have W5_2 : ∀ (n_2 : Nat) (x1 : Int32) (M2 : MT) (R3 : RT) (J4 : JT) (H : Heap) (locs : List Loc) (ls : Array Slot) (h_x1 : iv 0 1000 x1) (w0_2 : pa.toInt ≤ x1.toInt ∧ (x1.toInt ≤ ln.toInt ∨ x1.toInt = pa.toInt)) (hm_2 : 1000 - x1.toInt < (n_2 : Int)) (hS : SB D cy base Z K N Lt_X10_whichWord_1 LRt_X10_whichWord_1 Ma Ra M2 R3 J4 s H locs) (hl : lv_has ls 7 [(2, .int x1), (0, .ref (base + a0)), (1, .ref (tx.1 a1))]), W p l e (md_rm 6 0 0) s m args below meth c H locs 0 0 Q (F0 m 5 ls []) := by
    intro n_2
    induction n_2 with
    | zero =>
      intro x1 M2 R3 J4 H locs ls h_x1 w0_2 hm_2 hS hl
      exfalso
      have := (h_ln).1; have := (h_ln).2; have := (h_pa).1; have := (h_pa).2; have := (h_x1).1; have := (h_x1).2; omega
    | succ n_2 ih_2 =>
      intro x1 M2 R3 J4 H locs ls h_x1 w0_2 hm_2 hS hl
      have f5 := hS.2.2.1
      have g6 := hS.2.2.2
      refine lv_iload_n hx hb dX10_whichWord_5 rfl (lv_at hl 0 rfl) ?_
      refine lv_aload_n hx hb dX10_whichWord_6 rfl (lv_at hl 1 rfl) ?_
      have k7 : M2 a0 1 = ln := (Fr.kp (k := 1) f5 hk_a0 rfl).trans k_ln
      refine tw_getk hx hb hW hown hK hS f_X10_21_2 hz_a0 hk_a0 (v := ln) k7 dX10_whichWord_7 ?_
      have J41_8 : ∀  (M8 : MT) (R9 : RT) (J10 : JT) (H : Heap) (locs : List Loc) (ls : Array Slot) (w0_8 : pa.toInt ≤ x1.toInt ∧ (x1.toInt ≤ ln.toInt ∨ x1.toInt = pa.toInt)) (hS : SB D cy base Z K N Lt_X10_whichWord_1 LRt_X10_whichWord_1 Ma Ra M8 R9 J10 s H locs) (hl : lv_has ls 7 [(2, .int x1), (0, .ref (base + a0)), (1, .ref (tx.1 a1))]), W p l e (md_rm 6 0 0) s m args below meth c H locs 0 0 Q (F0 m 41 ls []) := by
        intro  M8 R9 J10 H locs ls w0_8 hS hl
        have f11 := hS.2.2.1
        have g12 := hS.2.2.2
        refine lv_aload_n hx hb dX10_whichWord_41 rfl (lv_at hl 1 rfl) ?_
        refine lv_iload_n hx hb dX10_whichWord_42 rfl (lv_at hl 0 rfl) ?_
        refine tw_puti hx hb hW hown hK hS f_X10_35_2 hz_a0 hk_a0 rfl rfl (lo := 0) (hi := 1000) rfl h_x1 rfl dX10_whichWord_43 (fun H locs M15 hS k13 f14 => ?_)
        refine lv_iconst (v := 0) hx hb dX10_whichWord_46 (by decide) ?_
        refine lv_istore_n (lv' := [(3, .int 0), (2, .int x1), (0, .ref (base + a0)), (1, .ref (tx.1 a1))]) hx hb dX10_whichWord_47 rfl hl (by decide) rfl (fun ls hl => ?_)
        refine lv_aload_n hx hb dX10_whichWord_48 rfl (lv_at hl 2 rfl) ?_
        have k16 : M15 a0 2 = pa := ((Fr.kp (k := 2) f14 hk_a0 rfl).trans (Fr.kp (k := 2) f11 hk_a0 rfl)).trans k_pa
        refine tw_getk hx hb hW hown hK hS f_X10_25_2 hz_a0 hk_a0 (v := pa) k16 dX10_whichWord_49 ?_
        refine lv_istore (lv' := [(4, .int pa), (3, .int 0), (2, .int x1), (0, .ref (base + a0)), (1, .ref (tx.1 a1))]) hx hb dX10_whichWord_52 hl (by decide) rfl (fun ls hl => ?_)
        refine lv_iconst (v := 0) hx hb dX10_whichWord_54 (by decide) ?_
        refine lv_istore (lv' := [(5, .int 0), (4, .int pa), (3, .int 0), (2, .int x1), (0, .ref (base + a0)), (1, .ref (tx.1 a1))]) hx hb dX10_whichWord_55 hl (by decide) rfl (fun ls hl => ?_)
        have W57_20 : ∀ (n_20 : Nat) (x17 : Int32) (x18 : Int32) (x19 : Int32) (x25 : Int32) (M20 : MT) (R21 : RT) (J22 : JT) (H : Heap) (locs : List Loc) (ls : Array Slot) (h_x17 : iv (-2147483648) 2147483647 x17) (h_x18 : iv (-1) 1000 x18) (h_x19 : iv 0 57 x19) (h_x25 : iv 0 1000 x25) (k26 : M20 a0 4 = x25) (w0_20 : x25.toInt = x1.toInt) (hm_20 : 57 - x19.toInt < (n_20 : Int)) (hS : SB D cy base Z K N Lt_X10_whichWord_1 LRt_X10_whichWord_1 Ma Ra M20 R21 J22 s H locs) (hl : lv_has ls 7 [(3, .int x17), (4, .int x18), (5, .int x19), (2, .int x1), (0, .ref (base + a0)), (1, .ref (tx.1 a1))]), W p l e (md_rm 6 0 0) s m args below meth c H locs 0 0 Q (F0 m 57 ls []) := by
          intro n_20
          induction n_20 with
          | zero =>
            intro x17 x18 x19 x25 M20 R21 J22 H locs ls h_x17 h_x18 h_x19 h_x25 k26 w0_20 hm_20 hS hl
            exfalso
            have := (h_ln).1; have := (h_ln).2; have := (h_pa).1; have := (h_pa).2; have := (h_x19).1; have := (h_x19).2; omega
          | succ n_20 ih_20 =>
            intro x17 x18 x19 x25 M20 R21 J22 H locs ls h_x17 h_x18 h_x19 h_x25 k26 w0_20 hm_20 hS hl
            have f23 := hS.2.2.1
            have g24 := hS.2.2.2
            refine lv_iload hx hb dX10_whichWord_57 (lv_at hl 2 rfl) ?_
            refine lv_aload_n hx hb dX10_whichWord_59 rfl (lv_at hl 5 rfl) ?_
            refine md_goi hS.1 (md_runT (As := []) (rest := [.int x19]) hx hb hml hown hW hK hT hS.1 (c_length l D cy tx base Z K N M20 R21 J22 a1 hi_a1) s_X10_38 ⟨rfl, rfl, ⟨Nat.le_of_ble_eq_true rfl, Nat.le_of_ble_eq_true rfl⟩, ⟨Nat.le_of_ble_eq_true rfl, Nat.le_of_ble_eq_true rfl⟩⟩ hi_a1 rfl hl.1 rfl (Nat.le_of_ble_eq_true rfl) dX10_whichWord_60) (fun x27 u H locs E28 hG => ?_)
            obtain ⟨E28, rfl⟩ := E28
            replace hS := SB.same hS hG
            have h_x27 := str_len hi_a1 E28
            refine lv_icmp_ge (tgt := 144) hx hb dX10_whichWord_63 (by decide) (fun c29 => ?_) (fun c29 => ?_)
            · have q30 : x27.toInt ≤ x19.toInt := ti_le c29
              have h31 : iv 3 57 x19 := iv_geL (y := x27) h_x19 h_x27 q30 (by decide)
              refine lv_iconst (v := (-1)) hx hb dX10_whichWord_144 (by decide) ?_
              have q32 : (pa.toInt ≤ x25.toInt ∧ (x25.toInt ≤ ln.toInt ∨ x25.toInt = pa.toInt)) := by
                have := (h_ln).1; have := (h_ln).2; have := (h_pa).1; have := (h_pa).2; have := (h_x1).1; have := (h_x1).2; have := (h_x25).1; have := (h_x25).2; omega
              exact tw_endi hx hb hr hlocks hK hT hS hQ (⟨(iv_mono (iv_c (c := (-1)) (n := (-1)) (by decide)) (by decide) (by decide)), ⟨x25, k26, h_x25, q32⟩⟩) dX10_whichWord_145
            · have q33 : x19.toInt < x27.toInt := ti_nle c29
              have h34 : iv 0 56 x19 := iv_ltL (y := x27) h_x19 h_x27 q33 (by decide)
              refine lv_aload_n hx hb dX10_whichWord_66 rfl (lv_at hl 5 rfl) ?_
              refine lv_iload hx hb dX10_whichWord_67 (lv_at hl 2 rfl) ?_
              have q35 : x19 < Int32.ofNat (md_sl.getD a1 0) := by rw [← E28]; exact Int32.lt_iff_toInt_lt.mpr (by omega)
              refine md_goi hS.1 (md_runT (As := [.int x19]) (rest := []) hx hb hml hown hW hK hT hS.1 (c_charAt l D cy tx base Z K N M20 R21 J22 a1 hi_a1 x19 (ti_in (h34).1 (by have := str_n hi_a1; have := ti_lt q35; omega)) q35) s_X10_42 ⟨rfl, rfl, ⟨Nat.le_of_ble_eq_true rfl, Nat.le_of_ble_eq_true rfl⟩, ⟨Nat.le_of_ble_eq_true rfl, Nat.le_of_ble_eq_true rfl⟩⟩ hi_a1 rfl hl.1 rfl (Nat.le_of_ble_eq_true rfl) dX10_whichWord_69) (fun x36 u H locs E37 hG => ?_)
              obtain ⟨E37, rfl⟩ := E37
              replace hS := SB.same hS hG
              have h_x36 := iv_any x36
              refine lv_istore (lv' := [(6, .int x36), (3, .int x17), (4, .int x18), (5, .int x19), (2, .int x1), (0, .ref (base + a0)), (1, .ref (tx.1 a1))]) hx hb dX10_whichWord_72 hl (by decide) rfl (fun ls hl => ?_)
              refine lv_iload hx hb dX10_whichWord_74 (lv_at hl 0 rfl) ?_
              refine lv_bipush (v := 32) hx hb dX10_whichWord_76 (by decide) ?_
              refine lv_icmp_ne (tgt := 101) hx hb dX10_whichWord_78 (by decide) (fun c38 => ?_) (fun c38 => ?_)
              · have q39 : ¬ x36.toInt = 32 := ti_ne c38
                refine lv_iload hx hb dX10_whichWord_101 (lv_at hl 2 rfl) ?_
                refine lv_aload_n hx hb dX10_whichWord_103 rfl (lv_at hl 5 rfl) ?_
                have k40 : M20 a0 2 = pa := (Fr.kp (k := 2) f23 hk_a0 rfl).trans k_pa
                refine tw_getk hx hb hW hown hK hS f_X10_25_2 hz_a0 hk_a0 (v := pa) k40 dX10_whichWord_104 ?_
                refine lv_icmp_lt (tgt := 138) hx hb dX10_whichWord_107 (by decide) (fun c41 => ?_) (fun c41 => ?_)
                · have q42 : x18.toInt < pa.toInt := ti_lt c41
                  have h43 : iv (-1) 999 x18 := iv_ltL (y := pa) h_x18 h_pa q42 (by decide)
                  refine tw_iinc (lv' := fun x46 => [(5, .int x46), (6, .int x36), (3, .int x17), (4, .int x18), (2, .int x1), (0, .ref (base + a0)), (1, .ref (tx.1 a1))]) (lo := 1) (hi := 57) hx hb dX10_whichWord_138 hl (k := 3) rfl h34 (by decide) ⟨by decide, by decide⟩ ⟨by decide, by decide⟩ (by decide) (fun _ => rfl) (fun x46 ls e45 h44 hl => ?_)
                  refine lv_goto (tgt := 57) hx hb dX10_whichWord_141 (by decide) ?_
                  have w47 : x25.toInt = x1.toInt := by
                    have := (h_ln).1; have := (h_ln).2; have := (h_pa).1; have := (h_pa).2; have := (h_x1).1; have := (h_x1).2; have := (h_x25).1; have := (h_x25).2; omega
                  have hm48 : 57 - x46.toInt < (n_20 : Int) := by
                    have := (h_ln).1; have := (h_ln).2; have := (h_pa).1; have := (h_pa).2; have := (h34).1; have := (h34).2; have := (h44).1; have := (h44).2; omega
                  exact ih_20 x17 x18 x46 x25 M20 R21 J22 H locs _ h_x17 (iv_mono h43 (by decide) (by decide)) (iv_mono h44 (by decide) (by decide)) h_x25 k26 w47 hm48 hS (lv_sub hl [2, 3, 0, 4, 5, 6] rfl)
                · have q49 : pa.toInt ≤ x18.toInt := ti_nlt c41
                  have h50 : iv 0 1000 x18 := iv_geL (y := pa) h_x18 h_pa q49 (by decide)
                  refine lv_iload hx hb dX10_whichWord_110 (lv_at hl 2 rfl) ?_
                  refine lv_iload_n hx hb dX10_whichWord_112 rfl (lv_at hl 4 rfl) ?_
                  refine lv_icmp_ge (tgt := 135) hx hb dX10_whichWord_113 (by decide) (fun c51 => ?_) (fun c51 => ?_)
                  · have q52 : x1.toInt ≤ x18.toInt := ti_le c51
                    refine lv_iconst (v := (-1)) hx hb dX10_whichWord_135 (by decide) ?_
                    refine lv_istore (lv' := [(4, .int (-1)), (6, .int x36), (3, .int x17), (5, .int x19), (2, .int x1), (0, .ref (base + a0)), (1, .ref (tx.1 a1))]) hx hb dX10_whichWord_136 hl (by decide) rfl (fun ls hl => ?_)
                    refine tw_iinc (lv' := fun x55 => [(5, .int x55), (4, .int (-1)), (6, .int x36), (3, .int x17), (2, .int x1), (0, .ref (base + a0)), (1, .ref (tx.1 a1))]) (lo := 1) (hi := 57) hx hb dX10_whichWord_138 hl (k := 3) rfl h34 (by decide) ⟨by decide, by decide⟩ ⟨by decide, by decide⟩ (by decide) (fun _ => rfl) (fun x55 ls e54 h53 hl => ?_)
                    refine lv_goto (tgt := 57) hx hb dX10_whichWord_141 (by decide) ?_
                    have w56 : x25.toInt = x1.toInt := by
                      have := (h_ln).1; have := (h_ln).2; have := (h_pa).1; have := (h_pa).2; have := (h_x1).1; have := (h_x1).2; have := (h_x25).1; have := (h_x25).2; omega
                    have hm57 : 57 - x55.toInt < (n_20 : Int) := by
                      have := (h_ln).1; have := (h_ln).2; have := (h_pa).1; have := (h_pa).2; have := (h34).1; have := (h34).2; have := (h53).1; have := (h53).2; omega
                    exact ih_20 x17 (-1) x55 x25 M20 R21 J22 H locs _ h_x17 (iv_mono (iv_c (c := (-1)) (n := (-1)) (by decide)) (by decide) (by decide)) (iv_mono h53 (by decide) (by decide)) h_x25 k26 w56 hm57 hS (lv_sub hl [3, 1, 0, 4, 5, 6] rfl)
                  · have q58 : x18.toInt < x1.toInt := ti_nle c51
                    have h59 : iv 0 999 x18 := iv_ltL (y := x1) h50 h_x1 q58 (by decide)
                    have h60 : iv 1 1000 x1 := iv_gtL (y := x18) h_x1 h50 q58 (by decide)
                    refine lv_aload_n hx hb dX10_whichWord_116 rfl (lv_at hl 5 rfl) ?_
                    have k61 : R21 a0 0 = some tb := (Fr.kp (k := 0) g24 hk_a0 rfl).trans k_tb
                    refine tw_getrk hx hb hW hown hK hS f_X10_9_2 hz_a0 hk_a0 (b := tb) k61 dX10_whichWord_117 ?_
                    refine lv_iload hx hb dX10_whichWord_120 (lv_at hl 2 rfl) ?_
                    have h62 : iv 0 399 x18 := by
                      have := (h_ln).1; have := (h_ln).2; have := (h_pa).1; have := (h_pa).2; have := (h59).1; have := (h59).2; exact ⟨by omega, by omega⟩
                    refine tw_bald hx hb hK hS hz_tb hk_tb hn_tb h62 ⟨by decide, by decide⟩ dX10_whichWord_122 (fun x65 k64 => ?_)
                    have h63 := iv_any x65
                    refine lv_iload hx hb dX10_whichWord_123 (lv_at hl 0 rfl) ?_
                    refine lv_icmp_ne (tgt := 135) hx hb dX10_whichWord_125 (by decide) (fun c66 => ?_) (fun c66 => ?_)
                    · have q67 : ¬ x65.toInt = x36.toInt := ti_ne c66
                      refine lv_iconst (v := (-1)) hx hb dX10_whichWord_135 (by decide) ?_
                      refine lv_istore (lv' := [(4, .int (-1)), (6, .int x36), (3, .int x17), (5, .int x19), (2, .int x1), (0, .ref (base + a0)), (1, .ref (tx.1 a1))]) hx hb dX10_whichWord_136 hl (by decide) rfl (fun ls hl => ?_)
                      refine tw_iinc (lv' := fun x70 => [(5, .int x70), (4, .int (-1)), (6, .int x36), (3, .int x17), (2, .int x1), (0, .ref (base + a0)), (1, .ref (tx.1 a1))]) (lo := 1) (hi := 57) hx hb dX10_whichWord_138 hl (k := 3) rfl h34 (by decide) ⟨by decide, by decide⟩ ⟨by decide, by decide⟩ (by decide) (fun _ => rfl) (fun x70 ls e69 h68 hl => ?_)
                      refine lv_goto (tgt := 57) hx hb dX10_whichWord_141 (by decide) ?_
                      have w71 : x25.toInt = x1.toInt := by
                        have := (h_ln).1; have := (h_ln).2; have := (h_pa).1; have := (h_pa).2; have := (h60).1; have := (h60).2; have := (h_x25).1; have := (h_x25).2; omega
                      have hm72 : 57 - x70.toInt < (n_20 : Int) := by
                        have := (h_ln).1; have := (h_ln).2; have := (h_pa).1; have := (h_pa).2; have := (h34).1; have := (h34).2; have := (h68).1; have := (h68).2; omega
                      exact ih_20 x17 (-1) x70 x25 M20 R21 J22 H locs _ h_x17 (iv_mono (iv_c (c := (-1)) (n := (-1)) (by decide)) (by decide) (by decide)) (iv_mono h68 (by decide) (by decide)) h_x25 k26 w71 hm72 hS (lv_sub hl [3, 1, 0, 4, 5, 6] rfl)
                    · have q73 : x65.toInt = x36.toInt := ti_eq c66
                      refine lv_iload hx hb dX10_whichWord_128 (lv_at hl 2 rfl) ?_
                      refine lv_iconst (v := 1) hx hb dX10_whichWord_130 (by decide) ?_
                      refine tw_iadd (lo := 1) (hi := 400) hx hb h62 (iv_c (c := 1) (n := 1) (by decide)) ⟨by decide, by decide⟩ ⟨by decide, by decide⟩ dX10_whichWord_131 (fun x76 e75 h74 => ?_)
                      have e75 : x76.toInt = x18.toInt + 1 := e75
                      refine lv_goto (tgt := 136) hx hb dX10_whichWord_132 (by decide) ?_
                      refine lv_istore (lv' := [(4, .int x76), (6, .int x36), (3, .int x17), (5, .int x19), (2, .int x1), (0, .ref (base + a0)), (1, .ref (tx.1 a1))]) hx hb dX10_whichWord_136 hl (by decide) rfl (fun ls hl => ?_)
                      refine tw_iinc (lv' := fun x79 => [(5, .int x79), (4, .int x76), (6, .int x36), (3, .int x17), (2, .int x1), (0, .ref (base + a0)), (1, .ref (tx.1 a1))]) (lo := 1) (hi := 57) hx hb dX10_whichWord_138 hl (k := 3) rfl h34 (by decide) ⟨by decide, by decide⟩ ⟨by decide, by decide⟩ (by decide) (fun _ => rfl) (fun x79 ls e78 h77 hl => ?_)
                      refine lv_goto (tgt := 57) hx hb dX10_whichWord_141 (by decide) ?_
                      have w80 : x25.toInt = x1.toInt := by
                        have := (h_ln).1; have := (h_ln).2; have := (h_pa).1; have := (h_pa).2; have := (h60).1; have := (h60).2; have := (h_x25).1; have := (h_x25).2; omega
                      have hm81 : 57 - x79.toInt < (n_20 : Int) := by
                        have := (h_ln).1; have := (h_ln).2; have := (h_pa).1; have := (h_pa).2; have := (h34).1; have := (h34).2; have := (h77).1; have := (h77).2; omega
                      exact ih_20 x17 x76 x79 x25 M20 R21 J22 H locs _ h_x17 (iv_mono h74 (by decide) (by decide)) (iv_mono h77 (by decide) (by decide)) h_x25 k26 w80 hm81 hS (lv_sub hl [3, 1, 0, 4, 5, 6] rfl)
              · have q82 : x36.toInt = 32 := ti_eq c38
                have h83 : iv 32 32 x36 := ⟨by have := (h_x36).1; have := ((iv_c (c := 32) (n := 32) (by decide))).1; omega, by have := (h_x36).2; have := ((iv_c (c := 32) (n := 32) (by decide))).2; omega⟩
                refine lv_iload hx hb dX10_whichWord_81 (lv_at hl 2 rfl) ?_
                refine lv_iload_n hx hb dX10_whichWord_83 rfl (lv_at hl 4 rfl) ?_
                refine lv_icmp_ne (tgt := 89) hx hb dX10_whichWord_84 (by decide) (fun c84 => ?_) (fun c84 => ?_)
                · have q85 : ¬ x18.toInt = x1.toInt := ti_ne c84
                  refine tw_iincw (lv' := fun x87 => [(3, .int x87), (6, .int x36), (4, .int x18), (5, .int x19), (2, .int x1), (0, .ref (base + a0)), (1, .ref (tx.1 a1))]) hx hb dX10_whichWord_89 hl (k := 1) rfl (by decide) (fun _ => rfl) (fun x87 ls hl => ?_)
                  have h86 := iv_any x87
                  refine lv_aload_n hx hb dX10_whichWord_92 rfl (lv_at hl 5 rfl) ?_
                  have k88 : M20 a0 2 = pa := (Fr.kp (k := 2) f23 hk_a0 rfl).trans k_pa
                  refine tw_getk hx hb hW hown hK hS f_X10_25_2 hz_a0 hk_a0 (v := pa) k88 dX10_whichWord_93 ?_
                  refine lv_istore (lv' := [(4, .int pa), (3, .int x87), (6, .int x36), (5, .int x19), (2, .int x1), (0, .ref (base + a0)), (1, .ref (tx.1 a1))]) hx hb dX10_whichWord_96 hl (by decide) rfl (fun ls hl => ?_)
                  refine lv_goto (tgt := 138) hx hb dX10_whichWord_98 (by decide) ?_
                  refine tw_iinc (lv' := fun x91 => [(5, .int x91), (4, .int pa), (3, .int x87), (6, .int x36), (2, .int x1), (0, .ref (base + a0)), (1, .ref (tx.1 a1))]) (lo := 1) (hi := 57) hx hb dX10_whichWord_138 hl (k := 3) rfl h34 (by decide) ⟨by decide, by decide⟩ ⟨by decide, by decide⟩ (by decide) (fun _ => rfl) (fun x91 ls e90 h89 hl => ?_)
                  refine lv_goto (tgt := 57) hx hb dX10_whichWord_141 (by decide) ?_
                  have w92 : x25.toInt = x1.toInt := by
                    have := (h_ln).1; have := (h_ln).2; have := (h_pa).1; have := (h_pa).2; have := (h_x1).1; have := (h_x1).2; have := (h_x25).1; have := (h_x25).2; omega
                  have hm93 : 57 - x91.toInt < (n_20 : Int) := by
                    have := (h_ln).1; have := (h_ln).2; have := (h_pa).1; have := (h_pa).2; have := (h34).1; have := (h34).2; have := (h89).1; have := (h89).2; omega
                  exact ih_20 x87 pa x91 x25 M20 R21 J22 H locs _ h86 (iv_mono h_pa (by decide) (by decide)) (iv_mono h89 (by decide) (by decide)) h_x25 k26 w92 hm93 hS (lv_sub hl [2, 1, 0, 4, 5, 6] rfl)
                · have q94 : x18.toInt = x1.toInt := ti_eq c84
                  have h95 : iv 0 1000 x18 := ⟨by have := (h_x18).1; have := (h_x1).1; omega, by have := (h_x18).2; have := (h_x1).2; omega⟩
                  refine lv_iload_n hx hb dX10_whichWord_87 rfl (lv_at hl 1 rfl) ?_
                  have q96 : (pa.toInt ≤ x25.toInt ∧ (x25.toInt ≤ ln.toInt ∨ x25.toInt = pa.toInt)) := by
                    have := (h_ln).1; have := (h_ln).2; have := (h_pa).1; have := (h_pa).2; have := (h_x1).1; have := (h_x1).2; have := (h_x25).1; have := (h_x25).2; omega
                  exact tw_endi hx hb hr hlocks hK hT hS hQ (⟨h_x17, ⟨x25, k26, h_x25, q96⟩⟩) dX10_whichWord_88
        have w97 : x1.toInt = x1.toInt := by
          have := (h_ln).1; have := (h_ln).2; have := (h_pa).1; have := (h_pa).2; have := (h_x1).1; have := (h_x1).2; omega
        have hm98 : 57 - (0 : Int32).toInt < (((58 : Nat) : Int) : Int) := by
          have := (h_ln).1; have := (h_ln).2; have := (h_pa).1; have := (h_pa).2; have : (0 : Int32).toInt = 0 := (by decide); omega
        exact W57_20 58 0 pa 0 x1 M15 R9 J10 H locs _ (iv_mono (iv_c (c := 0) (n := 0) (by decide)) (by decide) (by decide)) (iv_mono h_pa (by decide) (by decide)) (iv_mono (iv_c (c := 0) (n := 0) (by decide)) (by decide) (by decide)) h_x1 k13 w97 hm98 hS (lv_sub hl [2, 1, 0, 3, 4, 5] rfl)
      refine lv_icmp_ge (tgt := 41) hx hb dX10_whichWord_10 (by decide) (fun c99 => ?_) (fun c99 => ?_)
      · have q100 : ln.toInt ≤ x1.toInt := ti_le c99
        have w101 : pa.toInt ≤ x1.toInt ∧ (x1.toInt ≤ ln.toInt ∨ x1.toInt = pa.toInt) := by
          have := (h_ln).1; have := (h_ln).2; have := (h_pa).1; have := (h_pa).2; have := (h_x1).1; have := (h_x1).2; omega
        exact J41_8  M2 R3 J4 H locs _ w101 hS hl
      · have q102 : x1.toInt < ln.toInt := ti_nle c99
        have h103 : iv 0 399 x1 := iv_ltL (y := ln) h_x1 h_ln q102 (by decide)
        have h104 : iv 1 400 ln := iv_gtL (y := x1) h_ln h_x1 q102 (by decide)
        refine lv_aload_n hx hb dX10_whichWord_13 rfl (lv_at hl 1 rfl) ?_
        have k105 : R3 a0 0 = some tb := (Fr.kp (k := 0) g6 hk_a0 rfl).trans k_tb
        refine tw_getrk hx hb hW hown hK hS f_X10_9_2 hz_a0 hk_a0 (b := tb) k105 dX10_whichWord_14 ?_
        refine lv_iload_n hx hb dX10_whichWord_17 rfl (lv_at hl 0 rfl) ?_
        refine tw_bald hx hb hK hS hz_tb hk_tb hn_tb h103 ⟨by decide, by decide⟩ dX10_whichWord_18 (fun x108 k107 => ?_)
        have h106 := iv_any x108
        refine lv_bipush (v := 97) hx hb dX10_whichWord_19 (by decide) ?_
        refine lv_icmp_lt (tgt := 41) hx hb dX10_whichWord_21 (by decide) (fun c109 => ?_) (fun c109 => ?_)
        · have q110 : x108.toInt < 97 := ti_lt c109
          have h111 : iv (-2147483648) 96 x108 := iv_ltL (y := 97) h106 (iv_c (c := 97) (n := 97) (by decide)) q110 (by decide)
          have w112 : pa.toInt ≤ x1.toInt ∧ (x1.toInt ≤ ln.toInt ∨ x1.toInt = pa.toInt) := by
            have := (h104).1; have := (h104).2; have := (h_pa).1; have := (h_pa).2; have := (h103).1; have := (h103).2; omega
          exact J41_8  M2 R3 J4 H locs _ w112 hS hl
        · have q113 : 97 ≤ x108.toInt := ti_nlt c109
          have h114 : iv 97 2147483647 x108 := iv_geL (y := 97) h106 (iv_c (c := 97) (n := 97) (by decide)) q113 (by decide)
          refine lv_aload_n hx hb dX10_whichWord_24 rfl (lv_at hl 1 rfl) ?_
          have k115 : R3 a0 0 = some tb := (Fr.kp (k := 0) g6 hk_a0 rfl).trans k_tb
          refine tw_getrk hx hb hW hown hK hS f_X10_9_2 hz_a0 hk_a0 (b := tb) k115 dX10_whichWord_25 ?_
          refine lv_iload_n hx hb dX10_whichWord_28 rfl (lv_at hl 0 rfl) ?_
          refine tw_balk hx hb hK hS hz_tb hk_tb hn_tb h103 ⟨by decide, by decide⟩ (v := x108) k107 dX10_whichWord_29 ?_
          refine lv_bipush (v := 122) hx hb dX10_whichWord_30 (by decide) ?_
          refine lv_icmp_gt (tgt := 41) hx hb dX10_whichWord_32 (by decide) (fun c116 => ?_) (fun c116 => ?_)
          · have q117 : 122 < x108.toInt := ti_lt c116
            have h118 : iv 123 2147483647 x108 := iv_gtL (y := 122) h114 (iv_c (c := 122) (n := 122) (by decide)) q117 (by decide)
            have w119 : pa.toInt ≤ x1.toInt ∧ (x1.toInt ≤ ln.toInt ∨ x1.toInt = pa.toInt) := by
              have := (h104).1; have := (h104).2; have := (h_pa).1; have := (h_pa).2; have := (h103).1; have := (h103).2; omega
            exact J41_8  M2 R3 J4 H locs _ w119 hS hl
          · have q120 : x108.toInt ≤ 122 := ti_nlt c116
            have h121 : iv 97 122 x108 := iv_leL (y := 122) h114 (iv_c (c := 122) (n := 122) (by decide)) q120 (by decide)
            refine tw_iinc (lv' := fun x124 => [(2, .int x124), (0, .ref (base + a0)), (1, .ref (tx.1 a1))]) (lo := 1) (hi := 400) hx hb dX10_whichWord_35 hl (k := 0) rfl h103 (by decide) ⟨by decide, by decide⟩ ⟨by decide, by decide⟩ (by decide) (fun _ => rfl) (fun x124 ls e123 h122 hl => ?_)
            refine lv_goto (tgt := 5) hx hb dX10_whichWord_38 (by decide) ?_
            have w125 : pa.toInt ≤ x124.toInt ∧ (x124.toInt ≤ ln.toInt ∨ x124.toInt = pa.toInt) := by
              have := (h104).1; have := (h104).2; have := (h_pa).1; have := (h_pa).2; have := (h103).1; have := (h103).2; have := (h122).1; have := (h122).2; omega
            have hm126 : 1000 - x124.toInt < (n_2 : Int) := by
              have := (h104).1; have := (h104).2; have := (h_pa).1; have := (h_pa).2; have := (h103).1; have := (h103).2; have := (h122).1; have := (h122).2; omega
            exact ih_2 x124 M2 R3 J4 H locs _ (iv_mono h122 (by decide) (by decide)) w125 hm126 hS hl
  have w127 : pa.toInt ≤ pa.toInt ∧ (pa.toInt ≤ ln.toInt ∨ pa.toInt = pa.toInt) := by
    have := (h_ln).1; have := (h_ln).2; have := (h_pa).1; have := (h_pa).2; omega
  have hm128 : 1000 - pa.toInt < (((1001 : Nat) : Int) : Int) := by
    have := (h_ln).1; have := (h_ln).2; have := (h_pa).1; have := (h_pa).2; omega
  exact W5_2 1001 pa Ma Ra Ja s.heap [] _ h_pa w127 hm128 hS hl
def Lt_X11_refuse : WL := [(14, 0, 2000000)]
def LRt_X11_refuse : WL := []
set_option maxRecDepth 100000 in
set_option maxHeartbeats 4000000 in
theorem t_X11_refuse (l : Launch) (D : va_G) (cy : Nat → ClassId) (tx : (Nat → Nat) × (Nat → Nat)) (base Z : Nat) (K N : Nat → Nat) (Ma : MT) (Ra : RT) (Ja : JT) (hTy : Ty Z K N Ma Ra) (a0 : Nat) (hz_a0 : a0 < Z) (hk_a0 : K a0 = 11) (a1 : Int32) (h_a1 : iv 0 1 a1) : Met l yX11_refuse [Cond.code yX11_refuse cX11_refuse 2 (some .int)] (md_rm 1 0 0) (va_Pc [.ref (base + a0), .int a1] (md_U D cy tx base Z K N Ma Ra Ja)) (mQi D cy tx base (fun r u => TP Z K N Lt_X11_refuse LRt_X11_refuse Ma Ra u ∧ (iv (-2) (-2) r))) 0 0 (fun q => base ≤ q) := by
  refine tw_ofW (L := Lt_X11_refuse) (LR := LRt_X11_refuse) (by decide) (Nat.le_of_ble_eq_true rfl) hTy ?_
  intro p e s m args below meth c Q ls hx hb hr hlocks hown hml hW hK hT hS hQ hl
  have hl : lv_has ls 2 [(0, .ref (base + a0)), (1, .int a1)] := hl
  refine lv_iload_n hx hb dX11_refuse_0 rfl (lv_at hl 1 rfl) ?_
  refine lv_if_lt (tgt := 23) hx hb dX11_refuse_1 (by decide) (fun c1 => False.elim (by have q : a1.toInt < 0 := ti_lt c1; have := (h_a1).1; have := (h_a1).2; omega)) (fun c1 => ?_)
  have q2 : 0 ≤ a1.toInt := ti_nlt c1
  refine lv_iload_n hx hb dX11_refuse_4 rfl (lv_at hl 1 rfl) ?_
  refine lv_aload_n hx hb dX11_refuse_5 rfl (lv_at hl 0 rfl) ?_
  refine tw_getr hx hb hW hown hK hS f_X11_13_10 hz_a0 hk_a0 (t := 14) (n := 2) rfl dX11_refuse_6 (fun b3 k4 hz_b3 hk_b3 hn_b3 => ?_)
  have hn_b3 := hn_b3 (by decide)
  refine tw_alenk hx hb hK hS hz_b3 hk_b3 (by decide) hn_b3 (v := 2) (by decide) dX11_refuse_9 ?_
  refine lv_icmp_ge (tgt := 23) hx hb dX11_refuse_10 (by decide) (fun c5 => False.elim (by have q : 2 ≤ a1.toInt := ti_le c5; have := (h_a1).1; have := (h_a1).2; omega)) (fun c5 => ?_)
  have q6 : a1.toInt < 2 := ti_nle c5
  refine lv_aload_n hx hb dX11_refuse_13 rfl (lv_at hl 0 rfl) ?_
  refine tw_getrk hx hb hW hown hK hS f_X11_13_10 hz_a0 hk_a0 (b := b3) k4 dX11_refuse_14 ?_
  refine lv_iload_n hx hb dX11_refuse_17 rfl (lv_at hl 1 rfl) ?_
  refine lv_dup2_11 hx hb dX11_refuse_18 rfl rfl ?_
  refine tw_iald hx hb hK hS hz_b3 hk_b3 (Or.inl rfl) hn_b3 (lo := (-2147483648)) (hi := 2147483647) h_a1 ⟨by decide, by decide⟩ rg_u14 dX11_refuse_19 (fun x9 k8 h7 => ?_)
  refine lv_iconst (v := 1) hx hb dX11_refuse_20 (by decide) ?_
  refine lv_iadd hx hb dX11_refuse_21 ?_
  refine tw_top (fun x11 => ?_)
  have h10 := iv_any x11
  refine tw_iast hx hb hK hS hz_b3 hk_b3 (Or.inl rfl) hn_b3 h_a1 ⟨by decide, by decide⟩ h10 (rg_s14 ⟨by decide, by decide⟩) (jl := 0) (jh := 1999999) ⟨by decide, by decide⟩ rfl dX11_refuse_22 (fun H locs M14 hS k12 f13 => ?_)
  refine lv_bipush (v := (-2)) hx hb dX11_refuse_23 (by decide) ?_
  exact tw_endi hx hb hr hlocks hK hT hS hQ ((iv_c (c := (-2)) (n := (-2)) (by decide))) dX11_refuse_25
def Lt_X9_hasMember : WL := []
def LRt_X9_hasMember : WL := []
set_option maxRecDepth 100000 in
set_option maxHeartbeats 4000000 in
theorem t_X9_hasMember (l : Launch) (D : va_G) (cy : Nat → ClassId) (tx : (Nat → Nat) × (Nat → Nat)) (base Z : Nat) (K N : Nat → Nat) (Ma : MT) (Ra : RT) (Ja : JT) (hTy : Ty Z K N Ma Ra) (a0 : Nat) (hz_a0 : a0 < Z) (hk_a0 : K a0 = 10) (a1 : Int32) (h_a1 : iv (-2147483648) 2147483647 a1) : Met l yX9_hasMember [Cond.code yX9_hasMember cX9_hasMember 2 (some .boolean)] (md_rm 1 0 0) (va_Pc [.ref (base + a0), .int a1] (md_U D cy tx base Z K N Ma Ra Ja)) (mQi D cy tx base (fun r u => TP Z K N Lt_X9_hasMember LRt_X9_hasMember Ma Ra u ∧ (iv 0 1 r ∧ (¬ r = 0 → iv 0 9 a1)))) 0 0 (fun q => base ≤ q) := by
  refine tw_ofW (L := Lt_X9_hasMember) (LR := LRt_X9_hasMember) (by decide) (Nat.le_of_ble_eq_true rfl) hTy ?_
  intro p e s m args below meth c Q ls hx hb hr hlocks hown hml hW hK hT hS hQ hl
  have hl : lv_has ls 2 [(0, .ref (base + a0)), (1, .int a1)] := hl
  refine lv_iload_n hx hb dX9_hasMember_0 rfl (lv_at hl 1 rfl) ?_
  refine lv_if_lt (tgt := 16) hx hb dX9_hasMember_1 (by decide) (fun c1 => ?_) (fun c1 => ?_)
  · have q2 : a1.toInt < 0 := ti_lt c1
    have h3 : iv (-2147483648) (-1) a1 := iv_ltL (y := 0) h_a1 (iv_c (c := 0) (n := 0) (by decide)) q2 (by decide)
    refine lv_iconst (v := 0) hx hb dX9_hasMember_16 (by decide) ?_
    exact tw_endz hx hb hr hlocks hK hT hS hQ rfl (⟨(iv_mono (iv_c (c := 0) (n := 0) (by decide)) (by decide) (by decide)), (fun h => absurd rfl h)⟩) dX9_hasMember_17
  · have q4 : 0 ≤ a1.toInt := ti_nlt c1
    have h5 : iv 0 2147483647 a1 := iv_geL (y := 0) h_a1 (iv_c (c := 0) (n := 0) (by decide)) q4 (by decide)
    refine lv_iload_n hx hb dX9_hasMember_4 rfl (lv_at hl 1 rfl) ?_
    refine lv_aload_n hx hb dX9_hasMember_5 rfl (lv_at hl 0 rfl) ?_
    refine tw_geti hx hb hW hown hK hS f_X9_33_9 hz_a0 hk_a0 (lo := (-2147483648)) (hi := 10) rfl dX9_hasMember_6 (fun x8 k7 h6 => ?_)
    refine lv_icmp_ge (tgt := 16) hx hb dX9_hasMember_9 (by decide) (fun c9 => ?_) (fun c9 => ?_)
    · have q10 : x8.toInt ≤ a1.toInt := ti_le c9
      refine lv_iconst (v := 0) hx hb dX9_hasMember_16 (by decide) ?_
      exact tw_endz hx hb hr hlocks hK hT hS hQ rfl (⟨(iv_mono (iv_c (c := 0) (n := 0) (by decide)) (by decide) (by decide)), (fun h => absurd rfl h)⟩) dX9_hasMember_17
    · have q11 : a1.toInt < x8.toInt := ti_nle c9
      have h12 : iv 0 9 a1 := iv_ltL (y := x8) h5 h6 q11 (by decide)
      have h13 : iv 1 10 x8 := iv_gtL (y := a1) h6 h5 q11 (by decide)
      refine lv_iconst (v := 1) hx hb dX9_hasMember_12 (by decide) ?_
      refine lv_goto (tgt := 17) hx hb dX9_hasMember_13 (by decide) ?_
      exact tw_endz hx hb hr hlocks hK hT hS hQ rfl (⟨(iv_mono (iv_c (c := 1) (n := 1) (by decide)) (by decide) (by decide)), (fun _ => h12)⟩) dX9_hasMember_17
def Lt_X9_isPresent : WL := []
def LRt_X9_isPresent : WL := []
set_option maxRecDepth 100000 in
set_option maxHeartbeats 4000000 in
theorem t_X9_isPresent (l : Launch) (D : va_G) (cy : Nat → ClassId) (tx : (Nat → Nat) × (Nat → Nat)) (base Z : Nat) (K N : Nat → Nat) (Ma : MT) (Ra : RT) (Ja : JT) (hTy : Ty Z K N Ma Ra) (a0 : Nat) (hz_a0 : a0 < Z) (hk_a0 : K a0 = 10) (a1 : Int32) (h_a1 : iv 0 9 a1) : Met l yX9_isPresent [Cond.code yX9_isPresent cX9_isPresent 2 (some .boolean)] (md_rm 1 0 0) (va_Pc [.ref (base + a0), .int a1] (md_U D cy tx base Z K N Ma Ra Ja)) (mQi D cy tx base (fun r u => TP Z K N Lt_X9_isPresent LRt_X9_isPresent Ma Ra u ∧ (iv 0 1 r))) 0 0 (fun q => base ≤ q) := by
  refine tw_ofW (L := Lt_X9_isPresent) (LR := LRt_X9_isPresent) (by decide) (Nat.le_of_ble_eq_true rfl) hTy ?_
  intro p e s m args below meth c Q ls hx hb hr hlocks hown hml hW hK hT hS hQ hl
  have hl : lv_has ls 2 [(0, .ref (base + a0)), (1, .int a1)] := hl
  refine lv_aload_n hx hb dX9_isPresent_0 rfl (lv_at hl 0 rfl) ?_
  refine tw_geti hx hb hW hown hK hS f_X9_40_9 hz_a0 hk_a0 (lo := (-2147483648)) (hi := 2147483647) rfl dX9_isPresent_1 (fun x3 k2 h1 => ?_)
  refine lv_iload_n hx hb dX9_isPresent_4 rfl (lv_at hl 1 rfl) ?_
  refine lv_ishr hx hb dX9_isPresent_5 ?_
  refine tw_top (fun x5 => ?_)
  have h4 := iv_any x5
  refine lv_iconst (v := 1) hx hb dX9_isPresent_6 (by decide) ?_
  refine tw_iand (hi := 1) hx hb (iv_mono (iv_c (c := 1) (n := 1) (by decide)) (lo := 0) (hi := 1) (by decide) (by decide)) (by decide) dX9_isPresent_7 (fun x8 h6 => ?_)
  refine lv_iconst (v := 1) hx hb dX9_isPresent_8 (by decide) ?_
  refine lv_icmp_ne (tgt := 16) hx hb dX9_isPresent_9 (by decide) (fun c9 => ?_) (fun c9 => ?_)
  · have q10 : ¬ x8.toInt = 1 := ti_ne c9
    have h11 : iv 0 0 x8 := ⟨by have := (h6).1; have := ((iv_c (c := 1) (n := 1) (by decide))).1; have := ((iv_c (c := 1) (n := 1) (by decide))).2; omega, by have := (h6).2; have := ((iv_c (c := 1) (n := 1) (by decide))).1; have := ((iv_c (c := 1) (n := 1) (by decide))).2; omega⟩
    refine lv_iconst (v := 0) hx hb dX9_isPresent_16 (by decide) ?_
    exact tw_endz hx hb hr hlocks hK hT hS hQ rfl ((iv_mono (iv_c (c := 0) (n := 0) (by decide)) (by decide) (by decide))) dX9_isPresent_17
  · have q12 : x8.toInt = 1 := ti_eq c9
    have h13 : iv 1 1 x8 := ⟨by have := (h6).1; have := ((iv_c (c := 1) (n := 1) (by decide))).1; omega, by have := (h6).2; have := ((iv_c (c := 1) (n := 1) (by decide))).2; omega⟩
    refine lv_iconst (v := 1) hx hb dX9_isPresent_12 (by decide) ?_
    refine lv_goto (tgt := 17) hx hb dX9_isPresent_13 (by decide) ?_
    exact tw_endz hx hb hr hlocks hK hT hS hQ rfl ((iv_mono (iv_c (c := 1) (n := 1) (by decide)) (by decide) (by decide))) dX9_isPresent_17
def Lt_X11_attends : WL := [(10, 2, 3), (14, 0, 2000000), (20, 0, 2000000)]
def LRt_X11_attends : WL := []
set_option maxRecDepth 100000 in
set_option maxHeartbeats 4000000 in
theorem t_X11_attends (l : Launch) (D : va_G) (cy : Nat → ClassId) (tx : (Nat → Nat) × (Nat → Nat)) (base Z : Nat) (K N : Nat → Nat) (Ma : MT) (Ra : RT) (Ja : JT) (hTy : Ty Z K N Ma Ra) (a0 : Nat) (hz_a0 : a0 < Z) (hk_a0 : K a0 = 11) (a1 : Int32) (h_a1 : iv (-2147483648) 2147483647 a1) (a2 : Int32) (h_a2 : iv (-2147483648) 2147483647 a2) : Met l yX11_attends [Cond.code yX11_attends cX11_attends 3 (some .int)] (md_rm 2 0 0) (va_Pc [.ref (base + a0), .int a1, .int a2] (md_U D cy tx base Z K N Ma Ra Ja)) (mQi D cy tx base (fun r u => TP Z K N Lt_X11_attends LRt_X11_attends Ma Ra u ∧ (iv (-2) 63 r))) 0 0 (fun q => base ≤ q) := by
  refine tw_ofW (L := Lt_X11_attends) (LR := LRt_X11_attends) (by decide) (Nat.le_of_ble_eq_true rfl) hTy ?_
  intro p e s m args below meth c Q ls hx hb hr hlocks hown hml hW hK hT hS hQ hl
  have hl : lv_has ls 3 [(0, .ref (base + a0)), (1, .int a1), (2, .int a2)] := hl
  refine lv_aload_n hx hb dX11_attends_0 rfl (lv_at hl 0 rfl) ?_
  refine tw_getr hx hb hW hown hK hS f_X11_31_10 hz_a0 hk_a0 (t := 10) (n := 0) rfl dX11_attends_1 (fun b1 k2 hz_b1 hk_b1 hn_b1 => ?_)
  refine lv_iload_n hx hb dX11_attends_4 rfl (lv_at hl 1 rfl) ?_
  refine tw_goi hS (md_runV (As := [.int a1]) (rest := []) hx hb hml hown hW hK hT hS.1 (t_X9_hasMember l D cy tx base Z K N Ma Ra Ja hS.2.1 b1 hz_b1 hk_b1 a1 h_a1) s_X11_132 ⟨rfl, rfl, ⟨Nat.le_of_ble_eq_true rfl, Nat.le_of_ble_eq_true rfl⟩, ⟨Nat.le_of_ble_eq_true rfl, Nat.le_of_ble_eq_true rfl⟩⟩ hz_b1 hk_b1 (by decide) rfl rfl hl.1 rfl (Nat.le_of_ble_eq_true rfl) dX11_attends_5) rfl rfl (fun x9 H locs M6 R7 J5 hS f3 g4 E8 => ?_)
  have eM6 := Fr.nil f3 rfl
  subst eM6
  have eR7 := Fr.nil g4 rfl
  subst eR7
  obtain ⟨h_x9, p10⟩ := E8
  refine lv_if_eq (tgt := 23) hx hb dX11_attends_8 (by decide) (fun c11 => ?_) (fun c11 => ?_)
  · have q12 : x9.toInt = 0 := ti_eq c11
    have h13 : iv 0 0 x9 := ⟨by have := (h_x9).1; have := ((iv_c (c := 0) (n := 0) (by decide))).1; omega, by have := (h_x9).2; have := ((iv_c (c := 0) (n := 0) (by decide))).2; omega⟩
    refine lv_aload_n hx hb dX11_attends_23 rfl (lv_at hl 0 rfl) ?_
    refine lv_iconst (v := 0) hx hb dX11_attends_24 (by decide) ?_
    refine tw_goi hS (md_runV (As := [.int 0]) (rest := []) hx hb hml hown hW hK hT hS.1 (t_X11_refuse l D cy tx base Z K N Ma Ra J5 hS.2.1 a0 hz_a0 hk_a0 0 (iv_mono (iv_c (c := 0) (n := 0) (by decide)) (by decide) (by decide))) s_X11_158 ⟨rfl, rfl, ⟨Nat.le_of_ble_eq_true rfl, Nat.le_of_ble_eq_true rfl⟩, ⟨Nat.le_of_ble_eq_true rfl, Nat.le_of_ble_eq_true rfl⟩⟩ hz_a0 hk_a0 (by decide) rfl rfl hl.1 rfl (Nat.le_of_ble_eq_true rfl) dX11_attends_25) rfl rfl (fun x20 H locs M17 R18 J16 hS f14 g15 E19 => ?_)
    have eR18 := Fr.nil g15 rfl
    subst eR18
    have h_x20 := E19
    clear E19
    exact tw_endi hx hb hr hlocks hK hT hS hQ ((iv_mono h_x20 (by decide) (by decide))) dX11_attends_28
  · have q21 : ¬ x9.toInt = 0 := ti_ne c11
    have h22 : iv 1 1 x9 := ⟨by have := (h_x9).1; have := ((iv_c (c := 0) (n := 0) (by decide))).1; have := ((iv_c (c := 0) (n := 0) (by decide))).2; omega, by have := (h_x9).2; have := ((iv_c (c := 0) (n := 0) (by decide))).1; have := ((iv_c (c := 0) (n := 0) (by decide))).2; omega⟩
    have h23 : iv 0 9 a1 := ⟨by have := (p10 c11).1; have := (h_a1).1; omega, by have := (p10 c11).2; have := (h_a1).2; omega⟩
    refine lv_aload_n hx hb dX11_attends_11 rfl (lv_at hl 0 rfl) ?_
    refine tw_getrk hx hb hW hown hK hS f_X11_31_10 hz_a0 hk_a0 (b := b1) k2 dX11_attends_12 ?_
    refine lv_iload_n hx hb dX11_attends_15 rfl (lv_at hl 1 rfl) ?_
    refine tw_goi hS (md_runV (As := [.int a1]) (rest := []) hx hb hml hown hW hK hT hS.1 (t_X9_isPresent l D cy tx base Z K N Ma Ra J5 hS.2.1 b1 hz_b1 hk_b1 a1 h23) s_X11_162 ⟨rfl, rfl, ⟨Nat.le_of_ble_eq_true rfl, Nat.le_of_ble_eq_true rfl⟩, ⟨Nat.le_of_ble_eq_true rfl, Nat.le_of_ble_eq_true rfl⟩⟩ hz_b1 hk_b1 (by decide) rfl rfl hl.1 rfl (Nat.le_of_ble_eq_true rfl) dX11_attends_16) rfl rfl (fun x30 H locs M27 R28 J26 hS f24 g25 E29 => ?_)
    have eM27 := Fr.nil f24 rfl
    subst eM27
    have eR28 := Fr.nil g25 rfl
    subst eR28
    have h_x30 := E29
    clear E29
    refine lv_iload_n hx hb dX11_attends_19 rfl (lv_at hl 2 rfl) ?_
    refine lv_icmp_ne (tgt := 29) hx hb dX11_attends_20 (by decide) (fun c31 => ?_) (fun c31 => ?_)
    · have q32 : ¬ x30.toInt = a2.toInt := ti_ne c31
      refine lv_aload_n hx hb dX11_attends_29 rfl (lv_at hl 0 rfl) ?_
      refine tw_getrk hx hb hW hown hK hS f_X11_31_10 hz_a0 hk_a0 (b := b1) k2 dX11_attends_30 ?_
      refine lv_dup hx hb dX11_attends_33 rfl ?_
      refine tw_geti hx hb hW hown hK hS f_X11_142_9 hz_b1 hk_b1 (lo := (-2147483648)) (hi := 2147483647) rfl dX11_attends_34 (fun x35 k34 h33 => ?_)
      refine lv_iconst (v := 1) hx hb dX11_attends_37 (by decide) ?_
      refine lv_iload_n hx hb dX11_attends_38 rfl (lv_at hl 1 rfl) ?_
      refine lv_ishl hx hb dX11_attends_39 ?_
      refine tw_top (fun x37 => ?_)
      have h36 := iv_any x37
      refine lv_ixor hx hb dX11_attends_40 ?_
      refine tw_top (fun x39 => ?_)
      have h38 := iv_any x39
      refine tw_puti hx hb hW hown hK hS f_X11_142_9 hz_b1 hk_b1 rfl rfl (lo := (-2147483648)) (hi := 2147483647) rfl h38 rfl dX11_attends_41 (fun H locs M42 hS k40 f41 => ?_)
      refine lv_aload_n hx hb dX11_attends_44 rfl (lv_at hl 0 rfl) ?_
      refine tw_getrk hx hb hW hown hK hS f_X11_31_10 hz_a0 hk_a0 (b := b1) k2 dX11_attends_45 ?_
      refine tw_getr hx hb hW hown hK hS f_X11_136_9 hz_b1 hk_b1 (t := 20) (n := 10) rfl dX11_attends_48 (fun b43 k44 hz_b43 hk_b43 hn_b43 => ?_)
      have hn_b43 := hn_b43 (by decide)
      refine lv_iload_n hx hb dX11_attends_51 rfl (lv_at hl 1 rfl) ?_
      refine lv_iconst (v := 1) hx hb dX11_attends_52 (by decide) ?_
      refine tw_iast hx hb hK hS hz_b43 hk_b43 (Or.inr (by decide)) hn_b43 h23 ⟨by decide, by decide⟩ (iv_c (c := 1) (n := 1) (by decide)) (rg_s20 ⟨by decide, by decide⟩) (jl := 0) (jh := 1999999) ⟨by decide, by decide⟩ rfl dX11_attends_53 (fun H locs M47 hS k45 f46 => ?_)
      refine lv_aload_n hx hb dX11_attends_54 rfl (lv_at hl 0 rfl) ?_
      refine tw_getrk hx hb hW hown hK hS f_X11_31_10 hz_a0 hk_a0 (b := b1) k2 dX11_attends_55 ?_
      have k48 : M47 b1 2 = x39 := (Fr.kp (k := 2) f46 hk_b1 rfl).trans k40
      refine tw_getk hx hb hW hown hK hS f_X11_142_9 hz_b1 hk_b1 (v := x39) k48 dX11_attends_58 ?_
      refine tw_goi hS (md_runS (As := [.int x39]) (rest := []) hx hb hml hown hW hK hT hS.1 (t_J6_bitCount_0f7a4 l D cy tx base Z K N M47 Ra J26 hS.2.1 x39 h38) s_X11_165 ⟨rfl, rfl, ⟨Nat.le_of_ble_eq_true rfl, Nat.le_of_ble_eq_true rfl⟩, ⟨Nat.le_of_ble_eq_true rfl, Nat.le_of_ble_eq_true rfl⟩⟩ rfl hl.1 rfl (Nat.le_of_ble_eq_true rfl) dX11_attends_61) rfl rfl (fun x55 H locs M52 R53 J51 hS f49 g50 E54 => ?_)
      have eM52 := Fr.nil f49 rfl
      subst eM52
      have eR53 := Fr.nil g50 rfl
      subst eR53
      have h_x55 := E54
      clear E54
      exact tw_endi hx hb hr hlocks hK hT hS hQ ((iv_mono h_x55 (by decide) (by decide))) dX11_attends_64
    · have q56 : x30.toInt = a2.toInt := ti_eq c31
      have h57 : iv 0 1 a2 := ⟨by have := (h_x30).1; have := (h_a2).1; omega, by have := (h_x30).2; have := (h_a2).2; omega⟩
      refine lv_aload_n hx hb dX11_attends_23 rfl (lv_at hl 0 rfl) ?_
      refine lv_iconst (v := 0) hx hb dX11_attends_24 (by decide) ?_
      refine tw_goi hS (md_runV (As := [.int 0]) (rest := []) hx hb hml hown hW hK hT hS.1 (t_X11_refuse l D cy tx base Z K N Ma Ra J26 hS.2.1 a0 hz_a0 hk_a0 0 (iv_mono (iv_c (c := 0) (n := 0) (by decide)) (by decide) (by decide))) s_X11_158 ⟨rfl, rfl, ⟨Nat.le_of_ble_eq_true rfl, Nat.le_of_ble_eq_true rfl⟩, ⟨Nat.le_of_ble_eq_true rfl, Nat.le_of_ble_eq_true rfl⟩⟩ hz_a0 hk_a0 (by decide) rfl rfl hl.1 rfl (Nat.le_of_ble_eq_true rfl) dX11_attends_25) rfl rfl (fun x64 H locs M61 R62 J60 hS f58 g59 E63 => ?_)
      have eR62 := Fr.nil g59 rfl
      subst eR62
      have h_x64 := E63
      clear E63
      exact tw_endi hx hb hr hlocks hK hT hS hQ ((iv_mono h_x64 (by decide) (by decide))) dX11_attends_28
