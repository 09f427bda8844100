def Lt_X8_read : WL := [(9, 1, 5), (9, 6, 8), (14, 0, 2000000)]
def LRt_X8_read : WL := [(9, 0, 1)]
set_option maxRecDepth 100000 in
set_option maxHeartbeats 4000000 in
theorem t_X8_read (l : Launch) (D : va_G) (cy : Nat → ClassId) (tx : (Nat → Nat) × (Nat → Nat)) (base Z : Nat) (K N : Nat → Nat) (Ma : MT) (Ra : RT) (Ja : JT) (hTy : Ty Z K N Ma Ra) (a0 : Nat) (hz_a0 : a0 < Z) (hk_a0 : K a0 = 9) (a1 : Nat) (hz_a1 : a1 < Z) (hk_a1 : K a1 = 13) (hn_a1 : N a1 = 400) (a2 : Int32) (h_a2 : iv 0 400 a2) : Met l yX8_read [Cond.code yX8_read cX8_read 7 (some .int)] (md_rm 33 0 0) (va_Pc [.ref (base + a0), .ref (base + a1), .int a2] (md_U D cy tx base Z K N Ma Ra Ja)) (mQi D cy tx base (fun r u => TP Z K N Lt_X8_read LRt_X8_read Ma Ra u ∧ (iv (-2147483648) 2147483647 r))) 0 0 (fun q => base ≤ q) := by
  refine tw_ofW (L := Lt_X8_read) (LR := LRt_X8_read) (by decide) (Nat.le_of_ble_eq_true rfl) hTy ?_
  intro p e s m args below meth c Q ls hx hb hr hlocks hown hml hW hK hT hS hQ hl
  have hl : lv_has ls 7 [(0, .ref (base + a0)), (1, .ref (base + a1)), (2, .int a2)] := hl
  refine lv_aload_n hx hb dX8_read_0 rfl (lv_at hl 0 rfl) ?_
  refine lv_aload_n hx hb dX8_read_1 rfl (lv_at hl 1 rfl) ?_
  refine lv_iload_n hx hb dX8_read_2 rfl (lv_at hl 2 rfl) ?_
  refine tw_gov hS (md_runU (As := [.ref (base + a1), .int a2]) (rest := []) hx hb hml hown hW hK hT hS.1 (t_X10_begin_1 l D cy tx base Z K N Ma Ra Ja hS.2.1 a0 hz_a0 hk_a0 a1 hz_a1 hk_a1 hn_a1 a2 h_a2) s_X8_15_X8 ⟨rfl, rfl, ⟨Nat.le_of_ble_eq_true rfl, Nat.le_of_ble_eq_true rfl⟩, ⟨Nat.le_of_ble_eq_true rfl, Nat.le_of_ble_eq_true rfl⟩⟩ hz_a0 hk_a0 (by decide) rfl rfl hl.1 rfl (Nat.le_of_ble_eq_true rfl) dX8_read_3) rfl rfl (fun H locs M4 R5 J3 hS f1 g2 E6 => ?_)
  obtain ⟨p7, p8⟩ := E6
  have k9 : R5 a0 0 = some a1 := p7
  obtain ⟨x11, x13, x15, k16, k17, k18, h10, h12, h14, q19⟩ := p8
  have k16 : M4 a0 1 = x11 := k16
  have k17 : M4 a0 2 = x13 := k17
  have k18 : M4 a0 3 = x15 := k18
  refine lv_aload_n hx hb dX8_read_6 rfl (lv_at hl 0 rfl) ?_
  refine lv_iconst (v := 0) hx hb dX8_read_7 (by decide) ?_
  refine tw_puti hx hb hW hown hK hS f_X8_19_8 hz_a0 hk_a0 rfl rfl (lo := 0) (hi := 400) rfl (iv_mono (iv_c (c := 0) (n := 0) (by decide)) (by decide) (by decide)) rfl dX8_read_8 (fun H locs M22 hS k20 f21 => ?_)
  refine lv_aload_n hx hb dX8_read_11 rfl (lv_at hl 0 rfl) ?_
  refine lv_iconst (v := 0) hx hb dX8_read_12 (by decide) ?_
  refine tw_puti hx hb hW hown hK hS f_X8_23_8 hz_a0 hk_a0 rfl rfl (lo := (-2147483648)) (hi := 2147483647) rfl (iv_mono (iv_c (c := 0) (n := 0) (by decide)) (by decide) (by decide)) rfl dX8_read_13 (fun H locs M25 hS k23 f24 => ?_)
  refine lv_iconst (v := 1) hx hb dX8_read_16 (by decide) ?_
  refine lv_istore_n (lv' := [(3, .int 1), (0, .ref (base + a0)), (1, .ref (base + a1)), (2, .int a2)]) hx hb dX8_read_17 rfl hl (by decide) rfl (fun ls hl => ?_)
  refine lv_iconst (v := 0) hx hb dX8_read_18 (by decide) ?_
  refine lv_istore (lv' := [(4, .int 0), (3, .int 1), (0, .ref (base + a0)), (1, .ref (base + a1)), (2, .int a2)]) hx hb dX8_read_19 hl (by decide) rfl (fun ls hl => ?_)
  have W21_28 : ∀ (n_28 : Nat) (x26 : Int32) (x27 : Int32) (x33 : Int32) (x35 : Int32) (x37 : Int32) (M28 : MT) (R29 : RT) (J30 : JT) (H : Heap) (locs : List Loc) (ls : Array Slot) (h_x26 : iv 0 1 x26) (h_x27 : iv 0 13 x27) (h_x33 : iv 0 400 x33) (k34 : M28 a0 1 = x33) (h_x35 : iv 0 1000 x35) (k36 : M28 a0 2 = x35) (h_x37 : iv (-2147483648) 2147483647 x37) (k38 : M28 a0 3 = x37) (k39 : R29 a0 0 = some a1) (w0_28 : x26.toInt = 0 ∨ (x37.toInt = 0 ∧ x35.toInt ≤ x33.toInt)) (hm_28 : 13 - x27.toInt < (n_28 : Int)) (hS : SB D cy base Z K N Lt_X8_read LRt_X8_read Ma Ra M28 R29 J30 s H locs) (hl : lv_has ls 7 [(3, .int x26), (4, .int x27), (0, .ref (base + a0)), (1, .ref (base + a1)), (2, .int a2)]), W p l e (md_rm 33 0 0) s m args below meth c H locs 0 0 Q (F0 m 21 ls []) := by
    intro n_28
    induction n_28 with
    | zero =>
      intro x26 x27 x33 x35 x37 M28 R29 J30 H locs ls h_x26 h_x27 h_x33 k34 h_x35 k36 h_x37 k38 k39 w0_28 hm_28 hS hl
      exfalso
      have := (h_a2).1; have := (h_a2).2; have := (h_x27).1; have := (h_x27).2; omega
    | succ n_28 ih_28 =>
      intro x26 x27 x33 x35 x37 M28 R29 J30 H locs ls h_x26 h_x27 h_x33 k34 h_x35 k36 h_x37 k38 k39 w0_28 hm_28 hS hl
      have f31 := hS.2.2.1
      have g32 := hS.2.2.2
      refine lv_iload_n hx hb dX8_read_21 rfl (lv_at hl 0 rfl) ?_
      refine lv_if_eq (tgt := 151) hx hb dX8_read_22 (by decide) (fun c40 => ?_) (fun c40 => ?_)
      · have q41 : x26.toInt = 0 := ti_eq c40
        have h42 : iv 0 0 x26 := ⟨by have := (h_x26).1; have := ((iv_c (c := 0) (n := 0) (by decide))).1; omega, by have := (h_x26).2; have := ((iv_c (c := 0) (n := 0) (by decide))).2; omega⟩
        refine lv_aload_n hx hb dX8_read_151 rfl (lv_at hl 2 rfl) ?_
        refine tw_getk hx hb hW hown hK hS f_X8_65_8 hz_a0 hk_a0 (v := x37) k38 dX8_read_152 ?_
        exact tw_endi hx hb hr hlocks hK hT hS hQ (h_x37) dX8_read_155
      · have q43 : ¬ x26.toInt = 0 := ti_ne c40
        have h44 : iv 1 1 x26 := ⟨by have := (h_x26).1; have := ((iv_c (c := 0) (n := 0) (by decide))).1; have := ((iv_c (c := 0) (n := 0) (by decide))).2; omega, by have := (h_x26).2; have := ((iv_c (c := 0) (n := 0) (by decide))).1; have := ((iv_c (c := 0) (n := 0) (by decide))).2; omega⟩
        refine lv_iload hx hb dX8_read_25 (lv_at hl 1 rfl) ?_
        refine lv_bipush (v := 12) hx hb dX8_read_27 (by decide) ?_
        refine lv_icmp_gt (tgt := 151) hx hb dX8_read_29 (by decide) (fun c45 => ?_) (fun c45 => ?_)
        · have q46 : 12 < x27.toInt := ti_lt c45
          have h47 : iv 13 13 x27 := iv_gtL (y := 12) h_x27 (iv_c (c := 12) (n := 12) (by decide)) q46 (by decide)
          refine lv_aload_n hx hb dX8_read_151 rfl (lv_at hl 2 rfl) ?_
          refine tw_getk hx hb hW hown hK hS f_X8_65_8 hz_a0 hk_a0 (v := x37) k38 dX8_read_152 ?_
          exact tw_endi hx hb hr hlocks hK hT hS hQ (h_x37) dX8_read_155
        · have q48 : x27.toInt ≤ 12 := ti_nlt c45
          have h49 : iv 0 12 x27 := iv_leL (y := 12) h_x27 (iv_c (c := 12) (n := 12) (by decide)) q48 (by decide)
          refine lv_aload_n hx hb dX8_read_32 rfl (lv_at hl 2 rfl) ?_
          refine tw_goi hS (md_runU (As := []) (rest := []) hx hb hml hown hW hK hT hS.1 (t_X10_hereBehindBlanks l D cy tx base Z K N M28 R29 J30 hS.2.1 a0 hz_a0 hk_a0 a1 k39 x33 k34 (iv_mono h_x33 (by decide) (by decide)) x35 k36 (iv_mono h_x35 (by decide) (by decide))) s_X8_26_X8 ⟨rfl, rfl, ⟨Nat.le_of_ble_eq_true rfl, Nat.le_of_ble_eq_true rfl⟩, ⟨Nat.le_of_ble_eq_true rfl, Nat.le_of_ble_eq_true rfl⟩⟩ hz_a0 hk_a0 (by decide) rfl rfl hl.1 rfl (Nat.le_of_ble_eq_true rfl) dX8_read_33) rfl rfl (fun x56 H locs M53 R54 J52 hS f50 g51 E55 => ?_)
          have eR54 := Fr.nil g51 rfl
          subst eR54
          obtain ⟨h_x56, p57⟩ := E55
          obtain ⟨x59, k60, h58, q61⟩ := p57
          have k60 : M53 a0 2 = x59 := k60
          refine lv_pop hx hb dX8_read_36 rfl ?_
          refine lv_aload_n hx hb dX8_read_37 rfl (lv_at hl 2 rfl) ?_
          refine va_ldcS hx hb hown hT.2.1.2.2.1 dX8_read_38 ?_
          have k62 : M53 a0 1 = x33 := (Fr.kp (k := 1) f50 hk_a0 rfl).trans k34
          refine tw_goi hS (md_runU (As := [.ref (tx.1 2)]) (rest := []) hx hb hml hown hW hK hT hS.1 (t_X10_whichWord l D cy tx base Z K N M53 R29 J52 hS.2.1 a0 hz_a0 hk_a0 2 (by decide) a1 k39 x33 k62 (iv_mono h_x33 (by decide) (by decide)) x59 k60 (iv_mono h58 (by decide) (by decide))) s_X8_32_X8 ⟨rfl, rfl, ⟨Nat.le_of_ble_eq_true rfl, Nat.le_of_ble_eq_true rfl⟩, ⟨Nat.le_of_ble_eq_true rfl, Nat.le_of_ble_eq_true rfl⟩⟩ hz_a0 hk_a0 (by decide) rfl rfl hl.1 rfl (Nat.le_of_ble_eq_true rfl) dX8_read_40) rfl rfl (fun x69 H locs M66 R67 J65 hS f63 g64 E68 => ?_)
          have eR67 := Fr.nil g64 rfl
          subst eR67
          obtain ⟨h_x69, p70⟩ := E68
          obtain ⟨x72, k73, h71, q74⟩ := p70
          have k73 : M66 a0 4 = x72 := k73
          refine lv_istore (lv' := [(5, .int x69), (3, .int x26), (4, .int x27), (0, .ref (base + a0)), (1, .ref (base + a1)), (2, .int a2)]) hx hb dX8_read_43 hl (by decide) rfl (fun ls hl => ?_)
          refine lv_iload hx hb dX8_read_45 (lv_at hl 0 rfl) ?_
          refine lv_iconst (v := (-1)) hx hb dX8_read_47 (by decide) ?_
          refine lv_icmp_ne (tgt := 63) hx hb dX8_read_48 (by decide) (fun c75 => ?_) (fun c75 => ?_)
          · have q76 : ¬ x69.toInt = (-1) := ti_ne c75
            refine lv_iload hx hb dX8_read_63 (lv_at hl 2 rfl) ?_
            refine lv_bipush (v := 12) hx hb dX8_read_65 (by decide) ?_
            refine lv_icmp_lt (tgt := 82) hx hb dX8_read_67 (by decide) (fun c77 => ?_) (fun c77 => ?_)
            · have q78 : x27.toInt < 12 := ti_lt c77
              have h79 : iv 0 11 x27 := iv_ltL (y := 12) h49 (iv_c (c := 12) (n := 12) (by decide)) q78 (by decide)
              refine lv_aload_n hx hb dX8_read_82 rfl (lv_at hl 3 rfl) ?_
              refine tw_gov hS (md_runU (As := []) (rest := []) hx hb hml hown hW hK hT hS.1 (t_X10_passWord l D cy tx base Z K N M66 R29 J65 hS.2.1 a0 hz_a0 hk_a0 x72 k73 (iv_mono h71 (by decide) (by decide))) s_X8_43_X8 ⟨rfl, rfl, ⟨Nat.le_of_ble_eq_true rfl, Nat.le_of_ble_eq_true rfl⟩, ⟨Nat.le_of_ble_eq_true rfl, Nat.le_of_ble_eq_true rfl⟩⟩ hz_a0 hk_a0 (by decide) rfl rfl hl.1 rfl (Nat.le_of_ble_eq_true rfl) dX8_read_83) rfl rfl (fun H locs M83 R84 J82 hS f80 g81 E85 => ?_)
              have eR84 := Fr.nil g81 rfl
              subst eR84
              have p86 := E85
              clear E85
              have k87 : M83 a0 2 = x72 := p86
              refine lv_iconst (v := (-1)) hx hb dX8_read_86 (by decide) ?_
              refine lv_istore (lv' := [(6, .int (-1)), (5, .int x69), (3, .int x26), (4, .int x27), (0, .ref (base + a0)), (1, .ref (base + a1)), (2, .int a2)]) hx hb dX8_read_87 hl (by decide) rfl (fun ls hl => ?_)
              refine lv_aload_n hx hb dX8_read_89 rfl (lv_at hl 4 rfl) ?_
              have k88 : M83 a0 1 = x33 := ((Fr.kp (k := 1) f80 hk_a0 rfl).trans (Fr.kp (k := 1) f63 hk_a0 rfl)).trans k62
              refine tw_goi hS (md_runU (As := []) (rest := []) hx hb hml hown hW hK hT hS.1 (t_X10_hereBehindBlanks l D cy tx base Z K N M83 R29 J82 hS.2.1 a0 hz_a0 hk_a0 a1 k39 x33 k88 (iv_mono h_x33 (by decide) (by decide)) x72 k87 (iv_mono h71 (by decide) (by decide))) s_X8_26_X8 ⟨rfl, rfl, ⟨Nat.le_of_ble_eq_true rfl, Nat.le_of_ble_eq_true rfl⟩, ⟨Nat.le_of_ble_eq_true rfl, Nat.le_of_ble_eq_true rfl⟩⟩ hz_a0 hk_a0 (by decide) rfl rfl hl.1 rfl (Nat.le_of_ble_eq_true rfl) dX8_read_90) rfl rfl (fun x95 H locs M92 R93 J91 hS f89 g90 E94 => ?_)
              have eR93 := Fr.nil g90 rfl
              subst eR93
              obtain ⟨h_x95, p96⟩ := E94
              obtain ⟨x98, k99, h97, q100⟩ := p96
              have k99 : M92 a0 2 = x98 := k99
              refine lv_bipush (v := 105) hx hb dX8_read_93 (by decide) ?_
              refine lv_icmp_ne (tgt := 125) hx hb dX8_read_95 (by decide) (fun c101 => ?_) (fun c101 => ?_)
              · have q102 : ¬ x95.toInt = 105 := ti_ne c101
                refine lv_aload_n hx hb dX8_read_125 rfl (lv_at hl 4 rfl) ?_
                refine lv_bipush (v := 15) hx hb dX8_read_126 (by decide) ?_
                refine lv_iload hx hb dX8_read_128 (lv_at hl 1 rfl) ?_
                refine tw_goi hS (md_runV (As := [.int 15, .int x69]) (rest := []) hx hb hml hown hW hK hT hS.1 (t_X8_put l D cy tx base Z K N M92 R29 J91 hS.2.1 a0 hz_a0 hk_a0 15 (iv_mono (iv_c (c := 15) (n := 15) (by decide)) (by decide) (by decide)) x69 h_x69) s_X8_54 ⟨rfl, rfl, ⟨Nat.le_of_ble_eq_true rfl, Nat.le_of_ble_eq_true rfl⟩, ⟨Nat.le_of_ble_eq_true rfl, Nat.le_of_ble_eq_true rfl⟩⟩ hz_a0 hk_a0 (by decide) rfl rfl hl.1 rfl (Nat.le_of_ble_eq_true rfl) dX8_read_130) rfl rfl (fun x109 H locs M106 R107 J105 hS f103 g104 E108 => ?_)
                have eR107 := Fr.nil g104 rfl
                subst eR107
                have h_x109 := E108
                clear E108
                refine lv_pop hx hb dX8_read_133 rfl ?_
                refine lv_aload_n hx hb dX8_read_134 rfl (lv_at hl 4 rfl) ?_
                refine lv_iload hx hb dX8_read_135 (lv_at hl 0 rfl) ?_
                refine tw_gov hS (md_runV (As := [.int (-1)]) (rest := []) hx hb hml hown hW hK hT hS.1 (t_X8_aim l D cy tx base Z K N M106 R29 J105 hS.2.1 a0 hz_a0 hk_a0 (-1) (iv_mono (iv_c (c := (-1)) (n := (-1)) (by decide)) (by decide) (by decide))) s_X8_58 ⟨rfl, rfl, ⟨Nat.le_of_ble_eq_true rfl, Nat.le_of_ble_eq_true rfl⟩, ⟨Nat.le_of_ble_eq_true rfl, Nat.le_of_ble_eq_true rfl⟩⟩ hz_a0 hk_a0 (by decide) rfl rfl hl.1 rfl (Nat.le_of_ble_eq_true rfl) dX8_read_137) rfl rfl (fun H locs M113 R114 J112 hS f110 g111 E115 => ?_)
                have eR114 := Fr.nil g111 rfl
                subst eR114
                refine lv_aload_n hx hb dX8_read_140 rfl (lv_at hl 4 rfl) ?_
                have k116 : M113 a0 1 = x33 := ((Fr.kp (k := 1) f110 hk_a0 rfl).trans ((Fr.kp (k := 1) f103 hk_a0 rfl).trans (Fr.kp (k := 1) f89 hk_a0 rfl))).trans k88
                have k117 : M113 a0 2 = x98 := ((Fr.kp (k := 2) f110 hk_a0 rfl).trans (Fr.kp (k := 2) f103 hk_a0 rfl)).trans k99
                have k118 : M113 a0 3 = x37 := ((Fr.kp (k := 3) f110 hk_a0 rfl).trans ((Fr.kp (k := 3) f103 hk_a0 rfl).trans ((Fr.kp (k := 3) f89 hk_a0 rfl).trans ((Fr.kp (k := 3) f80 hk_a0 rfl).trans ((Fr.kp (k := 3) f63 hk_a0 rfl).trans (Fr.kp (k := 3) f50 hk_a0 rfl)))))).trans k38
                refine tw_goi hS (md_runU (As := []) (rest := []) hx hb hml hown hW hK hT hS.1 (t_X10_goesOn l D cy tx base Z K N M113 R29 J112 hS.2.1 a0 hz_a0 hk_a0 a1 k39 x33 k116 (iv_mono h_x33 (by decide) (by decide)) x98 k117 (iv_mono h97 (by decide) (by decide)) x37 k118 (iv_mono h_x37 (by decide) (by decide))) s_X8_61_X8 ⟨rfl, rfl, ⟨Nat.le_of_ble_eq_true rfl, Nat.le_of_ble_eq_true rfl⟩, ⟨Nat.le_of_ble_eq_true rfl, Nat.le_of_ble_eq_true rfl⟩⟩ hz_a0 hk_a0 (by decide) rfl rfl hl.1 rfl (Nat.le_of_ble_eq_true rfl) dX8_read_141) rfl rfl (fun x125 H locs M122 R123 J121 hS f119 g120 E124 => ?_)
                have eR123 := Fr.nil g120 rfl
                subst eR123
                obtain ⟨h_x125, p126⟩ := E124
                obtain ⟨x128, x130, k131, k132, h127, h129, q133⟩ := p126
                have k131 : M122 a0 2 = x128 := k131
                have k132 : M122 a0 3 = x130 := k132
                refine lv_istore_n (lv' := [(3, .int x125), (6, .int (-1)), (5, .int x69), (4, .int x27), (0, .ref (base + a0)), (1, .ref (base + a1)), (2, .int a2)]) hx hb dX8_read_144 rfl hl (by decide) rfl (fun ls hl => ?_)
                refine tw_iinc (lv' := fun x136 => [(4, .int x136), (3, .int x125), (6, .int (-1)), (5, .int x69), (0, .ref (base + a0)), (1, .ref (base + a1)), (2, .int a2)]) (lo := 1) (hi := 12) hx hb dX8_read_145 hl (k := 3) rfl h79 (by decide) ⟨by decide, by decide⟩ ⟨by decide, by decide⟩ (by decide) (fun _ => rfl) (fun x136 ls e135 h134 hl => ?_)
                refine lv_goto (tgt := 21) hx hb dX8_read_148 (by decide) ?_
                have k137 : M122 a0 1 = x33 := (Fr.kp (k := 1) f119 hk_a0 rfl).trans k116
                have w138 : x125.toInt = 0 ∨ (x130.toInt = 0 ∧ x128.toInt ≤ x33.toInt) := by
                  have := (h_a2).1; have := (h_a2).2; have := (h_x125).1; have := (h_x125).2; have := (h127).1; have := (h127).2; have := (h129).1; have := (h129).2; have := (h44).1; have := (h44).2; have := (h_x33).1; have := (h_x33).2; have := (h_x35).1; have := (h_x35).2; have := (h_x37).1; have := (h_x37).2; have := (h58).1; have := (h58).2; have := (h71).1; have := (h71).2; have := (h97).1; have := (h97).2; omega
                have hm139 : 13 - x136.toInt < (n_28 : Int) := by
                  have := (h_a2).1; have := (h_a2).2; have := (h134).1; have := (h134).2; have := (h79).1; have := (h79).2; omega
                exact ih_28 x125 x136 x33 x128 x130 M122 R29 J121 H locs _ h_x125 (iv_mono h134 (by decide) (by decide)) h_x33 k137 h127 k131 h129 k132 k39 w138 hm139 hS (lv_sub hl [1, 0, 4, 5, 6] rfl)
              · have q140 : x95.toInt = 105 := ti_eq c101
                have h141 : iv 105 105 x95 := ⟨by have := (h_x95).1; have := ((iv_c (c := 105) (n := 105) (by decide))).1; omega, by have := (h_x95).2; have := ((iv_c (c := 105) (n := 105) (by decide))).2; omega⟩
                refine lv_aload_n hx hb dX8_read_98 rfl (lv_at hl 4 rfl) ?_
                refine va_ldcS hx hb hown hT.2.1.2.2.2.1 dX8_read_99 ?_
                have k142 : M92 a0 1 = x33 := (Fr.kp (k := 1) f89 hk_a0 rfl).trans k88
                refine tw_goi hS (md_runU (As := [.ref (tx.1 3)]) (rest := []) hx hb hml hown hW hK hT hS.1 (t_X10_whichWord l D cy tx base Z K N M92 R29 J91 hS.2.1 a0 hz_a0 hk_a0 3 (by decide) a1 k39 x33 k142 (iv_mono h_x33 (by decide) (by decide)) x98 k99 (iv_mono h97 (by decide) (by decide))) s_X8_32_X8 ⟨rfl, rfl, ⟨Nat.le_of_ble_eq_true rfl, Nat.le_of_ble_eq_true rfl⟩, ⟨Nat.le_of_ble_eq_true rfl, Nat.le_of_ble_eq_true rfl⟩⟩ hz_a0 hk_a0 (by decide) rfl rfl hl.1 rfl (Nat.le_of_ble_eq_true rfl) dX8_read_101) rfl rfl (fun x149 H locs M146 R147 J145 hS f143 g144 E148 => ?_)
                have eR147 := Fr.nil g144 rfl
                subst eR147
                obtain ⟨h_x149, p150⟩ := E148
                obtain ⟨x152, k153, h151, q154⟩ := p150
                have k153 : M146 a0 4 = x152 := k153
                refine lv_if_ne (tgt := 125) hx hb dX8_read_104 (by decide) (fun c155 => ?_) (fun c155 => ?_)
                · have q156 : ¬ x149.toInt = 0 := ti_ne c155
                  refine lv_aload_n hx hb dX8_read_125 rfl (lv_at hl 4 rfl) ?_
                  refine lv_bipush (v := 15) hx hb dX8_read_126 (by decide) ?_
                  refine lv_iload hx hb dX8_read_128 (lv_at hl 1 rfl) ?_
                  refine tw_goi hS (md_runV (As := [.int 15, .int x69]) (rest := []) hx hb hml hown hW hK hT hS.1 (t_X8_put l D cy tx base Z K N M146 R29 J145 hS.2.1 a0 hz_a0 hk_a0 15 (iv_mono (iv_c (c := 15) (n := 15) (by decide)) (by decide) (by decide)) x69 h_x69) s_X8_54 ⟨rfl, rfl, ⟨Nat.le_of_ble_eq_true rfl, Nat.le_of_ble_eq_true rfl⟩, ⟨Nat.le_of_ble_eq_true rfl, Nat.le_of_ble_eq_true rfl⟩⟩ hz_a0 hk_a0 (by decide) rfl rfl hl.1 rfl (Nat.le_of_ble_eq_true rfl) dX8_read_130) rfl rfl (fun x163 H locs M160 R161 J159 hS f157 g158 E162 => ?_)
                  have eR161 := Fr.nil g158 rfl
                  subst eR161
                  have h_x163 := E162
                  clear E162
                  refine lv_pop hx hb dX8_read_133 rfl ?_
                  refine lv_aload_n hx hb dX8_read_134 rfl (lv_at hl 4 rfl) ?_
                  refine lv_iload hx hb dX8_read_135 (lv_at hl 0 rfl) ?_
                  refine tw_gov hS (md_runV (As := [.int (-1)]) (rest := []) hx hb hml hown hW hK hT hS.1 (t_X8_aim l D cy tx base Z K N M160 R29 J159 hS.2.1 a0 hz_a0 hk_a0 (-1) (iv_mono (iv_c (c := (-1)) (n := (-1)) (by decide)) (by decide) (by decide))) s_X8_58 ⟨rfl, rfl, ⟨Nat.le_of_ble_eq_true rfl, Nat.le_of_ble_eq_true rfl⟩, ⟨Nat.le_of_ble_eq_true rfl, Nat.le_of_ble_eq_true rfl⟩⟩ hz_a0 hk_a0 (by decide) rfl rfl hl.1 rfl (Nat.le_of_ble_eq_true rfl) dX8_read_137) rfl rfl (fun H locs M167 R168 J166 hS f164 g165 E169 => ?_)
                  have eR168 := Fr.nil g165 rfl
                  subst eR168
                  refine lv_aload_n hx hb dX8_read_140 rfl (lv_at hl 4 rfl) ?_
                  have k170 : M167 a0 1 = x33 := ((Fr.kp (k := 1) f164 hk_a0 rfl).trans ((Fr.kp (k := 1) f157 hk_a0 rfl).trans (Fr.kp (k := 1) f143 hk_a0 rfl))).trans k142
                  have k171 : M167 a0 2 = x98 := ((Fr.kp (k := 2) f164 hk_a0 rfl).trans ((Fr.kp (k := 2) f157 hk_a0 rfl).trans (Fr.kp (k := 2) f143 hk_a0 rfl))).trans k99
                  have k172 : M167 a0 3 = x37 := ((Fr.kp (k := 3) f164 hk_a0 rfl).trans ((Fr.kp (k := 3) f157 hk_a0 rfl).trans ((Fr.kp (k := 3) f143 hk_a0 rfl).trans ((Fr.kp (k := 3) f89 hk_a0 rfl).trans ((Fr.kp (k := 3) f80 hk_a0 rfl).trans ((Fr.kp (k := 3) f63 hk_a0 rfl).trans (Fr.kp (k := 3) f50 hk_a0 rfl))))))).trans k38
                  refine tw_goi hS (md_runU (As := []) (rest := []) hx hb hml hown hW hK hT hS.1 (t_X10_goesOn l D cy tx base Z K N M167 R29 J166 hS.2.1 a0 hz_a0 hk_a0 a1 k39 x33 k170 (iv_mono h_x33 (by decide) (by decide)) x98 k171 (iv_mono h97 (by decide) (by decide)) x37 k172 (iv_mono h_x37 (by decide) (by decide))) s_X8_61_X8 ⟨rfl, rfl, ⟨Nat.le_of_ble_eq_true rfl, Nat.le_of_ble_eq_true rfl⟩, ⟨Nat.le_of_ble_eq_true rfl, Nat.le_of_ble_eq_true rfl⟩⟩ hz_a0 hk_a0 (by decide) rfl rfl hl.1 rfl (Nat.le_of_ble_eq_true rfl) dX8_read_141) rfl rfl (fun x179 H locs M176 R177 J175 hS f173 g174 E178 => ?_)
                  have eR177 := Fr.nil g174 rfl
                  subst eR177
                  obtain ⟨h_x179, p180⟩ := E178
                  obtain ⟨x182, x184, k185, k186, h181, h183, q187⟩ := p180
                  have k185 : M176 a0 2 = x182 := k185
                  have k186 : M176 a0 3 = x184 := k186
                  refine lv_istore_n (lv' := [(3, .int x179), (6, .int (-1)), (5, .int x69), (4, .int x27), (0, .ref (base + a0)), (1, .ref (base + a1)), (2, .int a2)]) hx hb dX8_read_144 rfl hl (by decide) rfl (fun ls hl => ?_)
                  refine tw_iinc (lv' := fun x190 => [(4, .int x190), (3, .int x179), (6, .int (-1)), (5, .int x69), (0, .ref (base + a0)), (1, .ref (base + a1)), (2, .int a2)]) (lo := 1) (hi := 12) hx hb dX8_read_145 hl (k := 3) rfl h79 (by decide) ⟨by decide, by decide⟩ ⟨by decide, by decide⟩ (by decide) (fun _ => rfl) (fun x190 ls e189 h188 hl => ?_)
                  refine lv_goto (tgt := 21) hx hb dX8_read_148 (by decide) ?_
                  have k191 : M176 a0 1 = x33 := (Fr.kp (k := 1) f173 hk_a0 rfl).trans k170
                  have w192 : x179.toInt = 0 ∨ (x184.toInt = 0 ∧ x182.toInt ≤ x33.toInt) := by
                    have := (h_a2).1; have := (h_a2).2; have := (h151).1; have := (h151).2; have := (h_x179).1; have := (h_x179).2; have := (h181).1; have := (h181).2; have := (h183).1; have := (h183).2; have := (h44).1; have := (h44).2; have := (h_x33).1; have := (h_x33).2; have := (h_x35).1; have := (h_x35).2; have := (h_x37).1; have := (h_x37).2; have := (h58).1; have := (h58).2; have := (h71).1; have := (h71).2; have := (h97).1; have := (h97).2; omega
                  have hm193 : 13 - x190.toInt < (n_28 : Int) := by
                    have := (h_a2).1; have := (h_a2).2; have := (h188).1; have := (h188).2; have := (h79).1; have := (h79).2; omega
                  exact ih_28 x179 x190 x33 x182 x184 M176 R29 J175 H locs _ h_x179 (iv_mono h188 (by decide) (by decide)) h_x33 k191 h181 k185 h183 k186 k39 w192 hm193 hS (lv_sub hl [1, 0, 4, 5, 6] rfl)
                · have q194 : x149.toInt = 0 := ti_eq c155
                  have h195 : iv 0 0 x149 := ⟨by have := (h_x149).1; have := ((iv_c (c := 0) (n := 0) (by decide))).1; omega, by have := (h_x149).2; have := ((iv_c (c := 0) (n := 0) (by decide))).2; omega⟩
                  refine lv_aload_n hx hb dX8_read_107 rfl (lv_at hl 4 rfl) ?_
                  refine tw_gov hS (md_runU (As := []) (rest := []) hx hb hml hown hW hK hT hS.1 (t_X10_passWord l D cy tx base Z K N M146 R29 J145 hS.2.1 a0 hz_a0 hk_a0 x152 k153 (iv_mono h151 (by decide) (by decide))) s_X8_43_X8 ⟨rfl, rfl, ⟨Nat.le_of_ble_eq_true rfl, Nat.le_of_ble_eq_true rfl⟩, ⟨Nat.le_of_ble_eq_true rfl, Nat.le_of_ble_eq_true rfl⟩⟩ hz_a0 hk_a0 (by decide) rfl rfl hl.1 rfl (Nat.le_of_ble_eq_true rfl) dX8_read_108) rfl rfl (fun H locs M199 R200 J198 hS f196 g197 E201 => ?_)
                  have eR200 := Fr.nil g197 rfl
                  subst eR200
                  have p202 := E201
                  clear E201
                  have k203 : M199 a0 2 = x152 := p202
                  refine lv_aload_n hx hb dX8_read_111 rfl (lv_at hl 4 rfl) ?_
                  refine lv_iconst (v := 0) hx hb dX8_read_112 (by decide) ?_
                  have k204 : M199 a0 1 = x33 := ((Fr.kp (k := 1) f196 hk_a0 rfl).trans (Fr.kp (k := 1) f143 hk_a0 rfl)).trans k142
                  have h205 : iv 0 400 x152 := by
                    have := (h_a2).1; have := (h_a2).2; have := (h151).1; have := (h151).2; have := (h44).1; have := (h44).2; have := (h_x33).1; have := (h_x33).2; have := (h_x35).1; have := (h_x35).2; have := (h_x37).1; have := (h_x37).2; have := (h58).1; have := (h58).2; have := (h71).1; have := (h71).2; have := (h97).1; have := (h97).2; exact ⟨by omega, by omega⟩
                  have k206 : M199 a0 3 = x37 := ((Fr.kp (k := 3) f196 hk_a0 rfl).trans ((Fr.kp (k := 3) f143 hk_a0 rfl).trans ((Fr.kp (k := 3) f89 hk_a0 rfl).trans ((Fr.kp (k := 3) f80 hk_a0 rfl).trans ((Fr.kp (k := 3) f63 hk_a0 rfl).trans (Fr.kp (k := 3) f50 hk_a0 rfl)))))).trans k38
                  have h207 : iv 0 0 x37 := by
                    have := (h_a2).1; have := (h_a2).2; have := (h151).1; have := (h151).2; have := (h44).1; have := (h44).2; have := (h_x33).1; have := (h_x33).2; have := (h_x35).1; have := (h_x35).2; have := (h_x37).1; have := (h_x37).2; have := (h58).1; have := (h58).2; have := (h71).1; have := (h71).2; have := (h97).1; have := (h97).2; exact ⟨by omega, by omega⟩
                  have q208 : x152.toInt ≤ x33.toInt := by
                    have := (h_a2).1; have := (h_a2).2; have := (h151).1; have := (h151).2; have := (h44).1; have := (h44).2; have := (h_x33).1; have := (h_x33).2; have := (h_x35).1; have := (h_x35).2; have := (h_x37).1; have := (h_x37).2; have := (h58).1; have := (h58).2; have := (h71).1; have := (h71).2; have := (h97).1; have := (h97).2; omega
                  have hm209 : 10 - (0 : Int32).toInt < (((11 : Nat) : Int) : Int) := by
                    have := (h_a2).1; have := (h_a2).2; have : (0 : Int32).toInt = 0 := (by decide); omega
                  refine tw_gov hS (md_runV (As := [.int 0]) (rest := []) hx hb hml hown hW hK hT hS.1 (t_X8_test l D cy tx base Z K N 11 (t_X8_fact l D cy tx base Z K N 11) M199 R29 J198 hS.2.1 a0 hz_a0 hk_a0 0 (iv_mono (iv_c (c := 0) (n := 0) (by decide)) (by decide) (by decide)) a1 k39 x33 k204 (iv_mono h_x33 (by decide) (by decide)) x152 k203 h205 x37 k206 h207 q208 hm209) s_X8_48 ⟨rfl, rfl, ⟨by simp only [md_rm]; omega, by simp only [md_rm]; omega⟩, ⟨Nat.le_of_ble_eq_true rfl, Nat.le_of_ble_eq_true rfl⟩⟩ hz_a0 hk_a0 (by decide) rfl rfl hl.1 rfl (Nat.le_of_ble_eq_true rfl) dX8_read_113) rfl rfl (fun H locs M213 R214 J212 hS f210 g211 E215 => ?_)
                  have eR214 := Fr.nil g211 rfl
                  subst eR214
                  have p216 := E215
                  clear E215
                  obtain ⟨x218, x220, k221, k222, h217, h219, q223⟩ := p216
                  have k221 : M213 a0 2 = x218 := k221
                  have k222 : M213 a0 3 = x220 := k222
                  have q224 : (0 : Int32).toInt = 0 := (by decide)
                  refine lv_aload_n hx hb dX8_read_116 rfl (lv_at hl 4 rfl) ?_
                  refine lv_bipush (v := 14) hx hb dX8_read_117 (by decide) ?_
                  refine lv_iconst (v := 0) hx hb dX8_read_119 (by decide) ?_
                  refine tw_goi hS (md_runV (As := [.int 14, .int 0]) (rest := []) hx hb hml hown hW hK hT hS.1 (t_X8_put l D cy tx base Z K N M213 R29 J212 hS.2.1 a0 hz_a0 hk_a0 14 (iv_mono (iv_c (c := 14) (n := 14) (by decide)) (by decide) (by decide)) 0 (iv_mono (iv_c (c := 0) (n := 0) (by decide)) (by decide) (by decide))) s_X8_54 ⟨rfl, rfl, ⟨Nat.le_of_ble_eq_true rfl, Nat.le_of_ble_eq_true rfl⟩, ⟨Nat.le_of_ble_eq_true rfl, Nat.le_of_ble_eq_true rfl⟩⟩ hz_a0 hk_a0 (by decide) rfl rfl hl.1 rfl (Nat.le_of_ble_eq_true rfl) dX8_read_120) rfl rfl (fun x231 H locs M228 R229 J227 hS f225 g226 E230 => ?_)
                  have eR229 := Fr.nil g226 rfl
                  subst eR229
                  have h_x231 := E230
                  clear E230
                  refine lv_istore (lv' := [(6, .int x231), (5, .int x69), (3, .int x26), (4, .int x27), (0, .ref (base + a0)), (1, .ref (base + a1)), (2, .int a2)]) hx hb dX8_read_123 hl (by decide) rfl (fun ls hl => ?_)
                  refine lv_aload_n hx hb dX8_read_125 rfl (lv_at hl 4 rfl) ?_
                  refine lv_bipush (v := 15) hx hb dX8_read_126 (by decide) ?_
                  refine lv_iload hx hb dX8_read_128 (lv_at hl 1 rfl) ?_
                  refine tw_goi hS (md_runV (As := [.int 15, .int x69]) (rest := []) hx hb hml hown hW hK hT hS.1 (t_X8_put l D cy tx base Z K N M228 R29 J227 hS.2.1 a0 hz_a0 hk_a0 15 (iv_mono (iv_c (c := 15) (n := 15) (by decide)) (by decide) (by decide)) x69 h_x69) s_X8_54 ⟨rfl, rfl, ⟨Nat.le_of_ble_eq_true rfl, Nat.le_of_ble_eq_true rfl⟩, ⟨Nat.le_of_ble_eq_true rfl, Nat.le_of_ble_eq_true rfl⟩⟩ hz_a0 hk_a0 (by decide) rfl rfl hl.1 rfl (Nat.le_of_ble_eq_true rfl) dX8_read_130) rfl rfl (fun x238 H locs M235 R236 J234 hS f232 g233 E237 => ?_)
                  have eR236 := Fr.nil g233 rfl
                  subst eR236
                  have h_x238 := E237
                  clear E237
                  refine lv_pop hx hb dX8_read_133 rfl ?_
                  refine lv_aload_n hx hb dX8_read_134 rfl (lv_at hl 4 rfl) ?_
                  refine lv_iload hx hb dX8_read_135 (lv_at hl 0 rfl) ?_
                  refine tw_gov hS (md_runV (As := [.int x231]) (rest := []) hx hb hml hown hW hK hT hS.1 (t_X8_aim l D cy tx base Z K N M235 R29 J234 hS.2.1 a0 hz_a0 hk_a0 x231 h_x231) s_X8_58 ⟨rfl, rfl, ⟨Nat.le_of_ble_eq_true rfl, Nat.le_of_ble_eq_true rfl⟩, ⟨Nat.le_of_ble_eq_true rfl, Nat.le_of_ble_eq_true rfl⟩⟩ hz_a0 hk_a0 (by decide) rfl rfl hl.1 rfl (Nat.le_of_ble_eq_true rfl) dX8_read_137) rfl rfl (fun H locs M242 R243 J241 hS f239 g240 E244 => ?_)
                  have eR243 := Fr.nil g240 rfl
                  subst eR243
                  refine lv_aload_n hx hb dX8_read_140 rfl (lv_at hl 4 rfl) ?_
                  have k245 : M242 a0 1 = x33 := ((Fr.kp (k := 1) f239 hk_a0 rfl).trans ((Fr.kp (k := 1) f232 hk_a0 rfl).trans ((Fr.kp (k := 1) f225 hk_a0 rfl).trans (Fr.kp (k := 1) f210 hk_a0 rfl)))).trans k204
                  have k246 : M242 a0 2 = x218 := ((Fr.kp (k := 2) f239 hk_a0 rfl).trans ((Fr.kp (k := 2) f232 hk_a0 rfl).trans (Fr.kp (k := 2) f225 hk_a0 rfl))).trans k221
                  have k247 : M242 a0 3 = x220 := ((Fr.kp (k := 3) f239 hk_a0 rfl).trans ((Fr.kp (k := 3) f232 hk_a0 rfl).trans (Fr.kp (k := 3) f225 hk_a0 rfl))).trans k222
                  refine tw_goi hS (md_runU (As := []) (rest := []) hx hb hml hown hW hK hT hS.1 (t_X10_goesOn l D cy tx base Z K N M242 R29 J241 hS.2.1 a0 hz_a0 hk_a0 a1 k39 x33 k245 (iv_mono h_x33 (by decide) (by decide)) x218 k246 (iv_mono h217 (by decide) (by decide)) x220 k247 (iv_mono h219 (by decide) (by decide))) s_X8_61_X8 ⟨rfl, rfl, ⟨Nat.le_of_ble_eq_true rfl, Nat.le_of_ble_eq_true rfl⟩, ⟨Nat.le_of_ble_eq_true rfl, Nat.le_of_ble_eq_true rfl⟩⟩ hz_a0 hk_a0 (by decide) rfl rfl hl.1 rfl (Nat.le_of_ble_eq_true rfl) dX8_read_141) rfl rfl (fun x254 H locs M251 R252 J250 hS f248 g249 E253 => ?_)
                  have eR252 := Fr.nil g249 rfl
                  subst eR252
                  obtain ⟨h_x254, p255⟩ := E253
                  obtain ⟨x257, x259, k260, k261, h256, h258, q262⟩ := p255
                  have k260 : M251 a0 2 = x257 := k260
                  have k261 : M251 a0 3 = x259 := k261
                  have h263 : iv 0 420 x257 := by
                    have := (h_a2).1; have := (h_a2).2; have := (h151).1; have := (h151).2; have := (h217).1; have := (h217).2; have := (h219).1; have := (h219).2; have := (h256).1; have := (h256).2; have := (h258).1; have := (h258).2; have := (h44).1; have := (h44).2; have := (h_x33).1; have := (h_x33).2; have := (h_x35).1; have := (h_x35).2; have := (h_x37).1; have := (h_x37).2; have := (h58).1; have := (h58).2; have := (h71).1; have := (h71).2; have := (h97).1; have := (h97).2; exact ⟨by omega, by omega⟩
                  refine lv_istore_n (lv' := [(3, .int x254), (6, .int x231), (5, .int x69), (4, .int x27), (0, .ref (base + a0)), (1, .ref (base + a1)), (2, .int a2)]) hx hb dX8_read_144 rfl hl (by decide) rfl (fun ls hl => ?_)
                  refine tw_iinc (lv' := fun x266 => [(4, .int x266), (3, .int x254), (6, .int x231), (5, .int x69), (0, .ref (base + a0)), (1, .ref (base + a1)), (2, .int a2)]) (lo := 1) (hi := 12) hx hb dX8_read_145 hl (k := 3) rfl h79 (by decide) ⟨by decide, by decide⟩ ⟨by decide, by decide⟩ (by decide) (fun _ => rfl) (fun x266 ls e265 h264 hl => ?_)
                  refine lv_goto (tgt := 21) hx hb dX8_read_148 (by decide) ?_
                  have k267 : M251 a0 1 = x33 := (Fr.kp (k := 1) f248 hk_a0 rfl).trans k245
                  have w268 : x254.toInt = 0 ∨ (x259.toInt = 0 ∧ x257.toInt ≤ x33.toInt) := by
                    have := (h_a2).1; have := (h_a2).2; have := (h151).1; have := (h151).2; have := (h217).1; have := (h217).2; have := (h219).1; have := (h219).2; have := (h_x254).1; have := (h_x254).2; have := (h263).1; have := (h263).2; have := (h258).1; have := (h258).2; have := (h44).1; have := (h44).2; have := (h_x33).1; have := (h_x33).2; have := (h_x35).1; have := (h_x35).2; have := (h_x37).1; have := (h_x37).2; have := (h58).1; have := (h58).2; have := (h71).1; have := (h71).2; have := (h97).1; have := (h97).2; omega
                  have hm269 : 13 - x266.toInt < (n_28 : Int) := by
                    have := (h_a2).1; have := (h_a2).2; have := (h264).1; have := (h264).2; have := (h79).1; have := (h79).2; omega
                  exact ih_28 x254 x266 x33 x257 x259 M251 R29 J250 H locs _ h_x254 (iv_mono h264 (by decide) (by decide)) h_x33 k267 (iv_mono h263 (by decide) (by decide)) k260 h258 k261 k39 w268 hm269 hS (lv_sub hl [1, 0, 4, 5, 6] rfl)
            · have q270 : 12 ≤ x27.toInt := ti_nlt c77
              have h271 : iv 12 12 x27 := iv_geL (y := 12) h49 (iv_c (c := 12) (n := 12) (by decide)) q270 (by decide)
              refine lv_aload_n hx hb dX8_read_70 rfl (lv_at hl 3 rfl) ?_
              refine lv_aload_n hx hb dX8_read_71 rfl (lv_at hl 3 rfl) ?_
              have k272 : M66 a0 2 = x59 := (Fr.kp (k := 2) f63 hk_a0 rfl).trans k60
              refine tw_getk hx hb hW hown hK hS f_X8_36_8 hz_a0 hk_a0 (v := x59) k272 dX8_read_72 ?_
              refine lv_iconst (v := 4) hx hb dX8_read_75 (by decide) ?_
              refine tw_gov hS (md_runU (As := [.int x59, .int 4]) (rest := []) hx hb hml hown hW hK hT hS.1 (t_X10_fail l D cy tx base Z K N M66 R29 J65 hS.2.1 a0 hz_a0 hk_a0 x59 h58 4 (iv_mono (iv_c (c := 4) (n := 4) (by decide)) (by decide) (by decide))) s_X8_39_X8 ⟨rfl, rfl, ⟨Nat.le_of_ble_eq_true rfl, Nat.le_of_ble_eq_true rfl⟩, ⟨Nat.le_of_ble_eq_true rfl, Nat.le_of_ble_eq_true rfl⟩⟩ hz_a0 hk_a0 (by decide) rfl rfl hl.1 rfl (Nat.le_of_ble_eq_true rfl) dX8_read_76) rfl rfl (fun H locs M276 R277 J275 hS f273 g274 E278 => ?_)
              have eR277 := Fr.nil g274 rfl
              subst eR277
              have p279 := E278
              clear E278
              obtain ⟨x281, k282, h280, q283⟩ := p279
              have k282 : M276 a0 3 = x281 := k282
              refine lv_goto (tgt := 140) hx hb dX8_read_79 (by decide) ?_
              refine lv_aload_n hx hb dX8_read_140 rfl (lv_at hl 3 rfl) ?_
              have k284 : M276 a0 1 = x33 := ((Fr.kp (k := 1) f273 hk_a0 rfl).trans (Fr.kp (k := 1) f63 hk_a0 rfl)).trans k62
              have k285 : M276 a0 2 = x59 := (Fr.kp (k := 2) f273 hk_a0 rfl).trans k272
              refine tw_goi hS (md_runU (As := []) (rest := []) hx hb hml hown hW hK hT hS.1 (t_X10_goesOn l D cy tx base Z K N M276 R29 J275 hS.2.1 a0 hz_a0 hk_a0 a1 k39 x33 k284 (iv_mono h_x33 (by decide) (by decide)) x59 k285 (iv_mono h58 (by decide) (by decide)) x281 k282 (iv_mono h280 (by decide) (by decide))) s_X8_61_X8 ⟨rfl, rfl, ⟨Nat.le_of_ble_eq_true rfl, Nat.le_of_ble_eq_true rfl⟩, ⟨Nat.le_of_ble_eq_true rfl, Nat.le_of_ble_eq_true rfl⟩⟩ hz_a0 hk_a0 (by decide) rfl rfl hl.1 rfl (Nat.le_of_ble_eq_true rfl) dX8_read_141) rfl rfl (fun x292 H locs M289 R290 J288 hS f286 g287 E291 => ?_)
              have eR290 := Fr.nil g287 rfl
              subst eR290
              obtain ⟨h_x292, p293⟩ := E291
              obtain ⟨x295, x297, k298, k299, h294, h296, q300⟩ := p293
              have k298 : M289 a0 2 = x295 := k298
              have k299 : M289 a0 3 = x297 := k299
              refine lv_istore_n (lv' := [(3, .int x292), (5, .int x69), (4, .int x27), (0, .ref (base + a0)), (1, .ref (base + a1)), (2, .int a2)]) hx hb dX8_read_144 rfl hl (by decide) rfl (fun ls hl => ?_)
              refine tw_iinc (lv' := fun x303 => [(4, .int x303), (3, .int x292), (5, .int x69), (0, .ref (base + a0)), (1, .ref (base + a1)), (2, .int a2)]) (lo := 13) (hi := 13) hx hb dX8_read_145 hl (k := 2) rfl h271 (by decide) ⟨by decide, by decide⟩ ⟨by decide, by decide⟩ (by decide) (fun _ => rfl) (fun x303 ls e302 h301 hl => ?_)
              refine lv_goto (tgt := 21) hx hb dX8_read_148 (by decide) ?_
              have k304 : M289 a0 1 = x33 := (Fr.kp (k := 1) f286 hk_a0 rfl).trans k284
              have w305 : x292.toInt = 0 ∨ (x297.toInt = 0 ∧ x295.toInt ≤ x33.toInt) := by
                have := (h_a2).1; have := (h_a2).2; have := (h44).1; have := (h44).2; have := (h_x292).1; have := (h_x292).2; have := (h294).1; have := (h294).2; have := (h296).1; have := (h296).2; have := (h_x33).1; have := (h_x33).2; have := (h_x35).1; have := (h_x35).2; have := (h_x37).1; have := (h_x37).2; have := (h58).1; have := (h58).2; have := (h71).1; have := (h71).2; omega
              have hm306 : 13 - x303.toInt < (n_28 : Int) := by
                have := (h_a2).1; have := (h_a2).2; have := (h271).1; have := (h271).2; have := (h301).1; have := (h301).2; omega
              exact ih_28 x292 x303 x33 x295 x297 M289 R29 J288 H locs _ h_x292 (iv_mono h301 (by decide) (by decide)) h_x33 k304 h294 k298 h296 k299 k39 w305 hm306 hS (lv_sub hl [1, 0, 3, 4, 5] rfl)
          · have q307 : x69.toInt = (-1) := ti_eq c75
            have h308 : iv (-1) (-1) x69 := ⟨by have := (h_x69).1; have := ((iv_c (c := (-1)) (n := (-1)) (by decide))).1; omega, by have := (h_x69).2; have := ((iv_c (c := (-1)) (n := (-1)) (by decide))).2; omega⟩
            refine lv_aload_n hx hb dX8_read_51 rfl (lv_at hl 3 rfl) ?_
            refine lv_aload_n hx hb dX8_read_52 rfl (lv_at hl 3 rfl) ?_
            have k309 : M66 a0 2 = x59 := (Fr.kp (k := 2) f63 hk_a0 rfl).trans k60
            refine tw_getk hx hb hW hown hK hS f_X8_36_8 hz_a0 hk_a0 (v := x59) k309 dX8_read_53 ?_
            refine lv_iconst (v := 0) hx hb dX8_read_56 (by decide) ?_
            refine tw_gov hS (md_runU (As := [.int x59, .int 0]) (rest := []) hx hb hml hown hW hK hT hS.1 (t_X10_fail l D cy tx base Z K N M66 R29 J65 hS.2.1 a0 hz_a0 hk_a0 x59 h58 0 (iv_mono (iv_c (c := 0) (n := 0) (by decide)) (by decide) (by decide))) s_X8_39_X8 ⟨rfl, rfl, ⟨Nat.le_of_ble_eq_true rfl, Nat.le_of_ble_eq_true rfl⟩, ⟨Nat.le_of_ble_eq_true rfl, Nat.le_of_ble_eq_true rfl⟩⟩ hz_a0 hk_a0 (by decide) rfl rfl hl.1 rfl (Nat.le_of_ble_eq_true rfl) dX8_read_57) rfl rfl (fun H locs M313 R314 J312 hS f310 g311 E315 => ?_)
            have eR314 := Fr.nil g311 rfl
            subst eR314
            have p316 := E315
            clear E315
            obtain ⟨x318, k319, h317, q320⟩ := p316
            have k319 : M313 a0 3 = x318 := k319
            refine lv_goto (tgt := 140) hx hb dX8_read_60 (by decide) ?_
            refine lv_aload_n hx hb dX8_read_140 rfl (lv_at hl 3 rfl) ?_
            have k321 : M313 a0 1 = x33 := ((Fr.kp (k := 1) f310 hk_a0 rfl).trans (Fr.kp (k := 1) f63 hk_a0 rfl)).trans k62
            have k322 : M313 a0 2 = x59 := (Fr.kp (k := 2) f310 hk_a0 rfl).trans k309
            refine tw_goi hS (md_runU (As := []) (rest := []) hx hb hml hown hW hK hT hS.1 (t_X10_goesOn l D cy tx base Z K N M313 R29 J312 hS.2.1 a0 hz_a0 hk_a0 a1 k39 x33 k321 (iv_mono h_x33 (by decide) (by decide)) x59 k322 (iv_mono h58 (by decide) (by decide)) x318 k319 (iv_mono h317 (by decide) (by decide))) s_X8_61_X8 ⟨rfl, rfl, ⟨Nat.le_of_ble_eq_true rfl, Nat.le_of_ble_eq_true rfl⟩, ⟨Nat.le_of_ble_eq_true rfl, Nat.le_of_ble_eq_true rfl⟩⟩ hz_a0 hk_a0 (by decide) rfl rfl hl.1 rfl (Nat.le_of_ble_eq_true rfl) dX8_read_141) rfl rfl (fun x329 H locs M326 R327 J325 hS f323 g324 E328 => ?_)
            have eR327 := Fr.nil g324 rfl
            subst eR327
            obtain ⟨h_x329, p330⟩ := E328
            obtain ⟨x332, x334, k335, k336, h331, h333, q337⟩ := p330
            have k335 : M326 a0 2 = x332 := k335
            have k336 : M326 a0 3 = x334 := k336
            refine lv_istore_n (lv' := [(3, .int x329), (5, .int x69), (4, .int x27), (0, .ref (base + a0)), (1, .ref (base + a1)), (2, .int a2)]) hx hb dX8_read_144 rfl hl (by decide) rfl (fun ls hl => ?_)
            refine tw_iinc (lv' := fun x340 => [(4, .int x340), (3, .int x329), (5, .int x69), (0, .ref (base + a0)), (1, .ref (base + a1)), (2, .int a2)]) (lo := 1) (hi := 13) hx hb dX8_read_145 hl (k := 2) rfl h49 (by decide) ⟨by decide, by decide⟩ ⟨by decide, by decide⟩ (by decide) (fun _ => rfl) (fun x340 ls e339 h338 hl => ?_)
            refine lv_goto (tgt := 21) hx hb dX8_read_148 (by decide) ?_
            have k341 : M326 a0 1 = x33 := (Fr.kp (k := 1) f323 hk_a0 rfl).trans k321
            have w342 : x329.toInt = 0 ∨ (x334.toInt = 0 ∧ x332.toInt ≤ x33.toInt) := by
              have := (h_a2).1; have := (h_a2).2; have := (h44).1; have := (h44).2; have := (h_x329).1; have := (h_x329).2; have := (h_x33).1; have := (h_x33).2; have := (h331).1; have := (h331).2; have := (h333).1; have := (h333).2; have := (h_x35).1; have := (h_x35).2; have := (h_x37).1; have := (h_x37).2; have := (h58).1; have := (h58).2; have := (h71).1; have := (h71).2; omega
            have hm343 : 13 - x340.toInt < (n_28 : Int) := by
              have := (h_a2).1; have := (h_a2).2; have := (h49).1; have := (h49).2; have := (h338).1; have := (h338).2; omega
            exact ih_28 x329 x340 x33 x332 x334 M326 R29 J325 H locs _ h_x329 (iv_mono h338 (by decide) (by decide)) h_x33 k341 h331 k335 h333 k336 k39 w342 hm343 hS (lv_sub hl [1, 0, 3, 4, 5] rfl)
  have k344 : M25 a0 1 = x11 := ((Fr.kp (k := 1) f24 hk_a0 rfl).trans (Fr.kp (k := 1) f21 hk_a0 rfl)).trans k16
  have k345 : M25 a0 2 = x13 := ((Fr.kp (k := 2) f24 hk_a0 rfl).trans (Fr.kp (k := 2) f21 hk_a0 rfl)).trans k17
  have k346 : M25 a0 3 = x15 := ((Fr.kp (k := 3) f24 hk_a0 rfl).trans (Fr.kp (k := 3) f21 hk_a0 rfl)).trans k18
  have w347 : (1 : Int32).toInt = 0 ∨ (x15.toInt = 0 ∧ x13.toInt ≤ x11.toInt) := by
    have := (h_a2).1; have := (h_a2).2; have := (h10).1; have := (h10).2; have := (h12).1; have := (h12).2; have := (h14).1; have := (h14).2; have : (1 : Int32).toInt = 1 := (by decide); omega
  have hm348 : 13 - (0 : Int32).toInt < (((14 : Nat) : Int) : Int) := by
    have := (h_a2).1; have := (h_a2).2; have : (0 : Int32).toInt = 0 := (by decide); omega
  exact W21_28 14 1 0 x11 x13 x15 M25 R5 J3 H locs _ (iv_mono (iv_c (c := 1) (n := 1) (by decide)) (by decide) (by decide)) (iv_mono (iv_c (c := 0) (n := 0) (by decide)) (by decide) (by decide)) h10 k344 (iv_mono h12 (by decide) (by decide)) k345 (iv_mono h14 (by decide) (by decide)) k346 k9 w347 hm348 hS (lv_sub hl [1, 0, 2, 3, 4] rfl)
