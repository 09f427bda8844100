def Lt_X12_open : WL := [(12, 23, 24), (12, 28, 29), (12, 30, 33), (12, 35, 37), (14, 0, 2000000), (30, 0, 2000000), (31, 0, 2000000)]
def LRt_X12_open : WL := []
set_option maxRecDepth 100000 in
set_option maxHeartbeats 4000000 in
theorem t_X12_open (l : Launch) (D : va_G) (cy : Nat → ClassId) (tx : (Nat → Nat) × (Nat → Nat)) (base Z : Nat) (K N : Nat → Nat) (Ma : MT) (Ra : RT) (Ja : JT) (hTy : Ty Z K N Ma Ra) (a0 : Nat) (hz_a0 : a0 < Z) (hk_a0 : K a0 = 12) (a1 : Int32) (h_a1 : iv (-2147483648) 2147483647 a1) (a2 : Int32) (h_a2 : iv (-2147483648) 2147483647 a2) (a3 : Int32) (h_a3 : iv (-2147483648) 2147483647 a3) (co_a0 : Codes Ma Ra a0) : Met l yX12_open [Cond.code yX12_open cX12_open 6 (some .int)] (md_rm 6 0 0) (va_Pc [.ref (base + a0), .int a1, .int a2, .int a3] (md_U D cy tx base Z K N Ma Ra Ja)) (mQi D cy tx base (fun r u => TP Z K N Lt_X12_open LRt_X12_open Ma Ra u ∧ (iv (-2147483648) 2147483647 r))) 0 0 (fun q => base ≤ q) := by
  refine tw_ofW (L := Lt_X12_open) (LR := LRt_X12_open) (by decide) (Nat.le_of_ble_eq_true rfl) hTy ?_
  intro p e s m args below meth c Q ls hx hb hr hlocks hown hml hW hK hT hS hQ hl
  have hl : lv_has ls 6 [(0, .ref (base + a0)), (1, .int a1), (2, .int a2), (3, .int a3)] := hl
  refine lv_iload_n hx hb dX12_open_0 rfl (lv_at hl 1 rfl) ?_
  refine lv_i2l hx hb dX12_open_1 rfl ?_
  refine lv_lconst (v := 0) hx hb dX12_open_2 (by decide) ?_
  refine lv_ldc2 hx hb hown (hW _ w_8_45 rfl) dX12_open_3 ?_
  refine tw_goi hS (md_runS (As := [.long a1.toInt64, .long 0, .long 60]) (rest := []) hx hb hml hown hW hK hT hS.1 (t_X12_in l D cy tx base Z K N Ma Ra Ja hS.2.1 (a1.toInt64) (0) (60)) s_X12_155 ⟨rfl, rfl, ⟨Nat.le_of_ble_eq_true rfl, Nat.le_of_ble_eq_true rfl⟩, ⟨Nat.le_of_ble_eq_true rfl, Nat.le_of_ble_eq_true rfl⟩⟩ rfl hl.1 rfl (Nat.le_of_ble_eq_true rfl) dX12_open_6) rfl rfl (fun x7 H locs M4 R5 J3 hS f1 g2 E6 => ?_)
  have eM4 := Fr.nil f1 rfl
  subst eM4
  have eR5 := Fr.nil g2 rfl
  subst eR5
  obtain ⟨h_x7, p8⟩ := E6
  have p9 := p8.1
  refine lv_if_eq (tgt := 32) hx hb dX12_open_9 (by decide) (fun c10 => ?_) (fun c10 => ?_)
  · have q11 : x7.toInt = 0 := ti_eq c10
    have q12 := p8.2 c10
    have q12 : a1.toInt < 0 ∨ 60 < a1.toInt := by rw [Int32.toInt_toInt64] at q12; exact q12
    have h13 : iv 0 0 x7 := ⟨by have := (h_x7).1; have := ((iv_c (c := 0) (n := 0) (by decide))).1; omega, by have := (h_x7).2; have := ((iv_c (c := 0) (n := 0) (by decide))).2; omega⟩
    refine lv_ldcw hx hb hown (hW _ w_8_46 rfl) dX12_open_32 ?_
    exact tw_endi hx hb hr hlocks hK hT hS hQ ((iv_mono (iv_c (c := (-1000000)) (n := (-1000000)) (by decide)) (by decide) (by decide))) dX12_open_35
  · have q14 : ¬ x7.toInt = 0 := ti_ne c10
    have h15 : iv 1 1 x7 := ⟨by have := (h_x7).1; have := ((iv_c (c := 0) (n := 0) (by decide))).1; have := ((iv_c (c := 0) (n := 0) (by decide))).2; omega, by have := (h_x7).2; have := ((iv_c (c := 0) (n := 0) (by decide))).1; have := ((iv_c (c := 0) (n := 0) (by decide))).2; omega⟩
    have h16 : iv 0 60 a1 := in2iv (p9 c10) ((jv_c (x := 0) (n := 0) (by decide))).1 ((jv_c (x := 60) (n := 60) (by decide))).2
    refine lv_aload_n hx hb dX12_open_12 rfl (lv_at hl 0 rfl) ?_
    refine lv_iload_n hx hb dX12_open_13 rfl (lv_at hl 2 rfl) ?_
    refine tw_goi hS (md_runV (As := [.int a2]) (rest := []) hx hb hml hown hW hK hT hS.1 (t_X12_isMember l D cy tx base Z K N Ma Ra J3 hS.2.1 a0 hz_a0 hk_a0 a2 h_a2) s_X12_319 ⟨rfl, rfl, ⟨Nat.le_of_ble_eq_true rfl, Nat.le_of_ble_eq_true rfl⟩, ⟨Nat.le_of_ble_eq_true rfl, Nat.le_of_ble_eq_true rfl⟩⟩ hz_a0 hk_a0 (by decide) rfl rfl hl.1 rfl (Nat.le_of_ble_eq_true rfl) dX12_open_14) rfl rfl (fun x23 H locs M20 R21 J19 hS f17 g18 E22 => ?_)
    have eM20 := Fr.nil f17 rfl
    subst eM20
    have eR21 := Fr.nil g18 rfl
    subst eR21
    obtain ⟨h_x23, p24⟩ := E22
    refine lv_if_eq (tgt := 32) hx hb dX12_open_17 (by decide) (fun c25 => ?_) (fun c25 => ?_)
    · have q26 : x23.toInt = 0 := ti_eq c25
      have h27 : iv 0 0 x23 := ⟨by have := (h_x23).1; have := ((iv_c (c := 0) (n := 0) (by decide))).1; omega, by have := (h_x23).2; have := ((iv_c (c := 0) (n := 0) (by decide))).2; omega⟩
      refine lv_ldcw hx hb hown (hW _ w_8_46 rfl) dX12_open_32 ?_
      exact tw_endi hx hb hr hlocks hK hT hS hQ ((iv_mono (iv_c (c := (-1000000)) (n := (-1000000)) (by decide)) (by decide) (by decide))) dX12_open_35
    · have q28 : ¬ x23.toInt = 0 := ti_ne c25
      have h29 : iv 1 1 x23 := ⟨by have := (h_x23).1; have := ((iv_c (c := 0) (n := 0) (by decide))).1; have := ((iv_c (c := 0) (n := 0) (by decide))).2; omega, by have := (h_x23).2; have := ((iv_c (c := 0) (n := 0) (by decide))).1; have := ((iv_c (c := 0) (n := 0) (by decide))).2; omega⟩
      have h30 : iv 0 9 a2 := ⟨by have := (p24 c25).1; have := (h_a2).1; omega, by have := (p24 c25).2; have := (h_a2).2; omega⟩
      refine lv_iload_n hx hb dX12_open_20 rfl (lv_at hl 3 rfl) ?_
      refine lv_i2l hx hb dX12_open_21 rfl ?_
      refine lv_lconst (v := 0) hx hb dX12_open_22 (by decide) ?_
      refine lv_ldc2 hx hb hown (hW _ w_7_141 rfl) dX12_open_23 ?_
      refine tw_goi hS (md_runS (As := [.long a3.toInt64, .long 0, .long 4]) (rest := []) hx hb hml hown hW hK hT hS.1 (t_X12_in l D cy tx base Z K N Ma Ra J19 hS.2.1 (a3.toInt64) (0) (4)) s_X12_155 ⟨rfl, rfl, ⟨Nat.le_of_ble_eq_true rfl, Nat.le_of_ble_eq_true rfl⟩, ⟨Nat.le_of_ble_eq_true rfl, Nat.le_of_ble_eq_true rfl⟩⟩ rfl hl.1 rfl (Nat.le_of_ble_eq_true rfl) dX12_open_26) rfl rfl (fun x37 H locs M34 R35 J33 hS f31 g32 E36 => ?_)
      have eM34 := Fr.nil f31 rfl
      subst eM34
      have eR35 := Fr.nil g32 rfl
      subst eR35
      obtain ⟨h_x37, p38⟩ := E36
      have p39 := p38.1
      refine lv_if_ne (tgt := 36) hx hb dX12_open_29 (by decide) (fun c40 => ?_) (fun c40 => ?_)
      · have q41 : ¬ x37.toInt = 0 := ti_ne c40
        have h42 : iv 1 1 x37 := ⟨by have := (h_x37).1; have := ((iv_c (c := 0) (n := 0) (by decide))).1; have := ((iv_c (c := 0) (n := 0) (by decide))).2; omega, by have := (h_x37).2; have := ((iv_c (c := 0) (n := 0) (by decide))).1; have := ((iv_c (c := 0) (n := 0) (by decide))).2; omega⟩
        have h43 : iv 0 4 a3 := in2iv (p39 c40) ((jv_c (x := 0) (n := 0) (by decide))).1 ((jv_c (x := 4) (n := 4) (by decide))).2
        refine lv_aload_n hx hb dX12_open_36 rfl (lv_at hl 0 rfl) ?_
        obtain ⟨b44, k45, hz_b44, hk_b44, hn_b44⟩ := hS.2.1.ref hz_a0 hk_a0 (show rtR 12 25 = (23, 226, 0) from rfl)
        have hn_b44 := hn_b44 (by decide)
        obtain ⟨x48, k46⟩ : ∃ x, Ma b44 (4 : Int32).toNatClampNeg = x := ⟨_, rfl⟩
        have h47 : iv 0 8 x48 := by rw [← k46]; exact hS.2.1.int hz_b44 hk_b44 (show rgI 23 (4 : Int32).toNatClampNeg = (0, 8) from rfl)
        refine tw_gov hS (md_runV (As := []) (rest := []) hx hb hml hown hW hK hT hS.1 (t_X12_begins l D cy tx base Z K N Ma Ra J33 hS.2.1 a0 hz_a0 hk_a0 b44 k45 x48 k46 (iv_mono h47 (by decide) (by decide))) s_X12_393 ⟨rfl, rfl, ⟨Nat.le_of_ble_eq_true rfl, Nat.le_of_ble_eq_true rfl⟩, ⟨Nat.le_of_ble_eq_true rfl, Nat.le_of_ble_eq_true rfl⟩⟩ hz_a0 hk_a0 (by decide) rfl rfl hl.1 rfl (Nat.le_of_ble_eq_true rfl) dX12_open_37) rfl rfl (fun H locs M52 R53 J51 hS f49 g50 E54 => ?_)
        have eR53 := Fr.nil g50 rfl
        subst eR53
        have p55 := E54
        clear E54
        have k56 : M52 a0 30 = x48 := p55
        refine lv_aload_n hx hb dX12_open_40 rfl (lv_at hl 0 rfl) ?_
        refine lv_iconst (v := 0) hx hb dX12_open_41 (by decide) ?_
        refine tw_puti hx hb hW hown hK hS f_X12_410_11 hz_a0 hk_a0 rfl rfl (lo := (-2147483648)) (hi := 2147483647) rfl (iv_mono (iv_c (c := 0) (n := 0) (by decide)) (by decide) (by decide)) rfl dX12_open_42 (fun H locs M59 hS k57 f58 => ?_)
        refine lv_aload_n hx hb dX12_open_45 rfl (lv_at hl 0 rfl) ?_
        refine lv_iconst (v := 0) hx hb dX12_open_46 (by decide) ?_
        refine tw_puti hx hb hW hown hK hS f_X12_407_11 hz_a0 hk_a0 rfl rfl (lo := (-2147483648)) (hi := 2147483647) rfl (iv_mono (iv_c (c := 0) (n := 0) (by decide)) (by decide) (by decide)) rfl dX12_open_47 (fun H locs M62 hS k60 f61 => ?_)
        refine lv_iconst (v := 0) hx hb dX12_open_50 (by decide) ?_
        refine lv_istore (lv' := [(4, .int 0), (0, .ref (base + a0)), (1, .int a1), (2, .int a2), (3, .int a3)]) hx hb dX12_open_51 hl (by decide) rfl (fun ls hl => ?_)
        have W53_64 : ∀ (n_64 : Nat) (x63 : Int32) (M64 : MT) (R65 : RT) (J66 : JT) (H : Heap) (locs : List Loc) (ls : Array Slot) (h_x63 : iv 0 60 x63) (hm_64 : 60 - x63.toInt < (n_64 : Int)) (hS : SB D cy base Z K N Lt_X12_open LRt_X12_open Ma Ra M64 R65 J66 s H locs) (hl : lv_has ls 6 [(4, .int x63), (0, .ref (base + a0)), (1, .int a1), (2, .int a2), (3, .int a3)]), W p l e (md_rm 6 0 0) s m args below meth c H locs 0 0 Q (F0 m 53 ls []) := by
          intro n_64
          induction n_64 with
          | zero =>
            intro x63 M64 R65 J66 H locs ls h_x63 hm_64 hS hl
            exfalso
            have := (h16).1; have := (h16).2; have := (h30).1; have := (h30).2; have := (h43).1; have := (h43).2; have := (h_x63).1; have := (h_x63).2; omega
          | succ n_64 ih_64 =>
            intro x63 M64 R65 J66 H locs ls h_x63 hm_64 hS hl
            have f67 := hS.2.2.1
            have g68 := hS.2.2.2
            refine lv_iload hx hb dX12_open_53 (lv_at hl 0 rfl) ?_
            refine lv_iload_n hx hb dX12_open_55 rfl (lv_at hl 2 rfl) ?_
            have J80_69 : ∀  (M69 : MT) (R70 : RT) (J71 : JT) (H : Heap) (locs : List Loc) (ls : Array Slot) (hS : SB D cy base Z K N Lt_X12_open LRt_X12_open Ma Ra M69 R70 J71 s H locs) (hl : lv_has ls 6 [(4, .int x63), (0, .ref (base + a0)), (1, .int a1), (2, .int a2), (3, .int a3)]), W p l e (md_rm 6 0 0) s m args below meth c H locs 0 0 Q (F0 m 80 ls []) := by
              intro  M69 R70 J71 H locs ls  hS hl
              have f72 := hS.2.2.1
              have g73 := hS.2.2.2
              refine lv_iload_n hx hb dX12_open_80 rfl (lv_at hl 4 rfl) ?_
              refine lv_iconst (v := 2) hx hb dX12_open_81 (by decide) ?_
              refine lv_icmp_ge (tgt := 101) hx hb dX12_open_82 (by decide) (fun c74 => ?_) (fun c74 => ?_)
              · have q75 : 2 ≤ a3.toInt := ti_le c74
                have h76 : iv 2 4 a3 := iv_geL (y := 2) h43 (iv_c (c := 2) (n := 2) (by decide)) q75 (by decide)
                refine lv_aload_n hx hb dX12_open_101 rfl (lv_at hl 1 rfl) ?_
                refine tw_geti hx hb hW hown hK hS f_X12_410_11 hz_a0 hk_a0 (lo := (-2147483648)) (hi := 2147483647) rfl dX12_open_102 (fun x79 k78 h77 => ?_)
                refine lv_istore (lv' := [(4, .int x79), (0, .ref (base + a0)), (1, .int a1), (2, .int a2), (3, .int a3)]) hx hb dX12_open_105 hl (by decide) rfl (fun ls hl => ?_)
                refine lv_aload_n hx hb dX12_open_107 rfl (lv_at hl 1 rfl) ?_
                have k80 : R70 a0 25 = some b44 := (Fr.kp (k := 25) g73 hk_a0 rfl).trans k45
                have k81 : M69 b44 (4 : Int32).toNatClampNeg = x48 := (Fr.kp (k := (4 : Int32).toNatClampNeg) f72 hk_b44 rfl).trans k46
                refine tw_gov hS (md_runV (As := []) (rest := []) hx hb hml hown hW hK hT hS.1 (t_X12_begins l D cy tx base Z K N M69 R70 J71 hS.2.1 a0 hz_a0 hk_a0 b44 k80 x48 k81 (iv_mono h47 (by decide) (by decide))) s_X12_393 ⟨rfl, rfl, ⟨Nat.le_of_ble_eq_true rfl, Nat.le_of_ble_eq_true rfl⟩, ⟨Nat.le_of_ble_eq_true rfl, Nat.le_of_ble_eq_true rfl⟩⟩ hz_a0 hk_a0 (by decide) rfl rfl hl.1 rfl (Nat.le_of_ble_eq_true rfl) dX12_open_108) rfl rfl (fun H locs M85 R86 J84 hS f82 g83 E87 => ?_)
                have eR86 := Fr.nil g83 rfl
                subst eR86
                have p88 := E87
                clear E87
                have k89 : M85 a0 30 = x48 := p88
                refine lv_aload_n hx hb dX12_open_111 rfl (lv_at hl 1 rfl) ?_
                refine lv_iconst (v := 0) hx hb dX12_open_112 (by decide) ?_
                refine tw_puti hx hb hW hown hK hS f_X12_410_11 hz_a0 hk_a0 rfl rfl (lo := (-2147483648)) (hi := 2147483647) rfl (iv_mono (iv_c (c := 0) (n := 0) (by decide)) (by decide) (by decide)) rfl dX12_open_113 (fun H locs M92 hS k90 f91 => ?_)
                refine lv_aload_n hx hb dX12_open_116 rfl (lv_at hl 1 rfl) ?_
                refine lv_iconst (v := 0) hx hb dX12_open_117 (by decide) ?_
                refine tw_puti hx hb hW hown hK hS f_X12_407_11 hz_a0 hk_a0 rfl rfl (lo := (-2147483648)) (hi := 2147483647) rfl (iv_mono (iv_c (c := 0) (n := 0) (by decide)) (by decide) (by decide)) rfl dX12_open_118 (fun H locs M95 hS k93 f94 => ?_)
                refine lv_iconst (v := 0) hx hb dX12_open_121 (by decide) ?_
                refine lv_istore (lv' := [(5, .int 0), (4, .int x79), (0, .ref (base + a0)), (1, .int a1), (2, .int a2), (3, .int a3)]) hx hb dX12_open_122 hl (by decide) rfl (fun ls hl => ?_)
                have W124_97 : ∀ (n_97 : Nat) (x96 : Int32) (M97 : MT) (R98 : RT) (J99 : JT) (H : Heap) (locs : List Loc) (ls : Array Slot) (h_x96 : iv 0 60 x96) (hm_97 : 60 - x96.toInt < (n_97 : Int)) (hS : SB D cy base Z K N Lt_X12_open LRt_X12_open Ma Ra M97 R98 J99 s H locs) (hl : lv_has ls 6 [(5, .int x96), (4, .int x79), (0, .ref (base + a0)), (1, .int a1), (2, .int a2), (3, .int a3)]), W p l e (md_rm 6 0 0) s m args below meth c H locs 0 0 Q (F0 m 124 ls []) := by
                  intro n_97
                  induction n_97 with
                  | zero =>
                    intro x96 M97 R98 J99 H locs ls h_x96 hm_97 hS hl
                    exfalso
                    have := (h16).1; have := (h16).2; have := (h30).1; have := (h30).2; have := (h76).1; have := (h76).2; have := (h_x96).1; have := (h_x96).2; omega
                  | succ n_97 ih_97 =>
                    intro x96 M97 R98 J99 H locs ls h_x96 hm_97 hS hl
                    have f100 := hS.2.2.1
                    have g101 := hS.2.2.2
                    refine lv_iload hx hb dX12_open_124 (lv_at hl 0 rfl) ?_
                    refine lv_iload_n hx hb dX12_open_126 rfl (lv_at hl 3 rfl) ?_
                    refine lv_icmp_ge (tgt := 141) hx hb dX12_open_127 (by decide) (fun c102 => ?_) (fun c102 => ?_)
                    · have q103 : a1.toInt ≤ x96.toInt := ti_le c102
                      refine lv_iload_n hx hb dX12_open_141 rfl (lv_at hl 5 rfl) ?_
                      refine lv_iconst (v := 2) hx hb dX12_open_142 (by decide) ?_
                      refine lv_icmp_ne (tgt := 153) hx hb dX12_open_143 (by decide) (fun c104 => ?_) (fun c104 => ?_)
                      · have q105 : ¬ a3.toInt = 2 := ti_ne c104
                        have h106 : iv 3 4 a3 := ⟨by have := (h76).1; have := ((iv_c (c := 2) (n := 2) (by decide))).1; have := ((iv_c (c := 2) (n := 2) (by decide))).2; omega, by have := (h76).2; have := ((iv_c (c := 2) (n := 2) (by decide))).1; have := ((iv_c (c := 2) (n := 2) (by decide))).2; omega⟩
                        refine lv_iload_n hx hb dX12_open_153 rfl (lv_at hl 5 rfl) ?_
                        refine lv_iconst (v := 3) hx hb dX12_open_154 (by decide) ?_
                        refine lv_icmp_ne (tgt := 165) hx hb dX12_open_155 (by decide) (fun c107 => ?_) (fun c107 => ?_)
                        · have q108 : ¬ a3.toInt = 3 := ti_ne c107
                          have h109 : iv 4 4 a3 := ⟨by have := (h106).1; have := ((iv_c (c := 3) (n := 3) (by decide))).1; have := ((iv_c (c := 3) (n := 3) (by decide))).2; omega, by have := (h106).2; have := ((iv_c (c := 3) (n := 3) (by decide))).1; have := ((iv_c (c := 3) (n := 3) (by decide))).2; omega⟩
                          refine lv_iload hx hb dX12_open_165 (lv_at hl 1 rfl) ?_
                          refine lv_aload_n hx hb dX12_open_167 rfl (lv_at hl 2 rfl) ?_
                          refine tw_geti hx hb hW hown hK hS f_X12_410_11 hz_a0 hk_a0 (lo := (-2147483648)) (hi := 2147483647) rfl dX12_open_168 (fun x112 k111 h110 => ?_)
                          refine lv_isub hx hb dX12_open_171 ?_
                          refine tw_top (fun x114 => ?_)
                          have h113 := iv_any x114
                          exact tw_endi hx hb hr hlocks hK hT hS hQ (h113) dX12_open_172
                        · have q115 : a3.toInt = 3 := ti_eq c107
                          have h116 : iv 3 3 a3 := ⟨by have := (h106).1; have := ((iv_c (c := 3) (n := 3) (by decide))).1; omega, by have := (h106).2; have := ((iv_c (c := 3) (n := 3) (by decide))).2; omega⟩
                          refine lv_aload_n hx hb dX12_open_158 rfl (lv_at hl 2 rfl) ?_
                          refine tw_geti hx hb hW hown hK hS f_X12_407_11 hz_a0 hk_a0 (lo := (-2147483648)) (hi := 2147483647) rfl dX12_open_159 (fun x119 k118 h117 => ?_)
                          refine lv_goto (tgt := 172) hx hb dX12_open_162 (by decide) ?_
                          exact tw_endi hx hb hr hlocks hK hT hS hQ (h117) dX12_open_172
                      · have q120 : a3.toInt = 2 := ti_eq c104
                        have h121 : iv 2 2 a3 := ⟨by have := (h76).1; have := ((iv_c (c := 2) (n := 2) (by decide))).1; omega, by have := (h76).2; have := ((iv_c (c := 2) (n := 2) (by decide))).2; omega⟩
                        refine lv_aload_n hx hb dX12_open_146 rfl (lv_at hl 2 rfl) ?_
                        refine tw_geti hx hb hW hown hK hS f_X12_410_11 hz_a0 hk_a0 (lo := (-2147483648)) (hi := 2147483647) rfl dX12_open_147 (fun x124 k123 h122 => ?_)
                        refine lv_goto (tgt := 172) hx hb dX12_open_150 (by decide) ?_
                        exact tw_endi hx hb hr hlocks hK hT hS hQ (h122) dX12_open_172
                    · have q125 : x96.toInt < a1.toInt := ti_nle c102
                      have h126 : iv 0 59 x96 := iv_ltL (y := a1) h_x96 h16 q125 (by decide)
                      have h127 : iv 1 60 a1 := iv_gtL (y := x96) h16 h_x96 q125 (by decide)
                      refine lv_aload_n hx hb dX12_open_130 rfl (lv_at hl 2 rfl) ?_
                      refine lv_iload_n hx hb dX12_open_131 rfl (lv_at hl 4 rfl) ?_
                      refine tw_gov hS (md_runV (As := [.int a2]) (rest := []) hx hb hml hown hW hK hT hS.1 (t_X12_passesEvenly l D cy tx base Z K N M97 R98 J99 hS.2.1 a0 hz_a0 hk_a0 a2 h30 (Codes.fr co_a0 hTy hz_a0 hk_a0 hS.2.2.1 hS.2.2.2 rfl)) s_X12_423 ⟨rfl, rfl, ⟨Nat.le_of_ble_eq_true rfl, Nat.le_of_ble_eq_true rfl⟩, ⟨Nat.le_of_ble_eq_true rfl, Nat.le_of_ble_eq_true rfl⟩⟩ hz_a0 hk_a0 (by decide) rfl rfl hl.1 rfl (Nat.le_of_ble_eq_true rfl) dX12_open_132) rfl rfl (fun H locs M131 R132 J130 hS f128 g129 E133 => ?_)
                      have eR132 := Fr.nil g129 rfl
                      subst eR132
                      refine tw_iinc (lv' := fun x136 => [(5, .int x136), (4, .int x79), (0, .ref (base + a0)), (1, .int a1), (2, .int a2), (3, .int a3)]) (lo := 1) (hi := 60) hx hb dX12_open_135 hl (k := 0) rfl h126 (by decide) ⟨by decide, by decide⟩ ⟨by decide, by decide⟩ (by decide) (fun _ => rfl) (fun x136 ls e135 h134 hl => ?_)
                      refine lv_goto (tgt := 124) hx hb dX12_open_138 (by decide) ?_
                      have hm137 : 60 - x136.toInt < (n_97 : Int) := by
                        have := (h127).1; have := (h127).2; have := (h30).1; have := (h30).2; have := (h76).1; have := (h76).2; have := (h134).1; have := (h134).2; have := (h126).1; have := (h126).2; omega
                      exact ih_97 x136 M131 R98 J130 H locs _ (iv_mono h134 (by decide) (by decide)) hm137 hS hl
                have hm138 : 60 - (0 : Int32).toInt < (((61 : Nat) : Int) : Int) := by
                  have := (h16).1; have := (h16).2; have := (h30).1; have := (h30).2; have := (h76).1; have := (h76).2; have : (0 : Int32).toInt = 0 := (by decide); omega
                exact W124_97 61 0 M95 R70 J84 H locs _ (iv_mono (iv_c (c := 0) (n := 0) (by decide)) (by decide) (by decide)) hm138 hS hl
              · have q139 : a3.toInt < 2 := ti_nle c74
                have h140 : iv 0 1 a3 := iv_ltL (y := 2) h43 (iv_c (c := 2) (n := 2) (by decide)) q139 (by decide)
                refine lv_iload_n hx hb dX12_open_85 rfl (lv_at hl 4 rfl) ?_
                refine lv_if_ne (tgt := 96) hx hb dX12_open_86 (by decide) (fun c141 => ?_) (fun c141 => ?_)
                · have q142 : ¬ a3.toInt = 0 := ti_ne c141
                  have h143 : iv 1 1 a3 := ⟨by have := (h140).1; have := ((iv_c (c := 0) (n := 0) (by decide))).1; have := ((iv_c (c := 0) (n := 0) (by decide))).2; omega, by have := (h140).2; have := ((iv_c (c := 0) (n := 0) (by decide))).1; have := ((iv_c (c := 0) (n := 0) (by decide))).2; omega⟩
                  refine lv_aload_n hx hb dX12_open_96 rfl (lv_at hl 1 rfl) ?_
                  refine tw_geti hx hb hW hown hK hS f_X12_407_11 hz_a0 hk_a0 (lo := (-2147483648)) (hi := 2147483647) rfl dX12_open_97 (fun x146 k145 h144 => ?_)
                  exact tw_endi hx hb hr hlocks hK hT hS hQ (h144) dX12_open_100
                · have q147 : a3.toInt = 0 := ti_eq c141
                  have h148 : iv 0 0 a3 := ⟨by have := (h140).1; have := ((iv_c (c := 0) (n := 0) (by decide))).1; omega, by have := (h140).2; have := ((iv_c (c := 0) (n := 0) (by decide))).2; omega⟩
                  refine lv_aload_n hx hb dX12_open_89 rfl (lv_at hl 1 rfl) ?_
                  refine tw_geti hx hb hW hown hK hS f_X12_410_11 hz_a0 hk_a0 (lo := (-2147483648)) (hi := 2147483647) rfl dX12_open_90 (fun x151 k150 h149 => ?_)
                  refine lv_goto (tgt := 100) hx hb dX12_open_93 (by decide) ?_
                  exact tw_endi hx hb hr hlocks hK hT hS hQ (h149) dX12_open_100
            refine lv_icmp_ge (tgt := 80) hx hb dX12_open_56 (by decide) (fun c152 => ?_) (fun c152 => ?_)
            · have q153 : a1.toInt ≤ x63.toInt := ti_le c152
              exact J80_69  M64 R65 J66 H locs _  hS hl
            · have q154 : x63.toInt < a1.toInt := ti_nle c152
              have h155 : iv 0 59 x63 := iv_ltL (y := a1) h_x63 h16 q154 (by decide)
              have h156 : iv 1 60 a1 := iv_gtL (y := x63) h16 h_x63 q154 (by decide)
              refine lv_iload_n hx hb dX12_open_59 rfl (lv_at hl 4 rfl) ?_
              refine lv_iconst (v := 2) hx hb dX12_open_60 (by decide) ?_
              refine lv_icmp_eq (tgt := 80) hx hb dX12_open_61 (by decide) (fun c157 => ?_) (fun c157 => ?_)
              · have q158 : a3.toInt = 2 := ti_eq c157
                have h159 : iv 2 2 a3 := ⟨by have := (h43).1; have := ((iv_c (c := 2) (n := 2) (by decide))).1; omega, by have := (h43).2; have := ((iv_c (c := 2) (n := 2) (by decide))).2; omega⟩
                exact J80_69  M64 R65 J66 H locs _  hS hl
              · have q160 : ¬ a3.toInt = 2 := ti_ne c157
                refine lv_iload_n hx hb dX12_open_64 rfl (lv_at hl 4 rfl) ?_
                refine lv_iconst (v := 3) hx hb dX12_open_65 (by decide) ?_
                refine lv_icmp_eq (tgt := 80) hx hb dX12_open_66 (by decide) (fun c161 => ?_) (fun c161 => ?_)
                · have q162 : a3.toInt = 3 := ti_eq c161
                  have h163 : iv 3 3 a3 := ⟨by have := (h43).1; have := ((iv_c (c := 3) (n := 3) (by decide))).1; omega, by have := (h43).2; have := ((iv_c (c := 3) (n := 3) (by decide))).2; omega⟩
                  exact J80_69  M64 R65 J66 H locs _  hS hl
                · have q164 : ¬ a3.toInt = 3 := ti_ne c161
                  refine lv_aload_n hx hb dX12_open_69 rfl (lv_at hl 1 rfl) ?_
                  refine lv_iload_n hx hb dX12_open_70 rfl (lv_at hl 3 rfl) ?_
                  refine tw_gov hS (md_runV (As := [.int a2]) (rest := []) hx hb hml hown hW hK hT hS.1 (t_X12_passes l D cy tx base Z K N M64 R65 J66 hS.2.1 a0 hz_a0 hk_a0 a2 h30 (Codes.fr co_a0 hTy hz_a0 hk_a0 hS.2.2.1 hS.2.2.2 rfl)) s_X12_417 ⟨rfl, rfl, ⟨Nat.le_of_ble_eq_true rfl, Nat.le_of_ble_eq_true rfl⟩, ⟨Nat.le_of_ble_eq_true rfl, Nat.le_of_ble_eq_true rfl⟩⟩ hz_a0 hk_a0 (by decide) rfl rfl hl.1 rfl (Nat.le_of_ble_eq_true rfl) dX12_open_71) rfl rfl (fun H locs M168 R169 J167 hS f165 g166 E170 => ?_)
                  have eR169 := Fr.nil g166 rfl
                  subst eR169
                  refine tw_iinc (lv' := fun x173 => [(4, .int x173), (0, .ref (base + a0)), (1, .int a1), (2, .int a2), (3, .int a3)]) (lo := 1) (hi := 60) hx hb dX12_open_74 hl (k := 0) rfl h155 (by decide) ⟨by decide, by decide⟩ ⟨by decide, by decide⟩ (by decide) (fun _ => rfl) (fun x173 ls e172 h171 hl => ?_)
                  refine lv_goto (tgt := 53) hx hb dX12_open_77 (by decide) ?_
                  have hm174 : 60 - x173.toInt < (n_64 : Int) := by
                    have := (h156).1; have := (h156).2; have := (h30).1; have := (h30).2; have := (h43).1; have := (h43).2; have := (h171).1; have := (h171).2; have := (h155).1; have := (h155).2; omega
                  exact ih_64 x173 M168 R65 J167 H locs _ (iv_mono h171 (by decide) (by decide)) hm174 hS hl
        have hm175 : 60 - (0 : Int32).toInt < (((61 : Nat) : Int) : Int) := by
          have := (h16).1; have := (h16).2; have := (h30).1; have := (h30).2; have := (h43).1; have := (h43).2; have : (0 : Int32).toInt = 0 := (by decide); omega
        exact W53_64 61 0 M62 Ra J51 H locs _ (iv_mono (iv_c (c := 0) (n := 0) (by decide)) (by decide) (by decide)) hm175 hS hl
      · have q176 : x37.toInt = 0 := ti_eq c40
        have q177 := p38.2 c40
        have q177 : a3.toInt < 0 ∨ 4 < a3.toInt := by rw [Int32.toInt_toInt64] at q177; exact q177
        have h178 : iv 0 0 x37 := ⟨by have := (h_x37).1; have := ((iv_c (c := 0) (n := 0) (by decide))).1; omega, by have := (h_x37).2; have := ((iv_c (c := 0) (n := 0) (by decide))).2; omega⟩
        refine lv_ldcw hx hb hown (hW _ w_8_46 rfl) dX12_open_32 ?_
        exact tw_endi hx hb hr hlocks hK hT hS hQ ((iv_mono (iv_c (c := (-1000000)) (n := (-1000000)) (by decide)) (by decide) (by decide))) dX12_open_35
def Lt_X12_order : WL := [(14, 0, 2000000), (23, 4, 5), (23, 170, 178)]
def LRt_X12_order : WL := []
set_option maxRecDepth 100000 in
set_option maxHeartbeats 4000000 in
theorem t_X12_order (l : Launch) (D : va_G) (cy : Nat → ClassId) (tx : (Nat → Nat) × (Nat → Nat)) (base Z : Nat) (K N : Nat → Nat) (Ma : MT) (Ra : RT) (Ja : JT) (hTy : Ty Z K N Ma Ra) (a0 : Nat) (hz_a0 : a0 < Z) (hk_a0 : K a0 = 12) (a1 : Int32) (h_a1 : iv (-2147483648) 2147483647 a1) : Met l yX12_order [Cond.code yX12_order cX12_order 2 (some .int)] (md_rm 2 0 0) (va_Pc [.ref (base + a0), .int a1] (md_U D cy tx base Z K N Ma Ra Ja)) (mQi D cy tx base (fun r u => TP Z K N Lt_X12_order LRt_X12_order Ma Ra u ∧ (iv (-2) 8 r))) 0 0 (fun q => base ≤ q) := by
  refine tw_ofW (L := Lt_X12_order) (LR := LRt_X12_order) (by decide) (Nat.le_of_ble_eq_true rfl) hTy ?_
  intro p e s m args below meth c Q ls hx hb hr hlocks hown hml hW hK hT hS hQ hl
  have hl : lv_has ls 2 [(0, .ref (base + a0)), (1, .int a1)] := hl
  refine lv_iload_n hx hb dX12_order_0 rfl (lv_at hl 1 rfl) ?_
  refine lv_iconst (v := (-1)) hx hb dX12_order_1 (by decide) ?_
  refine lv_icmp_ne (tgt := 14) hx hb dX12_order_2 (by decide) (fun c1 => ?_) (fun c1 => ?_)
  · have q2 : ¬ a1.toInt = (-1) := ti_ne c1
    refine lv_aload_n hx hb dX12_order_14 rfl (lv_at hl 0 rfl) ?_
    refine lv_iload_n hx hb dX12_order_15 rfl (lv_at hl 1 rfl) ?_
    refine tw_goi hS (md_runV (As := [.int a1]) (rest := []) hx hb hml hown hW hK hT hS.1 (t_X12_isPoint l D cy tx base Z K N Ma Ra Ja hS.2.1 a0 hz_a0 hk_a0 a1 h_a1) s_X12_327 ⟨rfl, rfl, ⟨Nat.le_of_ble_eq_true rfl, Nat.le_of_ble_eq_true rfl⟩, ⟨Nat.le_of_ble_eq_true rfl, Nat.le_of_ble_eq_true rfl⟩⟩ hz_a0 hk_a0 (by decide) rfl rfl hl.1 rfl (Nat.le_of_ble_eq_true rfl) dX12_order_16) rfl rfl (fun x9 H locs M6 R7 J5 hS f3 g4 E8 => ?_)
    have eM6 := Fr.nil f3 rfl
    subst eM6
    have eR7 := Fr.nil g4 rfl
    subst eR7
    obtain ⟨h_x9, p10⟩ := E8
    refine lv_if_ne (tgt := 28) hx hb dX12_order_19 (by decide) (fun c11 => ?_) (fun c11 => ?_)
    · have q12 : ¬ x9.toInt = 0 := ti_ne c11
      have h13 : iv 1 1 x9 := ⟨by have := (h_x9).1; have := ((iv_c (c := 0) (n := 0) (by decide))).1; have := ((iv_c (c := 0) (n := 0) (by decide))).2; omega, by have := (h_x9).2; have := ((iv_c (c := 0) (n := 0) (by decide))).1; have := ((iv_c (c := 0) (n := 0) (by decide))).2; omega⟩
      have h14 : iv 0 11 a1 := ⟨by have := (p10 c11).1; have := (h_a1).1; omega, by have := (p10 c11).2; have := (h_a1).2; omega⟩
      refine lv_aload_n hx hb dX12_order_28 rfl (lv_at hl 0 rfl) ?_
      refine tw_getr hx hb hW hown hK hS f_X12_45_11 hz_a0 hk_a0 (t := 23) (n := 226) rfl dX12_order_29 (fun b15 k16 hz_b15 hk_b15 hn_b15 => ?_)
      have hn_b15 := hn_b15 (by decide)
      refine lv_iconst (v := 4) hx hb dX12_order_32 (by decide) ?_
      refine tw_iald hx hb hK hS hz_b15 hk_b15 (Or.inr (by decide)) hn_b15 (lo := 0) (hi := 8) (iv_c (c := 4) (n := 4) (by decide)) ⟨by decide, by decide⟩ (rg_c (k0 := 4) rfl rfl rfl) dX12_order_33 (fun x19 k18 h17 => ?_)
      refine lv_bipush (v := 8) hx hb dX12_order_34 (by decide) ?_
      refine lv_icmp_ne (tgt := 45) hx hb dX12_order_36 (by decide) (fun c20 => ?_) (fun c20 => ?_)
      · have q21 : ¬ x19.toInt = 8 := ti_ne c20
        have h22 : iv 0 7 x19 := ⟨by have := (h17).1; have := ((iv_c (c := 8) (n := 8) (by decide))).1; have := ((iv_c (c := 8) (n := 8) (by decide))).2; omega, by have := (h17).2; have := ((iv_c (c := 8) (n := 8) (by decide))).1; have := ((iv_c (c := 8) (n := 8) (by decide))).2; omega⟩
        refine lv_aload_n hx hb dX12_order_45 rfl (lv_at hl 0 rfl) ?_
        refine tw_getrk hx hb hW hown hK hS f_X12_45_11 hz_a0 hk_a0 (b := b15) k16 dX12_order_46 ?_
        refine lv_sipush (v := 170) hx hb dX12_order_49 (by decide) ?_
        refine lv_aload_n hx hb dX12_order_52 rfl (lv_at hl 0 rfl) ?_
        refine tw_getrk hx hb hW hown hK hS f_X12_45_11 hz_a0 hk_a0 (b := b15) k16 dX12_order_53 ?_
        refine lv_iconst (v := 4) hx hb dX12_order_56 (by decide) ?_
        refine tw_ialk hx hb hK hS hz_b15 hk_b15 (Or.inr (by decide)) hn_b15 (iv_c (c := 4) (n := 4) (by decide)) ⟨by decide, by decide⟩ (v := x19) k18 dX12_order_57 ?_
        refine tw_iadd (lo := 170) (hi := 177) hx hb (iv_c (c := 170) (n := 170) (by decide)) h22 ⟨by decide, by decide⟩ ⟨by decide, by decide⟩ dX12_order_58 (fun x25 e24 h23 => ?_)
        have e24 : x25.toInt = 170 + x19.toInt := e24
        refine lv_iload_n hx hb dX12_order_59 rfl (lv_at hl 1 rfl) ?_
        refine tw_iast hx hb hK hS hz_b15 hk_b15 (Or.inr (by decide)) hn_b15 h23 ⟨by decide, by decide⟩ h14 (rg_sos ⟨by decide, by decide⟩ ⟨by decide, by decide⟩) (jl := 170) (jh := 177) ⟨by decide, by decide⟩ rfl dX12_order_60 (fun H locs M28 hS k26 f27 => ?_)
        refine lv_aload_n hx hb dX12_order_61 rfl (lv_at hl 0 rfl) ?_
        refine tw_getrk hx hb hW hown hK hS f_X12_45_11 hz_a0 hk_a0 (b := b15) k16 dX12_order_62 ?_
        refine lv_iconst (v := 4) hx hb dX12_order_65 (by decide) ?_
        refine lv_dup2_11 hx hb dX12_order_66 rfl rfl ?_
        have k29 : M28 b15 (4 : Int32).toNatClampNeg = x19 := (Fr.kp (k := (4 : Int32).toNatClampNeg) f27 hk_b15 rfl).trans k18
        refine tw_ialk hx hb hK hS hz_b15 hk_b15 (Or.inr (by decide)) hn_b15 (iv_c (c := 4) (n := 4) (by decide)) ⟨by decide, by decide⟩ (v := x19) k29 dX12_order_67 ?_
        refine lv_iconst (v := 1) hx hb dX12_order_68 (by decide) ?_
        refine tw_iadd (lo := 1) (hi := 8) hx hb h22 (iv_c (c := 1) (n := 1) (by decide)) ⟨by decide, by decide⟩ ⟨by decide, by decide⟩ dX12_order_69 (fun x32 e31 h30 => ?_)
        have e31 : x32.toInt = x19.toInt + 1 := e31
        refine tw_iast hx hb hK hS hz_b15 hk_b15 (Or.inr (by decide)) hn_b15 (iv_c (c := 4) (n := 4) (by decide)) ⟨by decide, by decide⟩ h30 (rg_cs (k0 := 4) rfl rfl rfl ⟨by decide, by decide⟩) (jl := 4) (jh := 4) ⟨by decide, by decide⟩ rfl dX12_order_70 (fun H locs M35 hS k33 f34 => ?_)
        refine lv_aload_n hx hb dX12_order_71 rfl (lv_at hl 0 rfl) ?_
        refine tw_getrk hx hb hW hown hK hS f_X12_45_11 hz_a0 hk_a0 (b := b15) k16 dX12_order_72 ?_
        refine lv_iconst (v := 4) hx hb dX12_order_75 (by decide) ?_
        refine tw_ialk hx hb hK hS hz_b15 hk_b15 (Or.inr (by decide)) hn_b15 (iv_c (c := 4) (n := 4) (by decide)) ⟨by decide, by decide⟩ (v := x32) k33 dX12_order_76 ?_
        exact tw_endi hx hb hr hlocks hK hT hS hQ ((iv_mono h30 (by decide) (by decide))) dX12_order_77
      · have q36 : x19.toInt = 8 := ti_eq c20
        have h37 : iv 8 8 x19 := ⟨by have := (h17).1; have := ((iv_c (c := 8) (n := 8) (by decide))).1; omega, by have := (h17).2; have := ((iv_c (c := 8) (n := 8) (by decide))).2; omega⟩
        refine lv_aload_n hx hb dX12_order_39 rfl (lv_at hl 0 rfl) ?_
        refine lv_iconst (v := 1) hx hb dX12_order_40 (by decide) ?_
        refine tw_goi hS (md_runV (As := [.int 1]) (rest := []) hx hb hml hown hW hK hT hS.1 (t_X12_refuses l D cy tx base Z K N Ma Ra J5 hS.2.1 a0 hz_a0 hk_a0 1 (iv_mono (iv_c (c := 1) (n := 1) (by decide)) (by decide) (by decide))) s_X12_338 ⟨rfl, rfl, ⟨Nat.le_of_ble_eq_true rfl, Nat.le_of_ble_eq_true rfl⟩, ⟨Nat.le_of_ble_eq_true rfl, Nat.le_of_ble_eq_true rfl⟩⟩ hz_a0 hk_a0 (by decide) rfl rfl hl.1 rfl (Nat.le_of_ble_eq_true rfl) dX12_order_41) rfl rfl (fun x44 H locs M41 R42 J40 hS f38 g39 E43 => ?_)
        have eR42 := Fr.nil g39 rfl
        subst eR42
        have h_x44 := E43
        clear E43
        exact tw_endi hx hb hr hlocks hK hT hS hQ ((iv_mono h_x44 (by decide) (by decide))) dX12_order_44
    · have q45 : x9.toInt = 0 := ti_eq c11
      have h46 : iv 0 0 x9 := ⟨by have := (h_x9).1; have := ((iv_c (c := 0) (n := 0) (by decide))).1; omega, by have := (h_x9).2; have := ((iv_c (c := 0) (n := 0) (by decide))).2; omega⟩
      refine lv_aload_n hx hb dX12_order_22 rfl (lv_at hl 0 rfl) ?_
      refine lv_iconst (v := 0) hx hb dX12_order_23 (by decide) ?_
      refine tw_goi hS (md_runV (As := [.int 0]) (rest := []) hx hb hml hown hW hK hT hS.1 (t_X12_refuses l D cy tx base Z K N Ma Ra J5 hS.2.1 a0 hz_a0 hk_a0 0 (iv_mono (iv_c (c := 0) (n := 0) (by decide)) (by decide) (by decide))) s_X12_338 ⟨rfl, rfl, ⟨Nat.le_of_ble_eq_true rfl, Nat.le_of_ble_eq_true rfl⟩, ⟨Nat.le_of_ble_eq_true rfl, Nat.le_of_ble_eq_true rfl⟩⟩ hz_a0 hk_a0 (by decide) rfl rfl hl.1 rfl (Nat.le_of_ble_eq_true rfl) dX12_order_24) rfl rfl (fun x53 H locs M50 R51 J49 hS f47 g48 E52 => ?_)
      have eR51 := Fr.nil g48 rfl
      subst eR51
      have h_x53 := E52
      clear E52
      exact tw_endi hx hb hr hlocks hK hT hS hQ ((iv_mono h_x53 (by decide) (by decide))) dX12_order_27
  · have q54 : a1.toInt = (-1) := ti_eq c1
    have h55 : iv (-1) (-1) a1 := ⟨by have := (h_a1).1; have := ((iv_c (c := (-1)) (n := (-1)) (by decide))).1; omega, by have := (h_a1).2; have := ((iv_c (c := (-1)) (n := (-1)) (by decide))).2; omega⟩
    refine lv_aload_n hx hb dX12_order_5 rfl (lv_at hl 0 rfl) ?_
    refine tw_getr hx hb hW hown hK hS f_X12_45_11 hz_a0 hk_a0 (t := 23) (n := 226) rfl dX12_order_6 (fun b56 k57 hz_b56 hk_b56 hn_b56 => ?_)
    have hn_b56 := hn_b56 (by decide)
    refine lv_iconst (v := 4) hx hb dX12_order_9 (by decide) ?_
    refine lv_iconst (v := 0) hx hb dX12_order_10 (by decide) ?_
    refine tw_iast hx hb hK hS hz_b56 hk_b56 (Or.inr (by decide)) hn_b56 (iv_c (c := 4) (n := 4) (by decide)) ⟨by decide, by decide⟩ (iv_c (c := 0) (n := 0) (by decide)) (rg_0 ⟨rfl, rfl⟩) (jl := 4) (jh := 4) ⟨by decide, by decide⟩ rfl dX12_order_11 (fun H locs M60 hS k58 f59 => ?_)
    refine lv_iconst (v := 0) hx hb dX12_order_12 (by decide) ?_
    exact tw_endi hx hb hr hlocks hK hT hS hQ ((iv_mono (iv_c (c := 0) (n := 0) (by decide)) (by decide) (by decide))) dX12_order_13
def Lt_X12_ordered : WL := []
def LRt_X12_ordered : WL := []
set_option maxRecDepth 100000 in
set_option maxHeartbeats 4000000 in
theorem t_X12_ordered (l : Launch) (D : va_G) (cy : Nat → ClassId) (tx : (Nat → Nat) × (Nat → Nat)) (base Z : Nat) (K N : Nat → Nat) (Ma : MT) (Ra : RT) (Ja : JT) (hTy : Ty Z K N Ma Ra) (a0 : Nat) (hz_a0 : a0 < Z) (hk_a0 : K a0 = 12) (a1 : Int32) (h_a1 : iv (-2147483648) 2147483647 a1) : Met l yX12_ordered [Cond.code yX12_ordered cX12_ordered 2 (some .int)] (md_rm 1 0 0) (va_Pc [.ref (base + a0), .int a1] (md_U D cy tx base Z K N Ma Ra Ja)) (mQi D cy tx base (fun r u => TP Z K N Lt_X12_ordered LRt_X12_ordered Ma Ra u ∧ (iv (-1) 11 r))) 0 0 (fun q => base ≤ q) := by
  refine tw_ofW (L := Lt_X12_ordered) (LR := LRt_X12_ordered) (by decide) (Nat.le_of_ble_eq_true rfl) hTy ?_
  intro p e s m args below meth c Q ls hx hb hr hlocks hown hml hW hK hT hS hQ hl
  have hl : lv_has ls 2 [(0, .ref (base + a0)), (1, .int a1)] := hl
  refine lv_iload_n hx hb dX12_ordered_0 rfl (lv_at hl 1 rfl) ?_
  refine lv_if_lt (tgt := 27) hx hb dX12_ordered_1 (by decide) (fun c1 => ?_) (fun c1 => ?_)
  · have q2 : a1.toInt < 0 := ti_lt c1
    have h3 : iv (-2147483648) (-1) a1 := iv_ltL (y := 0) h_a1 (iv_c (c := 0) (n := 0) (by decide)) q2 (by decide)
    refine lv_iconst (v := (-1)) hx hb dX12_ordered_27 (by decide) ?_
    exact tw_endi hx hb hr hlocks hK hT hS hQ ((iv_mono (iv_c (c := (-1)) (n := (-1)) (by decide)) (by decide) (by decide))) dX12_ordered_28
  · have q4 : 0 ≤ a1.toInt := ti_nlt c1
    have h5 : iv 0 2147483647 a1 := iv_geL (y := 0) h_a1 (iv_c (c := 0) (n := 0) (by decide)) q4 (by decide)
    refine lv_iload_n hx hb dX12_ordered_4 rfl (lv_at hl 1 rfl) ?_
    refine lv_aload_n hx hb dX12_ordered_5 rfl (lv_at hl 0 rfl) ?_
    refine tw_getr hx hb hW hown hK hS f_X12_45_11 hz_a0 hk_a0 (t := 23) (n := 226) rfl dX12_ordered_6 (fun b6 k7 hz_b6 hk_b6 hn_b6 => ?_)
    have hn_b6 := hn_b6 (by decide)
    refine lv_iconst (v := 4) hx hb dX12_ordered_9 (by decide) ?_
    refine tw_iald hx hb hK hS hz_b6 hk_b6 (Or.inr (by decide)) hn_b6 (lo := 0) (hi := 8) (iv_c (c := 4) (n := 4) (by decide)) ⟨by decide, by decide⟩ (rg_c (k0 := 4) rfl rfl rfl) dX12_ordered_10 (fun x10 k9 h8 => ?_)
    refine lv_icmp_ge (tgt := 27) hx hb dX12_ordered_11 (by decide) (fun c11 => ?_) (fun c11 => ?_)
    · have q12 : x10.toInt ≤ a1.toInt := ti_le c11
      refine lv_iconst (v := (-1)) hx hb dX12_ordered_27 (by decide) ?_
      exact tw_endi hx hb hr hlocks hK hT hS hQ ((iv_mono (iv_c (c := (-1)) (n := (-1)) (by decide)) (by decide) (by decide))) dX12_ordered_28
    · have q13 : a1.toInt < x10.toInt := ti_nle c11
      have h14 : iv 0 7 a1 := iv_ltL (y := x10) h5 h8 q13 (by decide)
      have h15 : iv 1 8 x10 := iv_gtL (y := a1) h8 h5 q13 (by decide)
      refine lv_aload_n hx hb dX12_ordered_14 rfl (lv_at hl 0 rfl) ?_
      refine tw_getrk hx hb hW hown hK hS f_X12_45_11 hz_a0 hk_a0 (b := b6) k7 dX12_ordered_15 ?_
      refine lv_sipush (v := 170) hx hb dX12_ordered_18 (by decide) ?_
      refine lv_iload_n hx hb dX12_ordered_21 rfl (lv_at hl 1 rfl) ?_
      refine tw_iadd (lo := 170) (hi := 177) hx hb (iv_c (c := 170) (n := 170) (by decide)) h14 ⟨by decide, by decide⟩ ⟨by decide, by decide⟩ dX12_ordered_22 (fun x18 e17 h16 => ?_)
      have e17 : x18.toInt = 170 + a1.toInt := e17
      refine tw_iald hx hb hK hS hz_b6 hk_b6 (Or.inr (by decide)) hn_b6 (lo := 0) (hi := 11) h16 ⟨by decide, by decide⟩ (rg_so ⟨by decide, by decide⟩) dX12_ordered_23 (fun x21 k20 h19 => ?_)
      refine lv_goto (tgt := 28) hx hb dX12_ordered_24 (by decide) ?_
      exact tw_endi hx hb hr hlocks hK hT hS hQ ((iv_mono h19 (by decide) (by decide))) dX12_ordered_28
def Lt_X12_rounds : WL := [(12, 23, 24), (12, 28, 29), (12, 30, 33), (12, 35, 37), (14, 0, 2000000), (30, 0, 2000000), (31, 0, 2000000)]
def LRt_X12_rounds : WL := []
set_option maxRecDepth 100000 in
set_option maxHeartbeats 4000000 in
theorem t_X12_rounds (l : Launch) (D : va_G) (cy : Nat → ClassId) (tx : (Nat → Nat) × (Nat → Nat)) (base Z : Nat) (K N : Nat → Nat) (Ma : MT) (Ra : RT) (Ja : JT) (hTy : Ty Z K N Ma Ra) (a0 : Nat) (hz_a0 : a0 < Z) (hk_a0 : K a0 = 12) (a1 : Int32) (h_a1 : iv (-2147483648) 2147483647 a1) (co_a0 : Codes Ma Ra a0) : Met l yX12_rounds [Cond.code yX12_rounds cX12_rounds 4 (some .int)] (md_rm 5 0 0) (va_Pc [.ref (base + a0), .int a1] (md_U D cy tx base Z K N Ma Ra Ja)) (mQi D cy tx base (fun r u => TP Z K N Lt_X12_rounds LRt_X12_rounds Ma Ra u ∧ (iv (-2147483648) 2147483647 r))) 0 0 (fun q => base ≤ q) := by
  refine tw_ofW (L := Lt_X12_rounds) (LR := LRt_X12_rounds) (by decide) (Nat.le_of_ble_eq_true rfl) hTy ?_
  intro p e s m args below meth c Q ls hx hb hr hlocks hown hml hW hK hT hS hQ hl
  have hl : lv_has ls 4 [(0, .ref (base + a0)), (1, .int a1)] := hl
  refine lv_aload_n hx hb dX12_rounds_0 rfl (lv_at hl 0 rfl) ?_
  refine tw_getr hx hb hW hown hK hS f_X12_45_11 hz_a0 hk_a0 (t := 23) (n := 226) rfl dX12_rounds_1 (fun b1 k2 hz_b1 hk_b1 hn_b1 => ?_)
  have hn_b1 := hn_b1 (by decide)
  refine lv_iconst (v := 4) hx hb dX12_rounds_4 (by decide) ?_
  refine tw_iald hx hb hK hS hz_b1 hk_b1 (Or.inr (by decide)) hn_b1 (lo := 0) (hi := 8) (iv_c (c := 4) (n := 4) (by decide)) ⟨by decide, by decide⟩ (rg_c (k0 := 4) rfl rfl rfl) dX12_rounds_5 (fun x5 k4 h3 => ?_)
  refine lv_if_eq (tgt := 31) hx hb dX12_rounds_6 (by decide) (fun c6 => ?_) (fun c6 => ?_)
  · have q7 : x5.toInt = 0 := ti_eq c6
    have h8 : iv 0 0 x5 := ⟨by have := (h3).1; have := ((iv_c (c := 0) (n := 0) (by decide))).1; omega, by have := (h3).2; have := ((iv_c (c := 0) (n := 0) (by decide))).2; omega⟩
    refine lv_iconst (v := (-1)) hx hb dX12_rounds_31 (by decide) ?_
    exact tw_endi hx hb hr hlocks hK hT hS hQ ((iv_mono (iv_c (c := (-1)) (n := (-1)) (by decide)) (by decide) (by decide))) dX12_rounds_32
  · have q9 : ¬ x5.toInt = 0 := ti_ne c6
    have h10 : iv 1 8 x5 := ⟨by have := (h3).1; have := ((iv_c (c := 0) (n := 0) (by decide))).1; have := ((iv_c (c := 0) (n := 0) (by decide))).2; omega, by have := (h3).2; have := ((iv_c (c := 0) (n := 0) (by decide))).1; have := ((iv_c (c := 0) (n := 0) (by decide))).2; omega⟩
    refine lv_iload_n hx hb dX12_rounds_9 rfl (lv_at hl 1 rfl) ?_
    refine lv_i2l hx hb dX12_rounds_10 rfl ?_
    refine lv_lconst (v := 0) hx hb dX12_rounds_11 (by decide) ?_
    refine lv_ldc2 hx hb hown (hW _ w_7_178 rfl) dX12_rounds_12 ?_
    refine tw_goi hS (md_runS (As := [.long a1.toInt64, .long 0, .long 2]) (rest := []) hx hb hml hown hW hK hT hS.1 (t_X12_in l D cy tx base Z K N Ma Ra Ja hS.2.1 (a1.toInt64) (0) (2)) s_X12_155 ⟨rfl, rfl, ⟨Nat.le_of_ble_eq_true rfl, Nat.le_of_ble_eq_true rfl⟩, ⟨Nat.le_of_ble_eq_true rfl, Nat.le_of_ble_eq_true rfl⟩⟩ rfl hl.1 rfl (Nat.le_of_ble_eq_true rfl) dX12_rounds_15) rfl rfl (fun x17 H locs M14 R15 J13 hS f11 g12 E16 => ?_)
    have eM14 := Fr.nil f11 rfl
    subst eM14
    have eR15 := Fr.nil g12 rfl
    subst eR15
    obtain ⟨h_x17, p18⟩ := E16
    have p19 := p18.1
    refine lv_if_ne (tgt := 33) hx hb dX12_rounds_18 (by decide) (fun c20 => ?_) (fun c20 => ?_)
    · have q21 : ¬ x17.toInt = 0 := ti_ne c20
      have h22 : iv 1 1 x17 := ⟨by have := (h_x17).1; have := ((iv_c (c := 0) (n := 0) (by decide))).1; have := ((iv_c (c := 0) (n := 0) (by decide))).2; omega, by have := (h_x17).2; have := ((iv_c (c := 0) (n := 0) (by decide))).1; have := ((iv_c (c := 0) (n := 0) (by decide))).2; omega⟩
      have h23 : iv 0 2 a1 := in2iv (p19 c20) ((jv_c (x := 0) (n := 0) (by decide))).1 ((jv_c (x := 2) (n := 2) (by decide))).2
      refine lv_aload_n hx hb dX12_rounds_33 rfl (lv_at hl 0 rfl) ?_
      refine tw_gov hS (md_runV (As := []) (rest := []) hx hb hml hown hW hK hT hS.1 (t_X12_begins l D cy tx base Z K N Ma Ra J13 hS.2.1 a0 hz_a0 hk_a0 b1 k2 x5 k4 (iv_mono h10 (by decide) (by decide))) s_X12_393 ⟨rfl, rfl, ⟨Nat.le_of_ble_eq_true rfl, Nat.le_of_ble_eq_true rfl⟩, ⟨Nat.le_of_ble_eq_true rfl, Nat.le_of_ble_eq_true rfl⟩⟩ hz_a0 hk_a0 (by decide) rfl rfl hl.1 rfl (Nat.le_of_ble_eq_true rfl) dX12_rounds_34) rfl rfl (fun H locs M27 R28 J26 hS f24 g25 E29 => ?_)
      have eR28 := Fr.nil g25 rfl
      subst eR28
      have p30 := E29
      clear E29
      have k31 : M27 a0 30 = x5 := p30
      refine lv_aload_n hx hb dX12_rounds_37 rfl (lv_at hl 0 rfl) ?_
      refine lv_iconst (v := 0) hx hb dX12_rounds_38 (by decide) ?_
      refine tw_puti hx hb hW hown hK hS f_X12_407_11 hz_a0 hk_a0 rfl rfl (lo := (-2147483648)) (hi := 2147483647) rfl (iv_mono (iv_c (c := 0) (n := 0) (by decide)) (by decide) (by decide)) rfl dX12_rounds_39 (fun H locs M34 hS k32 f33 => ?_)
      refine lv_aload_n hx hb dX12_rounds_42 rfl (lv_at hl 0 rfl) ?_
      refine lv_iconst (v := 0) hx hb dX12_rounds_43 (by decide) ?_
      refine tw_gov hS (md_runV (As := [.int 0]) (rest := []) hx hb hml hown hW hK hT hS.1 (t_X12_keepsDay l D cy tx base Z K N M34 Ra J26 hS.2.1 a0 hz_a0 hk_a0 0 (iv_mono (iv_c (c := 0) (n := 0) (by decide)) (by decide) (by decide))) s_X12_478 ⟨rfl, rfl, ⟨Nat.le_of_ble_eq_true rfl, Nat.le_of_ble_eq_true rfl⟩, ⟨Nat.le_of_ble_eq_true rfl, Nat.le_of_ble_eq_true rfl⟩⟩ hz_a0 hk_a0 (by decide) rfl rfl hl.1 rfl (Nat.le_of_ble_eq_true rfl) dX12_rounds_44) rfl rfl (fun H locs M38 R39 J37 hS f35 g36 E40 => ?_)
      have eR39 := Fr.nil g36 rfl
      subst eR39
      refine lv_iconst (v := 1) hx hb dX12_rounds_47 (by decide) ?_
      refine lv_istore_n (lv' := [(2, .int 1), (0, .ref (base + a0)), (1, .int a1)]) hx hb dX12_rounds_48 rfl hl (by decide) rfl (fun ls hl => ?_)
      have W49_42 : ∀ (n_42 : Nat) (x41 : Int32) (M42 : MT) (R43 : RT) (J44 : JT) (H : Heap) (locs : List Loc) (ls : Array Slot) (h_x41 : iv 1 301 x41) (hm_42 : 301 - x41.toInt < (n_42 : Int)) (hS : SB D cy base Z K N Lt_X12_rounds LRt_X12_rounds Ma Ra M42 R43 J44 s H locs) (hl : lv_has ls 4 [(2, .int x41), (0, .ref (base + a0)), (1, .int a1)]), W p l e (md_rm 5 0 0) s m args below meth c H locs 0 0 Q (F0 m 49 ls []) := by
        intro n_42
        induction n_42 with
        | zero =>
          intro x41 M42 R43 J44 H locs ls h_x41 hm_42 hS hl
          exfalso
          have := (h23).1; have := (h23).2; have := (h_x41).1; have := (h_x41).2; omega
        | succ n_42 ih_42 =>
          intro x41 M42 R43 J44 H locs ls h_x41 hm_42 hS hl
          have f45 := hS.2.2.1
          have g46 := hS.2.2.2
          refine lv_iload_n hx hb dX12_rounds_49 rfl (lv_at hl 0 rfl) ?_
          refine lv_sipush (v := 300) hx hb dX12_rounds_50 (by decide) ?_
          refine lv_icmp_gt (tgt := 210) hx hb dX12_rounds_53 (by decide) (fun c47 => ?_) (fun c47 => ?_)
          · have q48 : 300 < x41.toInt := ti_lt c47
            have h49 : iv 301 301 x41 := iv_gtL (y := 300) h_x41 (iv_c (c := 300) (n := 300) (by decide)) q48 (by decide)
            refine lv_bipush (v := (-2)) hx hb dX12_rounds_210 (by decide) ?_
            exact tw_endi hx hb hr hlocks hK hT hS hQ ((iv_mono (iv_c (c := (-2)) (n := (-2)) (by decide)) (by decide) (by decide))) dX12_rounds_212
          · have q50 : x41.toInt ≤ 300 := ti_nlt c47
            have h51 : iv 1 300 x41 := iv_leL (y := 300) h_x41 (iv_c (c := 300) (n := 300) (by decide)) q50 (by decide)
            refine lv_iconst (v := 0) hx hb dX12_rounds_56 (by decide) ?_
            refine lv_istore_n (lv' := [(3, .int 0), (2, .int x41), (0, .ref (base + a0)), (1, .int a1)]) hx hb dX12_rounds_57 rfl hl (by decide) rfl (fun ls hl => ?_)
            have W58_53 : ∀ (n_53 : Nat) (x52 : Int32) (M53 : MT) (R54 : RT) (J55 : JT) (H : Heap) (locs : List Loc) (ls : Array Slot) (h_x52 : iv 0 8 x52) (hm_53 : 8 - x52.toInt < (n_53 : Int)) (hS : SB D cy base Z K N Lt_X12_rounds LRt_X12_rounds Ma Ra M53 R54 J55 s H locs) (hl : lv_has ls 4 [(3, .int x52), (2, .int x41), (0, .ref (base + a0)), (1, .int a1)]), W p l e (md_rm 5 0 0) s m args below meth c H locs 0 0 Q (F0 m 58 ls []) := by
              intro n_53
              induction n_53 with
              | zero =>
                intro x52 M53 R54 J55 H locs ls h_x52 hm_53 hS hl
                exfalso
                have := (h23).1; have := (h23).2; have := (h_x52).1; have := (h_x52).2; omega
              | succ n_53 ih_53 =>
                intro x52 M53 R54 J55 H locs ls h_x52 hm_53 hS hl
                have f56 := hS.2.2.1
                have g57 := hS.2.2.2
                refine lv_iload_n hx hb dX12_rounds_58 rfl (lv_at hl 0 rfl) ?_
                refine lv_aload_n hx hb dX12_rounds_59 rfl (lv_at hl 2 rfl) ?_
                refine tw_geti hx hb hW hown hK hS f_X12_351_11 hz_a0 hk_a0 (lo := 0) (hi := 8) rfl dX12_rounds_60 (fun x60 k59 h58 => ?_)
                refine lv_icmp_ge (tgt := 108) hx hb dX12_rounds_63 (by decide) (fun c61 => ?_) (fun c61 => ?_)
                · have q62 : x60.toInt ≤ x52.toInt := ti_le c61
                  refine lv_aload_n hx hb dX12_rounds_108 rfl (lv_at hl 2 rfl) ?_
                  refine lv_iload_n hx hb dX12_rounds_109 rfl (lv_at hl 1 rfl) ?_
                  refine tw_gov hS (md_runV (As := [.int x41]) (rest := []) hx hb hml hown hW hK hT hS.1 (t_X12_keepsDay l D cy tx base Z K N M53 R54 J55 hS.2.1 a0 hz_a0 hk_a0 x41 (iv_mono h51 (by decide) (by decide))) s_X12_478 ⟨rfl, rfl, ⟨Nat.le_of_ble_eq_true rfl, Nat.le_of_ble_eq_true rfl⟩, ⟨Nat.le_of_ble_eq_true rfl, Nat.le_of_ble_eq_true rfl⟩⟩ hz_a0 hk_a0 (by decide) rfl rfl hl.1 rfl (Nat.le_of_ble_eq_true rfl) dX12_rounds_110) rfl rfl (fun H locs M66 R67 J65 hS f63 g64 E68 => ?_)
                  have eR67 := Fr.nil g64 rfl
                  subst eR67
                  refine lv_iconst (v := 0) hx hb dX12_rounds_113 (by decide) ?_
                  refine lv_istore_n (lv' := [(3, .int 0), (2, .int x41), (0, .ref (base + a0)), (1, .int a1)]) hx hb dX12_rounds_114 rfl hl (by decide) rfl (fun ls hl => ?_)
                  have W115_70 : ∀ (n_70 : Nat) (x69 : Int32) (M70 : MT) (R71 : RT) (J72 : JT) (H : Heap) (locs : List Loc) (ls : Array Slot) (h_x69 : iv 0 300 x69) (hm_70 : 300 - x69.toInt < (n_70 : Int)) (hS : SB D cy base Z K N Lt_X12_rounds LRt_X12_rounds Ma Ra M70 R71 J72 s H locs) (hl : lv_has ls 4 [(3, .int x69), (2, .int x41), (0, .ref (base + a0)), (1, .int a1)]), W p l e (md_rm 5 0 0) s m args below meth c H locs 0 0 Q (F0 m 115 ls []) := by
                    intro n_70
                    induction n_70 with
                    | zero =>
                      intro x69 M70 R71 J72 H locs ls h_x69 hm_70 hS hl
                      exfalso
                      have := (h23).1; have := (h23).2; have := (h_x69).1; have := (h_x69).2; omega
                    | succ n_70 ih_70 =>
                      intro x69 M70 R71 J72 H locs ls h_x69 hm_70 hS hl
                      have f73 := hS.2.2.1
                      have g74 := hS.2.2.2
                      refine lv_iload_n hx hb dX12_rounds_115 rfl (lv_at hl 0 rfl) ?_
                      refine lv_iload_n hx hb dX12_rounds_116 rfl (lv_at hl 1 rfl) ?_
                      refine lv_icmp_ge (tgt := 204) hx hb dX12_rounds_117 (by decide) (fun c75 => ?_) (fun c75 => ?_)
                      · have q76 : x41.toInt ≤ x69.toInt := ti_le c75
                        have h77 : iv 1 300 x69 := iv_geL (y := x41) h_x69 h51 q76 (by decide)
                        refine tw_iinc (lv' := fun x80 => [(2, .int x80), (3, .int x69), (0, .ref (base + a0)), (1, .int a1)]) (lo := 2) (hi := 301) hx hb dX12_rounds_204 hl (k := 1) rfl h51 (by decide) ⟨by decide, by decide⟩ ⟨by decide, by decide⟩ (by decide) (fun _ => rfl) (fun x80 ls e79 h78 hl => ?_)
                        refine lv_goto (tgt := 49) hx hb dX12_rounds_207 (by decide) ?_
                        have hm81 : 301 - x80.toInt < (n_42 : Int) := by
                          have := (h23).1; have := (h23).2; have := (h51).1; have := (h51).2; have := (h78).1; have := (h78).2; omega
                        exact ih_42 x80 M70 R71 J72 H locs _ (iv_mono h78 (by decide) (by decide)) hm81 hS (lv_sub hl [0, 2, 3] rfl)
                      · have q82 : x69.toInt < x41.toInt := ti_nle c75
                        have h83 : iv 0 299 x69 := iv_ltL (y := x41) h_x69 h51 q82 (by decide)
                        refine lv_aload_n hx hb dX12_rounds_120 rfl (lv_at hl 2 rfl) ?_
                        refine lv_iload_n hx hb dX12_rounds_121 rfl (lv_at hl 1 rfl) ?_
                        refine lv_iload_n hx hb dX12_rounds_122 rfl (lv_at hl 0 rfl) ?_
                        refine tw_goi hS (md_runV (As := [.int x41, .int x69]) (rest := []) hx hb hml hown hW hK hT hS.1 (t_X12_isAgain l D cy tx base Z K N M70 R71 J72 hS.2.1 a0 hz_a0 hk_a0 x41 h51 x69 (iv_mono h83 (by decide) (by decide))) s_X12_481 ⟨rfl, rfl, ⟨Nat.le_of_ble_eq_true rfl, Nat.le_of_ble_eq_true rfl⟩, ⟨Nat.le_of_ble_eq_true rfl, Nat.le_of_ble_eq_true rfl⟩⟩ hz_a0 hk_a0 (by decide) rfl rfl hl.1 rfl (Nat.le_of_ble_eq_true rfl) dX12_rounds_123) rfl rfl (fun x90 H locs M87 R88 J86 hS f84 g85 E89 => ?_)
                        have eM87 := Fr.nil f84 rfl
                        subst eM87
                        have eR88 := Fr.nil g85 rfl
                        subst eR88
                        have h_x90 := E89
                        clear E89
                        refine lv_if_ne (tgt := 132) hx hb dX12_rounds_126 (by decide) (fun c91 => ?_) (fun c91 => ?_)
                        · have q92 : ¬ x90.toInt = 0 := ti_ne c91
                          have h93 : iv 1 1 x90 := ⟨by have := (h_x90).1; have := ((iv_c (c := 0) (n := 0) (by decide))).1; have := ((iv_c (c := 0) (n := 0) (by decide))).2; omega, by have := (h_x90).2; have := ((iv_c (c := 0) (n := 0) (by decide))).1; have := ((iv_c (c := 0) (n := 0) (by decide))).2; omega⟩
                          refine lv_iload_n hx hb dX12_rounds_132 rfl (lv_at hl 3 rfl) ?_
                          refine lv_iconst (v := 3) hx hb dX12_rounds_133 (by decide) ?_
                          refine lv_icmp_ge (tgt := 170) hx hb dX12_rounds_134 (by decide) (fun c94 => False.elim (by have q : 3 ≤ a1.toInt := ti_le c94; have := (h23).1; have := (h23).2; omega)) (fun c94 => ?_)
                          have q95 : a1.toInt < 3 := ti_nle c94
                          refine lv_iload_n hx hb dX12_rounds_137 rfl (lv_at hl 3 rfl) ?_
                          refine lv_if_ne (tgt := 145) hx hb dX12_rounds_138 (by decide) (fun c96 => ?_) (fun c96 => ?_)
                          · have q97 : ¬ a1.toInt = 0 := ti_ne c96
                            have h98 : iv 1 2 a1 := ⟨by have := (h23).1; have := ((iv_c (c := 0) (n := 0) (by decide))).1; have := ((iv_c (c := 0) (n := 0) (by decide))).2; omega, by have := (h23).2; have := ((iv_c (c := 0) (n := 0) (by decide))).1; have := ((iv_c (c := 0) (n := 0) (by decide))).2; omega⟩
                            refine lv_iload_n hx hb dX12_rounds_145 rfl (lv_at hl 3 rfl) ?_
                            refine lv_iconst (v := 1) hx hb dX12_rounds_146 (by decide) ?_
                            refine lv_icmp_ne (tgt := 156) hx hb dX12_rounds_147 (by decide) (fun c99 => ?_) (fun c99 => ?_)
                            · have q100 : ¬ a1.toInt = 1 := ti_ne c99
                              have h101 : iv 2 2 a1 := ⟨by have := (h98).1; have := ((iv_c (c := 1) (n := 1) (by decide))).1; have := ((iv_c (c := 1) (n := 1) (by decide))).2; omega, by have := (h98).2; have := ((iv_c (c := 1) (n := 1) (by decide))).1; have := ((iv_c (c := 1) (n := 1) (by decide))).2; omega⟩
                              refine lv_aload_n hx hb dX12_rounds_156 rfl (lv_at hl 2 rfl) ?_
                              refine tw_getr hx hb hW hown hK hS f_X12_99_11 hz_a0 hk_a0 (t := 14) (n := 301) rfl dX12_rounds_157 (fun b102 k103 hz_b102 hk_b102 hn_b102 => ?_)
                              have hn_b102 := hn_b102 (by decide)
                              refine lv_iload_n hx hb dX12_rounds_160 rfl (lv_at hl 1 rfl) ?_
                              refine tw_iald hx hb hK hS hz_b102 hk_b102 (Or.inl rfl) hn_b102 (lo := (-2147483648)) (hi := 2147483647) h51 ⟨by decide, by decide⟩ rg_u14 dX12_rounds_161 (fun x106 k105 h104 => ?_)
                              refine lv_aload_n hx hb dX12_rounds_162 rfl (lv_at hl 2 rfl) ?_
                              refine tw_getrk hx hb hW hown hK hS f_X12_99_11 hz_a0 hk_a0 (b := b102) k103 dX12_rounds_163 ?_
                              refine lv_iload_n hx hb dX12_rounds_166 rfl (lv_at hl 0 rfl) ?_
                              refine tw_iald hx hb hK hS hz_b102 hk_b102 (Or.inl rfl) hn_b102 (lo := (-2147483648)) (hi := 2147483647) h83 ⟨by decide, by decide⟩ rg_u14 dX12_rounds_167 (fun x109 k108 h107 => ?_)
                              refine lv_isub hx hb dX12_rounds_168 ?_
                              refine tw_top (fun x111 => ?_)
                              have h110 := iv_any x111
                              exact tw_endi hx hb hr hlocks hK hT hS hQ (h110) dX12_rounds_169
                            · have q112 : a1.toInt = 1 := ti_eq c99
                              have h113 : iv 1 1 a1 := ⟨by have := (h98).1; have := ((iv_c (c := 1) (n := 1) (by decide))).1; omega, by have := (h98).2; have := ((iv_c (c := 1) (n := 1) (by decide))).2; omega⟩
                              refine lv_iload_n hx hb dX12_rounds_150 rfl (lv_at hl 1 rfl) ?_
                              refine lv_iload_n hx hb dX12_rounds_151 rfl (lv_at hl 0 rfl) ?_
                              refine tw_isub (lo := (-298)) (hi := 300) hx hb h51 h83 ⟨by decide, by decide⟩ ⟨by decide, by decide⟩ dX12_rounds_152 (fun x116 e115 h114 => ?_)
                              refine lv_goto (tgt := 169) hx hb dX12_rounds_153 (by decide) ?_
                              exact tw_endi hx hb hr hlocks hK hT hS hQ ((iv_mono h114 (by decide) (by decide))) dX12_rounds_169
                          · have q117 : a1.toInt = 0 := ti_eq c96
                            have h118 : iv 0 0 a1 := ⟨by have := (h23).1; have := ((iv_c (c := 0) (n := 0) (by decide))).1; omega, by have := (h23).2; have := ((iv_c (c := 0) (n := 0) (by decide))).2; omega⟩
                            refine lv_iload_n hx hb dX12_rounds_141 rfl (lv_at hl 0 rfl) ?_
                            refine lv_goto (tgt := 169) hx hb dX12_rounds_142 (by decide) ?_
                            exact tw_endi hx hb hr hlocks hK hT hS hQ ((iv_mono h83 (by decide) (by decide))) dX12_rounds_169
                        · have q119 : x90.toInt = 0 := ti_eq c91
                          have h120 : iv 0 0 x90 := ⟨by have := (h_x90).1; have := ((iv_c (c := 0) (n := 0) (by decide))).1; omega, by have := (h_x90).2; have := ((iv_c (c := 0) (n := 0) (by decide))).2; omega⟩
                          refine lv_goto (tgt := 198) hx hb dX12_rounds_129 (by decide) ?_
                          refine tw_iinc (lv' := fun x123 => [(3, .int x123), (2, .int x41), (0, .ref (base + a0)), (1, .int a1)]) (lo := 1) (hi := 300) hx hb dX12_rounds_198 hl (k := 0) rfl h83 (by decide) ⟨by decide, by decide⟩ ⟨by decide, by decide⟩ (by decide) (fun _ => rfl) (fun x123 ls e122 h121 hl => ?_)
                          refine lv_goto (tgt := 115) hx hb dX12_rounds_201 (by decide) ?_
                          have hm124 : 300 - x123.toInt < (n_70 : Int) := by
                            have := (h23).1; have := (h23).2; have := (h121).1; have := (h121).2; have := (h83).1; have := (h83).2; omega
                          exact ih_70 x123 M70 R71 J86 H locs _ (iv_mono h121 (by decide) (by decide)) hm124 hS hl
                  have hm125 : 300 - (0 : Int32).toInt < (((301 : Nat) : Int) : Int) := by
                    have := (h23).1; have := (h23).2; have : (0 : Int32).toInt = 0 := (by decide); omega
                  exact W115_70 301 0 M66 R54 J65 H locs _ (iv_mono (iv_c (c := 0) (n := 0) (by decide)) (by decide) (by decide)) hm125 hS hl
                · have q126 : x52.toInt < x60.toInt := ti_nle c61
                  have h127 : iv 0 7 x52 := iv_ltL (y := x60) h_x52 h58 q126 (by decide)
                  have h128 : iv 1 8 x60 := iv_gtL (y := x52) h58 h_x52 q126 (by decide)
                  refine lv_aload_n hx hb dX12_rounds_66 rfl (lv_at hl 2 rfl) ?_
                  refine lv_aload_n hx hb dX12_rounds_67 rfl (lv_at hl 2 rfl) ?_
                  have k129 : R54 a0 25 = some b1 := (Fr.kp (k := 25) g57 hk_a0 rfl).trans k2
                  refine tw_getrk hx hb hW hown hK hS f_X12_45_11 hz_a0 hk_a0 (b := b1) k129 dX12_rounds_68 ?_
                  refine lv_iconst (v := 3) hx hb dX12_rounds_71 (by decide) ?_
                  refine tw_iald hx hb hK hS hz_b1 hk_b1 (Or.inr (by decide)) hn_b1 (lo := (-2147483648)) (hi := 2147483647) (iv_c (c := 3) (n := 3) (by decide)) ⟨by decide, by decide⟩ (rg_c (k0 := 3) rfl rfl rfl) dX12_rounds_72 (fun x132 k131 h130 => ?_)
                  refine tw_puti hx hb hW hown hK hS f_X12_348_11 hz_a0 hk_a0 rfl rfl (lo := (-2147483648)) (hi := 2147483647) rfl h130 rfl dX12_rounds_73 (fun H locs M135 hS k133 f134 => ?_)
                  refine lv_aload_n hx hb dX12_rounds_76 rfl (lv_at hl 2 rfl) ?_
                  refine lv_aload_n hx hb dX12_rounds_77 rfl (lv_at hl 2 rfl) ?_
                  refine tw_getr hx hb hW hown hK hS f_X12_54_11 hz_a0 hk_a0 (t := 31) (n := 8) rfl dX12_rounds_78 (fun b136 k137 hz_b136 hk_b136 hn_b136 => ?_)
                  have hn_b136 := hn_b136 (by decide)
                  refine lv_iload_n hx hb dX12_rounds_81 rfl (lv_at hl 0 rfl) ?_
                  refine tw_iald hx hb hK hS hz_b136 hk_b136 (Or.inr (by decide)) hn_b136 (lo := 0) (hi := 11) h127 ⟨by decide, by decide⟩ rg_u31 dX12_rounds_82 (fun x140 k139 h138 => ?_)
                  refine lv_iload_n hx hb dX12_rounds_83 rfl (lv_at hl 0 rfl) ?_
                  refine tw_gov hS (md_runV (As := [.int x140, .int x52]) (rest := []) hx hb hml hown hW hK hT hS.1 (t_X12_asks l D cy tx base Z K N M135 R54 J55 hS.2.1 a0 hz_a0 hk_a0 x140 h138 x52 (iv_mono h127 (by decide) (by decide)) (Codes.fr co_a0 hTy hz_a0 hk_a0 hS.2.2.1 hS.2.2.2 rfl)) s_X12_396 ⟨rfl, rfl, ⟨Nat.le_of_ble_eq_true rfl, Nat.le_of_ble_eq_true rfl⟩, ⟨Nat.le_of_ble_eq_true rfl, Nat.le_of_ble_eq_true rfl⟩⟩ hz_a0 hk_a0 (by decide) rfl rfl hl.1 rfl (Nat.le_of_ble_eq_true rfl) dX12_rounds_84) rfl rfl (fun H locs M144 R145 J143 hS f141 g142 E146 => ?_)
                  have eR145 := Fr.nil g142 rfl
                  subst eR145
                  refine lv_aload_n hx hb dX12_rounds_87 rfl (lv_at hl 2 rfl) ?_
                  refine lv_iconst (v := 0) hx hb dX12_rounds_88 (by decide) ?_
                  refine lv_aload_n hx hb dX12_rounds_89 rfl (lv_at hl 2 rfl) ?_
                  refine tw_getrk hx hb hW hown hK hS f_X12_54_11 hz_a0 hk_a0 (b := b136) k137 dX12_rounds_90 ?_
                  refine lv_iload_n hx hb dX12_rounds_93 rfl (lv_at hl 0 rfl) ?_
                  have k147 : M144 b136 x52.toNatClampNeg = x140 := (Fr.kpa f141 hk_b136 rfl x52.toNatClampNeg).trans k139
                  refine tw_ialk hx hb hK hS hz_b136 hk_b136 (Or.inr (by decide)) hn_b136 h127 ⟨by decide, by decide⟩ (v := x140) k147 dX12_rounds_94 ?_
                  refine lv_aload_n hx hb dX12_rounds_95 rfl (lv_at hl 2 rfl) ?_
                  refine tw_goi hS (md_runV (As := []) (rest := [.int x140, .int 0, .ref (base + a0)]) hx hb hml hown hW hK hT hS.1 (t_X12_settles_ l D cy tx base Z K N M144 R54 J143 hS.2.1 a0 hz_a0 hk_a0) s_X12_399 ⟨rfl, rfl, ⟨Nat.le_of_ble_eq_true rfl, Nat.le_of_ble_eq_true rfl⟩, ⟨Nat.le_of_ble_eq_true rfl, Nat.le_of_ble_eq_true rfl⟩⟩ hz_a0 hk_a0 (by decide) rfl rfl hl.1 rfl (Nat.le_of_ble_eq_true rfl) dX12_rounds_96) rfl rfl (fun x154 H locs M151 R152 J150 hS f148 g149 E153 => ?_)
                  have eR152 := Fr.nil g149 rfl
                  subst eR152
                  have h_x154 := E153
                  clear E153
                  refine tw_gov hS (md_runV (As := [.int 0, .int x140, .int x154]) (rest := []) hx hb hml hown hW hK hT hS.1 (t_X12_counts l D cy tx base Z K N M151 R54 J150 hS.2.1 a0 hz_a0 hk_a0 0 (iv_mono (iv_c (c := 0) (n := 0) (by decide)) (by decide) (by decide)) x140 h138 x154 h_x154) s_X12_413 ⟨rfl, rfl, ⟨Nat.le_of_ble_eq_true rfl, Nat.le_of_ble_eq_true rfl⟩, ⟨Nat.le_of_ble_eq_true rfl, Nat.le_of_ble_eq_true rfl⟩⟩ hz_a0 hk_a0 (by decide) rfl rfl hl.1 rfl (Nat.le_of_ble_eq_true rfl) dX12_rounds_99) rfl rfl (fun H locs M158 R159 J157 hS f155 g156 E160 => ?_)
                  have eR159 := Fr.nil g156 rfl
                  subst eR159
                  refine tw_iinc (lv' := fun x163 => [(3, .int x163), (2, .int x41), (0, .ref (base + a0)), (1, .int a1)]) (lo := 1) (hi := 8) hx hb dX12_rounds_102 hl (k := 0) rfl h127 (by decide) ⟨by decide, by decide⟩ ⟨by decide, by decide⟩ (by decide) (fun _ => rfl) (fun x163 ls e162 h161 hl => ?_)
                  refine lv_goto (tgt := 58) hx hb dX12_rounds_105 (by decide) ?_
                  have hm164 : 8 - x163.toInt < (n_53 : Int) := by
                    have := (h23).1; have := (h23).2; have := (h161).1; have := (h161).2; have := (h127).1; have := (h127).2; omega
                  exact ih_53 x163 M158 R54 J157 H locs _ (iv_mono h161 (by decide) (by decide)) hm164 hS hl
            have hm165 : 8 - (0 : Int32).toInt < (((9 : Nat) : Int) : Int) := by
              have := (h23).1; have := (h23).2; have : (0 : Int32).toInt = 0 := (by decide); omega
            exact W58_53 9 0 M42 R43 J44 H locs _ (iv_mono (iv_c (c := 0) (n := 0) (by decide)) (by decide) (by decide)) hm165 hS hl
      have hm166 : 301 - (1 : Int32).toInt < (((301 : Nat) : Int) : Int) := by
        have := (h23).1; have := (h23).2; have : (1 : Int32).toInt = 1 := (by decide); omega
      exact W49_42 301 1 M38 Ra J37 H locs _ (iv_mono (iv_c (c := 1) (n := 1) (by decide)) (by decide) (by decide)) hm166 hS hl
    · have q167 : x17.toInt = 0 := ti_eq c20
      have q168 := p18.2 c20
      have q168 : a1.toInt < 0 ∨ 2 < a1.toInt := by rw [Int32.toInt_toInt64] at q168; exact q168
      have h169 : iv 0 0 x17 := ⟨by have := (h_x17).1; have := ((iv_c (c := 0) (n := 0) (by decide))).1; omega, by have := (h_x17).2; have := ((iv_c (c := 0) (n := 0) (by decide))).2; omega⟩
      refine lv_aload_n hx hb dX12_rounds_21 rfl (lv_at hl 0 rfl) ?_
      refine lv_iload_n hx hb dX12_rounds_22 rfl (lv_at hl 1 rfl) ?_
      refine lv_iconst (v := 3) hx hb dX12_rounds_23 (by decide) ?_
      refine lv_isub hx hb dX12_rounds_24 ?_
      refine lv_topi (fun x172 e171 => ?_)
      have h170 := iv_any x172
      refine tw_goi hS (md_runV (As := [.int x172]) (rest := []) hx hb hml hown hW hK hT hS.1 (t_X12_isMember l D cy tx base Z K N Ma Ra J13 hS.2.1 a0 hz_a0 hk_a0 x172 h170) s_X12_319 ⟨rfl, rfl, ⟨Nat.le_of_ble_eq_true rfl, Nat.le_of_ble_eq_true rfl⟩, ⟨Nat.le_of_ble_eq_true rfl, Nat.le_of_ble_eq_true rfl⟩⟩ hz_a0 hk_a0 (by decide) rfl rfl hl.1 rfl (Nat.le_of_ble_eq_true rfl) dX12_rounds_25) rfl rfl (fun x179 H locs M176 R177 J175 hS f173 g174 E178 => ?_)
      have eM176 := Fr.nil f173 rfl
      subst eM176
      have eR177 := Fr.nil g174 rfl
      subst eR177
      obtain ⟨h_x179, p180⟩ := E178
      refine lv_if_ne (tgt := 33) hx hb dX12_rounds_28 (by decide) (fun c181 => ?_) (fun c181 => ?_)
      · have q182 : ¬ x179.toInt = 0 := ti_ne c181
        have h183 : iv 1 1 x179 := ⟨by have := (h_x179).1; have := ((iv_c (c := 0) (n := 0) (by decide))).1; have := ((iv_c (c := 0) (n := 0) (by decide))).2; omega, by have := (h_x179).2; have := ((iv_c (c := 0) (n := 0) (by decide))).1; have := ((iv_c (c := 0) (n := 0) (by decide))).2; omega⟩
        have h184 : iv 0 9 x172 := ⟨by have := (p180 c181).1; have := (h170).1; omega, by have := (p180 c181).2; have := (h170).2; omega⟩
        have h185 := rd_what e171 h184
        refine lv_aload_n hx hb dX12_rounds_33 rfl (lv_at hl 0 rfl) ?_
        refine tw_gov hS (md_runV (As := []) (rest := []) hx hb hml hown hW hK hT hS.1 (t_X12_begins l D cy tx base Z K N Ma Ra J175 hS.2.1 a0 hz_a0 hk_a0 b1 k2 x5 k4 (iv_mono h10 (by decide) (by decide))) s_X12_393 ⟨rfl, rfl, ⟨Nat.le_of_ble_eq_true rfl, Nat.le_of_ble_eq_true rfl⟩, ⟨Nat.le_of_ble_eq_true rfl, Nat.le_of_ble_eq_true rfl⟩⟩ hz_a0 hk_a0 (by decide) rfl rfl hl.1 rfl (Nat.le_of_ble_eq_true rfl) dX12_rounds_34) rfl rfl (fun H locs M189 R190 J188 hS f186 g187 E191 => ?_)
        have eR190 := Fr.nil g187 rfl
        subst eR190
        have p192 := E191
        clear E191
        have k193 : M189 a0 30 = x5 := p192
        refine lv_aload_n hx hb dX12_rounds_37 rfl (lv_at hl 0 rfl) ?_
        refine lv_iconst (v := 0) hx hb dX12_rounds_38 (by decide) ?_
        refine tw_puti hx hb hW hown hK hS f_X12_407_11 hz_a0 hk_a0 rfl rfl (lo := (-2147483648)) (hi := 2147483647) rfl (iv_mono (iv_c (c := 0) (n := 0) (by decide)) (by decide) (by decide)) rfl dX12_rounds_39 (fun H locs M196 hS k194 f195 => ?_)
        refine lv_aload_n hx hb dX12_rounds_42 rfl (lv_at hl 0 rfl) ?_
        refine lv_iconst (v := 0) hx hb dX12_rounds_43 (by decide) ?_
        refine tw_gov hS (md_runV (As := [.int 0]) (rest := []) hx hb hml hown hW hK hT hS.1 (t_X12_keepsDay l D cy tx base Z K N M196 Ra J188 hS.2.1 a0 hz_a0 hk_a0 0 (iv_mono (iv_c (c := 0) (n := 0) (by decide)) (by decide) (by decide))) s_X12_478 ⟨rfl, rfl, ⟨Nat.le_of_ble_eq_true rfl, Nat.le_of_ble_eq_true rfl⟩, ⟨Nat.le_of_ble_eq_true rfl, Nat.le_of_ble_eq_true rfl⟩⟩ hz_a0 hk_a0 (by decide) rfl rfl hl.1 rfl (Nat.le_of_ble_eq_true rfl) dX12_rounds_44) rfl rfl (fun H locs M200 R201 J199 hS f197 g198 E202 => ?_)
        have eR201 := Fr.nil g198 rfl
        subst eR201
        refine lv_iconst (v := 1) hx hb dX12_rounds_47 (by decide) ?_
        refine lv_istore_n (lv' := [(2, .int 1), (0, .ref (base + a0)), (1, .int a1)]) hx hb dX12_rounds_48 rfl hl (by decide) rfl (fun ls hl => ?_)
        have W49_204 : ∀ (n_204 : Nat) (x203 : Int32) (M204 : MT) (R205 : RT) (J206 : JT) (H : Heap) (locs : List Loc) (ls : Array Slot) (h_x203 : iv 1 301 x203) (hm_204 : 301 - x203.toInt < (n_204 : Int)) (hS : SB D cy base Z K N Lt_X12_rounds LRt_X12_rounds Ma Ra M204 R205 J206 s H locs) (hl : lv_has ls 4 [(2, .int x203), (0, .ref (base + a0)), (1, .int a1)]), W p l e (md_rm 5 0 0) s m args below meth c H locs 0 0 Q (F0 m 49 ls []) := by
          intro n_204
          induction n_204 with
          | zero =>
            intro x203 M204 R205 J206 H locs ls h_x203 hm_204 hS hl
            exfalso
            have := (h185).1; have := (h185).2; have := (h_x203).1; have := (h_x203).2; omega
          | succ n_204 ih_204 =>
            intro x203 M204 R205 J206 H locs ls h_x203 hm_204 hS hl
            have f207 := hS.2.2.1
            have g208 := hS.2.2.2
            refine lv_iload_n hx hb dX12_rounds_49 rfl (lv_at hl 0 rfl) ?_
            refine lv_sipush (v := 300) hx hb dX12_rounds_50 (by decide) ?_
            refine lv_icmp_gt (tgt := 210) hx hb dX12_rounds_53 (by decide) (fun c209 => ?_) (fun c209 => ?_)
            · have q210 : 300 < x203.toInt := ti_lt c209
              have h211 : iv 301 301 x203 := iv_gtL (y := 300) h_x203 (iv_c (c := 300) (n := 300) (by decide)) q210 (by decide)
              refine lv_bipush (v := (-2)) hx hb dX12_rounds_210 (by decide) ?_
              exact tw_endi hx hb hr hlocks hK hT hS hQ ((iv_mono (iv_c (c := (-2)) (n := (-2)) (by decide)) (by decide) (by decide))) dX12_rounds_212
            · have q212 : x203.toInt ≤ 300 := ti_nlt c209
              have h213 : iv 1 300 x203 := iv_leL (y := 300) h_x203 (iv_c (c := 300) (n := 300) (by decide)) q212 (by decide)
              refine lv_iconst (v := 0) hx hb dX12_rounds_56 (by decide) ?_
              refine lv_istore_n (lv' := [(3, .int 0), (2, .int x203), (0, .ref (base + a0)), (1, .int a1)]) hx hb dX12_rounds_57 rfl hl (by decide) rfl (fun ls hl => ?_)
              have W58_215 : ∀ (n_215 : Nat) (x214 : Int32) (M215 : MT) (R216 : RT) (J217 : JT) (H : Heap) (locs : List Loc) (ls : Array Slot) (h_x214 : iv 0 8 x214) (hm_215 : 8 - x214.toInt < (n_215 : Int)) (hS : SB D cy base Z K N Lt_X12_rounds LRt_X12_rounds Ma Ra M215 R216 J217 s H locs) (hl : lv_has ls 4 [(3, .int x214), (2, .int x203), (0, .ref (base + a0)), (1, .int a1)]), W p l e (md_rm 5 0 0) s m args below meth c H locs 0 0 Q (F0 m 58 ls []) := by
                intro n_215
                induction n_215 with
                | zero =>
                  intro x214 M215 R216 J217 H locs ls h_x214 hm_215 hS hl
                  exfalso
                  have := (h185).1; have := (h185).2; have := (h_x214).1; have := (h_x214).2; omega
                | succ n_215 ih_215 =>
                  intro x214 M215 R216 J217 H locs ls h_x214 hm_215 hS hl
                  have f218 := hS.2.2.1
                  have g219 := hS.2.2.2
                  refine lv_iload_n hx hb dX12_rounds_58 rfl (lv_at hl 0 rfl) ?_
                  refine lv_aload_n hx hb dX12_rounds_59 rfl (lv_at hl 2 rfl) ?_
                  refine tw_geti hx hb hW hown hK hS f_X12_351_11 hz_a0 hk_a0 (lo := 0) (hi := 8) rfl dX12_rounds_60 (fun x222 k221 h220 => ?_)
                  refine lv_icmp_ge (tgt := 108) hx hb dX12_rounds_63 (by decide) (fun c223 => ?_) (fun c223 => ?_)
                  · have q224 : x222.toInt ≤ x214.toInt := ti_le c223
                    refine lv_aload_n hx hb dX12_rounds_108 rfl (lv_at hl 2 rfl) ?_
                    refine lv_iload_n hx hb dX12_rounds_109 rfl (lv_at hl 1 rfl) ?_
                    refine tw_gov hS (md_runV (As := [.int x203]) (rest := []) hx hb hml hown hW hK hT hS.1 (t_X12_keepsDay l D cy tx base Z K N M215 R216 J217 hS.2.1 a0 hz_a0 hk_a0 x203 (iv_mono h213 (by decide) (by decide))) s_X12_478 ⟨rfl, rfl, ⟨Nat.le_of_ble_eq_true rfl, Nat.le_of_ble_eq_true rfl⟩, ⟨Nat.le_of_ble_eq_true rfl, Nat.le_of_ble_eq_true rfl⟩⟩ hz_a0 hk_a0 (by decide) rfl rfl hl.1 rfl (Nat.le_of_ble_eq_true rfl) dX12_rounds_110) rfl rfl (fun H locs M228 R229 J227 hS f225 g226 E230 => ?_)
                    have eR229 := Fr.nil g226 rfl
                    subst eR229
                    refine lv_iconst (v := 0) hx hb dX12_rounds_113 (by decide) ?_
                    refine lv_istore_n (lv' := [(3, .int 0), (2, .int x203), (0, .ref (base + a0)), (1, .int a1)]) hx hb dX12_rounds_114 rfl hl (by decide) rfl (fun ls hl => ?_)
                    have W115_232 : ∀ (n_232 : Nat) (x231 : Int32) (M232 : MT) (R233 : RT) (J234 : JT) (H : Heap) (locs : List Loc) (ls : Array Slot) (h_x231 : iv 0 300 x231) (hm_232 : 300 - x231.toInt < (n_232 : Int)) (hS : SB D cy base Z K N Lt_X12_rounds LRt_X12_rounds Ma Ra M232 R233 J234 s H locs) (hl : lv_has ls 4 [(3, .int x231), (2, .int x203), (0, .ref (base + a0)), (1, .int a1)]), W p l e (md_rm 5 0 0) s m args below meth c H locs 0 0 Q (F0 m 115 ls []) := by
                      intro n_232
                      induction n_232 with
                      | zero =>
                        intro x231 M232 R233 J234 H locs ls h_x231 hm_232 hS hl
                        exfalso
                        have := (h185).1; have := (h185).2; have := (h_x231).1; have := (h_x231).2; omega
                      | succ n_232 ih_232 =>
                        intro x231 M232 R233 J234 H locs ls h_x231 hm_232 hS hl
                        have f235 := hS.2.2.1
                        have g236 := hS.2.2.2
                        refine lv_iload_n hx hb dX12_rounds_115 rfl (lv_at hl 0 rfl) ?_
                        refine lv_iload_n hx hb dX12_rounds_116 rfl (lv_at hl 1 rfl) ?_
                        refine lv_icmp_ge (tgt := 204) hx hb dX12_rounds_117 (by decide) (fun c237 => ?_) (fun c237 => ?_)
                        · have q238 : x203.toInt ≤ x231.toInt := ti_le c237
                          have h239 : iv 1 300 x231 := iv_geL (y := x203) h_x231 h213 q238 (by decide)
                          refine tw_iinc (lv' := fun x242 => [(2, .int x242), (3, .int x231), (0, .ref (base + a0)), (1, .int a1)]) (lo := 2) (hi := 301) hx hb dX12_rounds_204 hl (k := 1) rfl h213 (by decide) ⟨by decide, by decide⟩ ⟨by decide, by decide⟩ (by decide) (fun _ => rfl) (fun x242 ls e241 h240 hl => ?_)
                          refine lv_goto (tgt := 49) hx hb dX12_rounds_207 (by decide) ?_
                          have hm243 : 301 - x242.toInt < (n_204 : Int) := by
                            have := (h185).1; have := (h185).2; have := (h213).1; have := (h213).2; have := (h240).1; have := (h240).2; omega
                          exact ih_204 x242 M232 R233 J234 H locs _ (iv_mono h240 (by decide) (by decide)) hm243 hS (lv_sub hl [0, 2, 3] rfl)
                        · have q244 : x231.toInt < x203.toInt := ti_nle c237
                          have h245 : iv 0 299 x231 := iv_ltL (y := x203) h_x231 h213 q244 (by decide)
                          refine lv_aload_n hx hb dX12_rounds_120 rfl (lv_at hl 2 rfl) ?_
                          refine lv_iload_n hx hb dX12_rounds_121 rfl (lv_at hl 1 rfl) ?_
                          refine lv_iload_n hx hb dX12_rounds_122 rfl (lv_at hl 0 rfl) ?_
                          refine tw_goi hS (md_runV (As := [.int x203, .int x231]) (rest := []) hx hb hml hown hW hK hT hS.1 (t_X12_isAgain l D cy tx base Z K N M232 R233 J234 hS.2.1 a0 hz_a0 hk_a0 x203 h213 x231 (iv_mono h245 (by decide) (by decide))) s_X12_481 ⟨rfl, rfl, ⟨Nat.le_of_ble_eq_true rfl, Nat.le_of_ble_eq_true rfl⟩, ⟨Nat.le_of_ble_eq_true rfl, Nat.le_of_ble_eq_true rfl⟩⟩ hz_a0 hk_a0 (by decide) rfl rfl hl.1 rfl (Nat.le_of_ble_eq_true rfl) dX12_rounds_123) rfl rfl (fun x252 H locs M249 R250 J248 hS f246 g247 E251 => ?_)
                          have eM249 := Fr.nil f246 rfl
                          subst eM249
                          have eR250 := Fr.nil g247 rfl
                          subst eR250
                          have h_x252 := E251
                          clear E251
                          refine lv_if_ne (tgt := 132) hx hb dX12_rounds_126 (by decide) (fun c253 => ?_) (fun c253 => ?_)
                          · have q254 : ¬ x252.toInt = 0 := ti_ne c253
                            have h255 : iv 1 1 x252 := ⟨by have := (h_x252).1; have := ((iv_c (c := 0) (n := 0) (by decide))).1; have := ((iv_c (c := 0) (n := 0) (by decide))).2; omega, by have := (h_x252).2; have := ((iv_c (c := 0) (n := 0) (by decide))).1; have := ((iv_c (c := 0) (n := 0) (by decide))).2; omega⟩
                            refine lv_iload_n hx hb dX12_rounds_132 rfl (lv_at hl 3 rfl) ?_
                            refine lv_iconst (v := 3) hx hb dX12_rounds_133 (by decide) ?_
                            refine lv_icmp_ge (tgt := 170) hx hb dX12_rounds_134 (by decide) (fun c256 => ?_) (fun c256 => False.elim (by have q : a1.toInt < 3 := ti_nle c256; have := (h185).1; have := (h185).2; omega))
                            have q257 : 3 ≤ a1.toInt := ti_le c256
                            refine lv_aload_n hx hb dX12_rounds_170 rfl (lv_at hl 2 rfl) ?_
                            refine tw_getr hx hb hW hown hK hS f_X12_96_11 hz_a0 hk_a0 (t := 14) (n := 3010) rfl dX12_rounds_171 (fun b258 k259 hz_b258 hk_b258 hn_b258 => ?_)
                            have hn_b258 := hn_b258 (by decide)
                            refine lv_bipush (v := 10) hx hb dX12_rounds_174 (by decide) ?_
                            refine lv_iload_n hx hb dX12_rounds_176 rfl (lv_at hl 1 rfl) ?_
                            refine tw_icmul (k := 10) (lo := 10) (hi := 3000) hx hb (by decide) h213 (by decide) ⟨by decide, by decide⟩ ⟨by decide, by decide⟩ dX12_rounds_177 (fun x262 e261 h260 => ?_)
                            refine lv_iload_n hx hb dX12_rounds_178 rfl (lv_at hl 3 rfl) ?_
                            refine tw_iadd (lo := 13) (hi := 3012) hx hb h260 h185 ⟨by decide, by decide⟩ ⟨by decide, by decide⟩ dX12_rounds_179 (fun x265 e264 h263 => ?_)
                            refine lv_iconst (v := 3) hx hb dX12_rounds_180 (by decide) ?_
                            refine tw_isub (lo := 10) (hi := 3009) hx hb h263 (iv_c (c := 3) (n := 3) (by decide)) ⟨by decide, by decide⟩ ⟨by decide, by decide⟩ dX12_rounds_181 (fun x268 e267 h266 => ?_)
                            have e267 : x268.toInt = x265.toInt - 3 := e267
                            refine tw_iald hx hb hK hS hz_b258 hk_b258 (Or.inl rfl) hn_b258 (lo := (-2147483648)) (hi := 2147483647) h266 ⟨by decide, by decide⟩ rg_u14 dX12_rounds_182 (fun x271 k270 h269 => ?_)
                            refine lv_aload_n hx hb dX12_rounds_183 rfl (lv_at hl 2 rfl) ?_
                            refine tw_getrk hx hb hW hown hK hS f_X12_96_11 hz_a0 hk_a0 (b := b258) k259 dX12_rounds_184 ?_
                            refine lv_bipush (v := 10) hx hb dX12_rounds_187 (by decide) ?_
                            refine lv_iload_n hx hb dX12_rounds_189 rfl (lv_at hl 0 rfl) ?_
                            refine tw_icmul (k := 10) (lo := 0) (hi := 2990) hx hb (by decide) h245 (by decide) ⟨by decide, by decide⟩ ⟨by decide, by decide⟩ dX12_rounds_190 (fun x274 e273 h272 => ?_)
                            refine lv_iload_n hx hb dX12_rounds_191 rfl (lv_at hl 3 rfl) ?_
                            refine tw_iadd (lo := 3) (hi := 3002) hx hb h272 h185 ⟨by decide, by decide⟩ ⟨by decide, by decide⟩ dX12_rounds_192 (fun x277 e276 h275 => ?_)
                            refine lv_iconst (v := 3) hx hb dX12_rounds_193 (by decide) ?_
                            refine tw_isub (lo := 0) (hi := 2999) hx hb h275 (iv_c (c := 3) (n := 3) (by decide)) ⟨by decide, by decide⟩ ⟨by decide, by decide⟩ dX12_rounds_194 (fun x280 e279 h278 => ?_)
                            have e279 : x280.toInt = x277.toInt - 3 := e279
                            refine tw_iald hx hb hK hS hz_b258 hk_b258 (Or.inl rfl) hn_b258 (lo := (-2147483648)) (hi := 2147483647) h278 ⟨by decide, by decide⟩ rg_u14 dX12_rounds_195 (fun x283 k282 h281 => ?_)
                            refine lv_isub hx hb dX12_rounds_196 ?_
                            refine tw_top (fun x285 => ?_)
                            have h284 := iv_any x285
                            exact tw_endi hx hb hr hlocks hK hT hS hQ (h284) dX12_rounds_197
                          · have q286 : x252.toInt = 0 := ti_eq c253
                            have h287 : iv 0 0 x252 := ⟨by have := (h_x252).1; have := ((iv_c (c := 0) (n := 0) (by decide))).1; omega, by have := (h_x252).2; have := ((iv_c (c := 0) (n := 0) (by decide))).2; omega⟩
                            refine lv_goto (tgt := 198) hx hb dX12_rounds_129 (by decide) ?_
                            refine tw_iinc (lv' := fun x290 => [(3, .int x290), (2, .int x203), (0, .ref (base + a0)), (1, .int a1)]) (lo := 1) (hi := 300) hx hb dX12_rounds_198 hl (k := 0) rfl h245 (by decide) ⟨by decide, by decide⟩ ⟨by decide, by decide⟩ (by decide) (fun _ => rfl) (fun x290 ls e289 h288 hl => ?_)
                            refine lv_goto (tgt := 115) hx hb dX12_rounds_201 (by decide) ?_
                            have hm291 : 300 - x290.toInt < (n_232 : Int) := by
                              have := (h185).1; have := (h185).2; have := (h245).1; have := (h245).2; have := (h288).1; have := (h288).2; omega
                            exact ih_232 x290 M232 R233 J248 H locs _ (iv_mono h288 (by decide) (by decide)) hm291 hS hl
                    have hm292 : 300 - (0 : Int32).toInt < (((301 : Nat) : Int) : Int) := by
                      have := (h185).1; have := (h185).2; have : (0 : Int32).toInt = 0 := (by decide); omega
                    exact W115_232 301 0 M228 R216 J227 H locs _ (iv_mono (iv_c (c := 0) (n := 0) (by decide)) (by decide) (by decide)) hm292 hS hl
                  · have q293 : x214.toInt < x222.toInt := ti_nle c223
                    have h294 : iv 0 7 x214 := iv_ltL (y := x222) h_x214 h220 q293 (by decide)
                    have h295 : iv 1 8 x222 := iv_gtL (y := x214) h220 h_x214 q293 (by decide)
                    refine lv_aload_n hx hb dX12_rounds_66 rfl (lv_at hl 2 rfl) ?_
                    refine lv_aload_n hx hb dX12_rounds_67 rfl (lv_at hl 2 rfl) ?_
                    have k296 : R216 a0 25 = some b1 := (Fr.kp (k := 25) g219 hk_a0 rfl).trans k2
                    refine tw_getrk hx hb hW hown hK hS f_X12_45_11 hz_a0 hk_a0 (b := b1) k296 dX12_rounds_68 ?_
                    refine lv_iconst (v := 3) hx hb dX12_rounds_71 (by decide) ?_
                    refine tw_iald hx hb hK hS hz_b1 hk_b1 (Or.inr (by decide)) hn_b1 (lo := (-2147483648)) (hi := 2147483647) (iv_c (c := 3) (n := 3) (by decide)) ⟨by decide, by decide⟩ (rg_c (k0 := 3) rfl rfl rfl) dX12_rounds_72 (fun x299 k298 h297 => ?_)
                    refine tw_puti hx hb hW hown hK hS f_X12_348_11 hz_a0 hk_a0 rfl rfl (lo := (-2147483648)) (hi := 2147483647) rfl h297 rfl dX12_rounds_73 (fun H locs M302 hS k300 f301 => ?_)
                    refine lv_aload_n hx hb dX12_rounds_76 rfl (lv_at hl 2 rfl) ?_
                    refine lv_aload_n hx hb dX12_rounds_77 rfl (lv_at hl 2 rfl) ?_
                    refine tw_getr hx hb hW hown hK hS f_X12_54_11 hz_a0 hk_a0 (t := 31) (n := 8) rfl dX12_rounds_78 (fun b303 k304 hz_b303 hk_b303 hn_b303 => ?_)
                    have hn_b303 := hn_b303 (by decide)
                    refine lv_iload_n hx hb dX12_rounds_81 rfl (lv_at hl 0 rfl) ?_
                    refine tw_iald hx hb hK hS hz_b303 hk_b303 (Or.inr (by decide)) hn_b303 (lo := 0) (hi := 11) h294 ⟨by decide, by decide⟩ rg_u31 dX12_rounds_82 (fun x307 k306 h305 => ?_)
                    refine lv_iload_n hx hb dX12_rounds_83 rfl (lv_at hl 0 rfl) ?_
                    refine tw_gov hS (md_runV (As := [.int x307, .int x214]) (rest := []) hx hb hml hown hW hK hT hS.1 (t_X12_asks l D cy tx base Z K N M302 R216 J217 hS.2.1 a0 hz_a0 hk_a0 x307 h305 x214 (iv_mono h294 (by decide) (by decide)) (Codes.fr co_a0 hTy hz_a0 hk_a0 hS.2.2.1 hS.2.2.2 rfl)) s_X12_396 ⟨rfl, rfl, ⟨Nat.le_of_ble_eq_true rfl, Nat.le_of_ble_eq_true rfl⟩, ⟨Nat.le_of_ble_eq_true rfl, Nat.le_of_ble_eq_true rfl⟩⟩ hz_a0 hk_a0 (by decide) rfl rfl hl.1 rfl (Nat.le_of_ble_eq_true rfl) dX12_rounds_84) rfl rfl (fun H locs M311 R312 J310 hS f308 g309 E313 => ?_)
                    have eR312 := Fr.nil g309 rfl
                    subst eR312
                    refine lv_aload_n hx hb dX12_rounds_87 rfl (lv_at hl 2 rfl) ?_
                    refine lv_iconst (v := 0) hx hb dX12_rounds_88 (by decide) ?_
                    refine lv_aload_n hx hb dX12_rounds_89 rfl (lv_at hl 2 rfl) ?_
                    refine tw_getrk hx hb hW hown hK hS f_X12_54_11 hz_a0 hk_a0 (b := b303) k304 dX12_rounds_90 ?_
                    refine lv_iload_n hx hb dX12_rounds_93 rfl (lv_at hl 0 rfl) ?_
                    have k314 : M311 b303 x214.toNatClampNeg = x307 := (Fr.kpa f308 hk_b303 rfl x214.toNatClampNeg).trans k306
                    refine tw_ialk hx hb hK hS hz_b303 hk_b303 (Or.inr (by decide)) hn_b303 h294 ⟨by decide, by decide⟩ (v := x307) k314 dX12_rounds_94 ?_
                    refine lv_aload_n hx hb dX12_rounds_95 rfl (lv_at hl 2 rfl) ?_
                    refine tw_goi hS (md_runV (As := []) (rest := [.int x307, .int 0, .ref (base + a0)]) hx hb hml hown hW hK hT hS.1 (t_X12_settles_ l D cy tx base Z K N M311 R216 J310 hS.2.1 a0 hz_a0 hk_a0) s_X12_399 ⟨rfl, rfl, ⟨Nat.le_of_ble_eq_true rfl, Nat.le_of_ble_eq_true rfl⟩, ⟨Nat.le_of_ble_eq_true rfl, Nat.le_of_ble_eq_true rfl⟩⟩ hz_a0 hk_a0 (by decide) rfl rfl hl.1 rfl (Nat.le_of_ble_eq_true rfl) dX12_rounds_96) rfl rfl (fun x321 H locs M318 R319 J317 hS f315 g316 E320 => ?_)
                    have eR319 := Fr.nil g316 rfl
                    subst eR319
                    have h_x321 := E320
                    clear E320
                    refine tw_gov hS (md_runV (As := [.int 0, .int x307, .int x321]) (rest := []) hx hb hml hown hW hK hT hS.1 (t_X12_counts l D cy tx base Z K N M318 R216 J317 hS.2.1 a0 hz_a0 hk_a0 0 (iv_mono (iv_c (c := 0) (n := 0) (by decide)) (by decide) (by decide)) x307 h305 x321 h_x321) s_X12_413 ⟨rfl, rfl, ⟨Nat.le_of_ble_eq_true rfl, Nat.le_of_ble_eq_true rfl⟩, ⟨Nat.le_of_ble_eq_true rfl, Nat.le_of_ble_eq_true rfl⟩⟩ hz_a0 hk_a0 (by decide) rfl rfl hl.1 rfl (Nat.le_of_ble_eq_true rfl) dX12_rounds_99) rfl rfl (fun H locs M325 R326 J324 hS f322 g323 E327 => ?_)
                    have eR326 := Fr.nil g323 rfl
                    subst eR326
                    refine tw_iinc (lv' := fun x330 => [(3, .int x330), (2, .int x203), (0, .ref (base + a0)), (1, .int a1)]) (lo := 1) (hi := 8) hx hb dX12_rounds_102 hl (k := 0) rfl h294 (by decide) ⟨by decide, by decide⟩ ⟨by decide, by decide⟩ (by decide) (fun _ => rfl) (fun x330 ls e329 h328 hl => ?_)
                    refine lv_goto (tgt := 58) hx hb dX12_rounds_105 (by decide) ?_
                    have hm331 : 8 - x330.toInt < (n_215 : Int) := by
                      have := (h185).1; have := (h185).2; have := (h294).1; have := (h294).2; have := (h328).1; have := (h328).2; omega
                    exact ih_215 x330 M325 R216 J324 H locs _ (iv_mono h328 (by decide) (by decide)) hm331 hS hl
              have hm332 : 8 - (0 : Int32).toInt < (((9 : Nat) : Int) : Int) := by
                have := (h185).1; have := (h185).2; have : (0 : Int32).toInt = 0 := (by decide); omega
              exact W58_215 9 0 M204 R205 J206 H locs _ (iv_mono (iv_c (c := 0) (n := 0) (by decide)) (by decide) (by decide)) hm332 hS hl
        have hm333 : 301 - (1 : Int32).toInt < (((301 : Nat) : Int) : Int) := by
          have := (h185).1; have := (h185).2; have : (1 : Int32).toInt = 1 := (by decide); omega
        exact W49_204 301 1 M200 Ra J199 H locs _ (iv_mono (iv_c (c := 1) (n := 1) (by decide)) (by decide) (by decide)) hm333 hS hl
      · have q334 : x179.toInt = 0 := ti_eq c181
        have h335 : iv 0 0 x179 := ⟨by have := (h_x179).1; have := ((iv_c (c := 0) (n := 0) (by decide))).1; omega, by have := (h_x179).2; have := ((iv_c (c := 0) (n := 0) (by decide))).2; omega⟩
        refine lv_iconst (v := (-1)) hx hb dX12_rounds_31 (by decide) ?_
        exact tw_endi hx hb hr hlocks hK hT hS hQ ((iv_mono (iv_c (c := (-1)) (n := (-1)) (by decide)) (by decide) (by decide))) dX12_rounds_32
def Lt_X12_says : WL := [(12, 23, 24), (12, 28, 29), (12, 30, 31), (14, 0, 2000000), (30, 0, 2000000), (31, 0, 2000000)]
def LRt_X12_says : WL := []
set_option maxRecDepth 100000 in
set_option maxHeartbeats 4000000 in
theorem t_X12_says (l : Launch) (D : va_G) (cy : Nat → ClassId) (tx : (Nat → Nat) × (Nat → Nat)) (base Z : Nat) (K N : Nat → Nat) (Ma : MT) (Ra : RT) (Ja : JT) (hTy : Ty Z K N Ma Ra) (a0 : Nat) (hz_a0 : a0 < Z) (hk_a0 : K a0 = 12) (a1 : Int32) (h_a1 : iv (-2147483648) 2147483647 a1) (a2 : Int32) (h_a2 : iv (-2147483648) 2147483647 a2) (co_a0 : Codes Ma Ra a0) : Met l yX12_says [Cond.code yX12_says cX12_says 3 (some .int)] (md_rm 4 0 0) (va_Pc [.ref (base + a0), .int a1, .int a2] (md_U D cy tx base Z K N Ma Ra Ja)) (mQi D cy tx base (fun r u => TP Z K N Lt_X12_says LRt_X12_says Ma Ra u ∧ (iv (-2147483648) 2147483647 r))) 0 0 (fun q => base ≤ q) := by
  refine tw_ofW (L := Lt_X12_says) (LR := LRt_X12_says) (by decide) (Nat.le_of_ble_eq_true rfl) hTy ?_
  intro p e s m args below meth c Q ls hx hb hr hlocks hown hml hW hK hT hS hQ hl
  have hl : lv_has ls 3 [(0, .ref (base + a0)), (1, .int a1), (2, .int a2)] := hl
  refine lv_aload_n hx hb dX12_says_0 rfl (lv_at hl 0 rfl) ?_
  refine lv_iload_n hx hb dX12_says_1 rfl (lv_at hl 1 rfl) ?_
  refine tw_goi hS (md_runV (As := [.int a1]) (rest := []) hx hb hml hown hW hK hT hS.1 (t_X12_isPresent l D cy tx base Z K N Ma Ra Ja hS.2.1 a0 hz_a0 hk_a0 a1 h_a1) s_X12_390 ⟨rfl, rfl, ⟨Nat.le_of_ble_eq_true rfl, Nat.le_of_ble_eq_true rfl⟩, ⟨Nat.le_of_ble_eq_true rfl, Nat.le_of_ble_eq_true rfl⟩⟩ hz_a0 hk_a0 (by decide) rfl rfl hl.1 rfl (Nat.le_of_ble_eq_true rfl) dX12_says_2) rfl rfl (fun x7 H locs M4 R5 J3 hS f1 g2 E6 => ?_)
  have eM4 := Fr.nil f1 rfl
  subst eM4
  have eR5 := Fr.nil g2 rfl
  subst eR5
  obtain ⟨h_x7, p8⟩ := E6
  refine lv_if_eq (tgt := 16) hx hb dX12_says_5 (by decide) (fun c9 => ?_) (fun c9 => ?_)
  · have q10 : x7.toInt = 0 := ti_eq c9
    have h11 : iv 0 0 x7 := ⟨by have := (h_x7).1; have := ((iv_c (c := 0) (n := 0) (by decide))).1; omega, by have := (h_x7).2; have := ((iv_c (c := 0) (n := 0) (by decide))).2; omega⟩
    refine lv_iconst (v := (-1)) hx hb dX12_says_16 (by decide) ?_
    exact tw_endi hx hb hr hlocks hK hT hS hQ ((iv_mono (iv_c (c := (-1)) (n := (-1)) (by decide)) (by decide) (by decide))) dX12_says_17
  · have q12 : ¬ x7.toInt = 0 := ti_ne c9
    have h13 : iv 1 1 x7 := ⟨by have := (h_x7).1; have := ((iv_c (c := 0) (n := 0) (by decide))).1; have := ((iv_c (c := 0) (n := 0) (by decide))).2; omega, by have := (h_x7).2; have := ((iv_c (c := 0) (n := 0) (by decide))).1; have := ((iv_c (c := 0) (n := 0) (by decide))).2; omega⟩
    have h14 : iv 0 9 a1 := ⟨by have := (p8 c9).1; have := (h_a1).1; omega, by have := (p8 c9).2; have := (h_a1).2; omega⟩
    refine lv_aload_n hx hb dX12_says_8 rfl (lv_at hl 0 rfl) ?_
    refine lv_iload_n hx hb dX12_says_9 rfl (lv_at hl 2 rfl) ?_
    refine tw_goi hS (md_runV (As := [.int a2]) (rest := []) hx hb hml hown hW hK hT hS.1 (t_X12_isPoint l D cy tx base Z K N Ma Ra J3 hS.2.1 a0 hz_a0 hk_a0 a2 h_a2) s_X12_327 ⟨rfl, rfl, ⟨Nat.le_of_ble_eq_true rfl, Nat.le_of_ble_eq_true rfl⟩, ⟨Nat.le_of_ble_eq_true rfl, Nat.le_of_ble_eq_true rfl⟩⟩ hz_a0 hk_a0 (by decide) rfl rfl hl.1 rfl (Nat.le_of_ble_eq_true rfl) dX12_says_10) rfl rfl (fun x21 H locs M18 R19 J17 hS f15 g16 E20 => ?_)
    have eM18 := Fr.nil f15 rfl
    subst eM18
    have eR19 := Fr.nil g16 rfl
    subst eR19
    obtain ⟨h_x21, p22⟩ := E20
    refine lv_if_ne (tgt := 18) hx hb dX12_says_13 (by decide) (fun c23 => ?_) (fun c23 => ?_)
    · have q24 : ¬ x21.toInt = 0 := ti_ne c23
      have h25 : iv 1 1 x21 := ⟨by have := (h_x21).1; have := ((iv_c (c := 0) (n := 0) (by decide))).1; have := ((iv_c (c := 0) (n := 0) (by decide))).2; omega, by have := (h_x21).2; have := ((iv_c (c := 0) (n := 0) (by decide))).1; have := ((iv_c (c := 0) (n := 0) (by decide))).2; omega⟩
      have h26 : iv 0 11 a2 := ⟨by have := (p22 c23).1; have := (h_a2).1; omega, by have := (p22 c23).2; have := (h_a2).2; omega⟩
      refine lv_aload_n hx hb dX12_says_18 rfl (lv_at hl 0 rfl) ?_
      obtain ⟨b27, k28, hz_b27, hk_b27, hn_b27⟩ := hS.2.1.ref hz_a0 hk_a0 (show rtR 12 25 = (23, 226, 0) from rfl)
      have hn_b27 := hn_b27 (by decide)
      obtain ⟨x31, k29⟩ : ∃ x, Ma b27 (4 : Int32).toNatClampNeg = x := ⟨_, rfl⟩
      have h30 : iv 0 8 x31 := by rw [← k29]; exact hS.2.1.int hz_b27 hk_b27 (show rgI 23 (4 : Int32).toNatClampNeg = (0, 8) from rfl)
      refine tw_gov hS (md_runV (As := []) (rest := []) hx hb hml hown hW hK hT hS.1 (t_X12_begins l D cy tx base Z K N Ma Ra J17 hS.2.1 a0 hz_a0 hk_a0 b27 k28 x31 k29 (iv_mono h30 (by decide) (by decide))) s_X12_393 ⟨rfl, rfl, ⟨Nat.le_of_ble_eq_true rfl, Nat.le_of_ble_eq_true rfl⟩, ⟨Nat.le_of_ble_eq_true rfl, Nat.le_of_ble_eq_true rfl⟩⟩ hz_a0 hk_a0 (by decide) rfl rfl hl.1 rfl (Nat.le_of_ble_eq_true rfl) dX12_says_19) rfl rfl (fun H locs M35 R36 J34 hS f32 g33 E37 => ?_)
      have eR36 := Fr.nil g33 rfl
      subst eR36
      have p38 := E37
      clear E37
      have k39 : M35 a0 30 = x31 := p38
      refine lv_aload_n hx hb dX12_says_22 rfl (lv_at hl 0 rfl) ?_
      refine lv_iload_n hx hb dX12_says_23 rfl (lv_at hl 2 rfl) ?_
      refine lv_iconst (v := (-1)) hx hb dX12_says_24 (by decide) ?_
      refine tw_gov hS (md_runV (As := [.int a2, .int (-1)]) (rest := []) hx hb hml hown hW hK hT hS.1 (t_X12_wordsForAll l D cy tx base Z K N M35 Ra J34 hS.2.1 a0 hz_a0 hk_a0 a2 h26 (-1) (iv_mono (iv_c (c := (-1)) (n := (-1)) (by decide)) (by decide) (by decide))) s_X12_370 ⟨rfl, rfl, ⟨Nat.le_of_ble_eq_true rfl, Nat.le_of_ble_eq_true rfl⟩, ⟨Nat.le_of_ble_eq_true rfl, Nat.le_of_ble_eq_true rfl⟩⟩ hz_a0 hk_a0 (by decide) rfl rfl hl.1 rfl (Nat.le_of_ble_eq_true rfl) dX12_says_25) rfl rfl (fun H locs M43 R44 J42 hS f40 g41 E45 => ?_)
      have eM43 := Fr.nil f40 rfl
      subst eM43
      have eR44 := Fr.nil g41 rfl
      subst eR44
      refine lv_aload_n hx hb dX12_says_28 rfl (lv_at hl 0 rfl) ?_
      refine lv_iload_n hx hb dX12_says_29 rfl (lv_at hl 1 rfl) ?_
      refine lv_iload_n hx hb dX12_says_30 rfl (lv_at hl 2 rfl) ?_
      refine lv_iconst (v := (-1)) hx hb dX12_says_31 (by decide) ?_
      refine tw_goi hS (md_runV (As := [.int a1, .int a2, .int (-1)]) (rest := []) hx hb hml hown hW hK hT hS.1 (t_X12_saying l D cy tx base Z K N M35 Ra J42 hS.2.1 a0 hz_a0 hk_a0 a1 h14 a2 h26 (-1) (iv_mono (iv_c (c := (-1)) (n := (-1)) (by decide)) (by decide) (by decide)) (Codes.fr co_a0 hTy hz_a0 hk_a0 hS.2.2.1 hS.2.2.2 rfl)) s_X12_373 ⟨rfl, rfl, ⟨Nat.le_of_ble_eq_true rfl, Nat.le_of_ble_eq_true rfl⟩, ⟨Nat.le_of_ble_eq_true rfl, Nat.le_of_ble_eq_true rfl⟩⟩ hz_a0 hk_a0 (by decide) rfl rfl hl.1 rfl (Nat.le_of_ble_eq_true rfl) dX12_says_32) rfl rfl (fun x52 H locs M49 R50 J48 hS f46 g47 E51 => ?_)
      have eR50 := Fr.nil g47 rfl
      subst eR50
      have h_x52 := E51
      clear E51
      exact tw_endi hx hb hr hlocks hK hT hS hQ (h_x52) dX12_says_35
    · have q53 : x21.toInt = 0 := ti_eq c23
      have h54 : iv 0 0 x21 := ⟨by have := (h_x21).1; have := ((iv_c (c := 0) (n := 0) (by decide))).1; omega, by have := (h_x21).2; have := ((iv_c (c := 0) (n := 0) (by decide))).2; omega⟩
      refine lv_iconst (v := (-1)) hx hb dX12_says_16 (by decide) ?_
      exact tw_endi hx hb hr hlocks hK hT hS hQ ((iv_mono (iv_c (c := (-1)) (n := (-1)) (by decide)) (by decide) (by decide))) dX12_says_17
def Lt_X12_seed : WL := [(14, 0, 2000000), (23, 6, 7)]
def LRt_X12_seed : WL := []
set_option maxRecDepth 100000 in
set_option maxHeartbeats 4000000 in
theorem t_X12_seed (l : Launch) (D : va_G) (cy : Nat → ClassId) (tx : (Nat → Nat) × (Nat → Nat)) (base Z : Nat) (K N : Nat → Nat) (Ma : MT) (Ra : RT) (Ja : JT) (hTy : Ty Z K N Ma Ra) (a0 : Nat) (hz_a0 : a0 < Z) (hk_a0 : K a0 = 12) (a1 : Int32) (h_a1 : iv (-2147483648) 2147483647 a1) : Met l yX12_seed [Cond.code yX12_seed cX12_seed 3 (some .int)] (md_rm 2 0 0) (va_Pc [.ref (base + a0), .int a1] (md_U D cy tx base Z K N Ma Ra Ja)) (mQi D cy tx base (fun r u => TP Z K N Lt_X12_seed LRt_X12_seed Ma Ra u ∧ (iv (-2) 2147483647 r))) 0 0 (fun q => base ≤ q) := by
  refine tw_ofW (L := Lt_X12_seed) (LR := LRt_X12_seed) (by decide) (Nat.le_of_ble_eq_true rfl) hTy ?_
  intro p e s m args below meth c Q ls hx hb hr hlocks hown hml hW hK hT hS hQ hl
  have hl : lv_has ls 3 [(0, .ref (base + a0)), (1, .int a1)] := hl
  refine lv_iload_n hx hb dX12_seed_0 rfl (lv_at hl 1 rfl) ?_
  refine lv_if_ge (tgt := 10) hx hb dX12_seed_1 (by decide) (fun c1 => ?_) (fun c1 => ?_)
  · have q2 : 0 ≤ a1.toInt := ti_le c1
    have h3 : iv 0 2147483647 a1 := iv_geL (y := 0) h_a1 (iv_c (c := 0) (n := 0) (by decide)) q2 (by decide)
    refine lv_aload_n hx hb dX12_seed_10 rfl (lv_at hl 0 rfl) ?_
    refine tw_getr hx hb hW hown hK hS f_X12_45_11 hz_a0 hk_a0 (t := 23) (n := 226) rfl dX12_seed_11 (fun b4 k5 hz_b4 hk_b4 hn_b4 => ?_)
    have hn_b4 := hn_b4 (by decide)
    refine lv_bipush (v := 6) hx hb dX12_seed_14 (by decide) ?_
    refine tw_iald hx hb hK hS hz_b4 hk_b4 (Or.inr (by decide)) hn_b4 (lo := 0) (hi := 2147483647) (iv_c (c := 6) (n := 6) (by decide)) ⟨by decide, by decide⟩ (rg_c (k0 := 6) rfl rfl rfl) dX12_seed_16 (fun x8 k7 h6 => ?_)
    refine lv_istore_n (lv' := [(2, .int x8), (0, .ref (base + a0)), (1, .int a1)]) hx hb dX12_seed_17 rfl hl (by decide) rfl (fun ls hl => ?_)
    refine lv_aload_n hx hb dX12_seed_18 rfl (lv_at hl 1 rfl) ?_
    refine tw_getrk hx hb hW hown hK hS f_X12_45_11 hz_a0 hk_a0 (b := b4) k5 dX12_seed_19 ?_
    refine lv_bipush (v := 6) hx hb dX12_seed_22 (by decide) ?_
    refine lv_iload_n hx hb dX12_seed_24 rfl (lv_at hl 2 rfl) ?_
    refine tw_iast hx hb hK hS hz_b4 hk_b4 (Or.inr (by decide)) hn_b4 (iv_c (c := 6) (n := 6) (by decide)) ⟨by decide, by decide⟩ h3 (rg_cs (k0 := 6) rfl rfl rfl ⟨by decide, by decide⟩) (jl := 6) (jh := 6) ⟨by decide, by decide⟩ rfl dX12_seed_25 (fun H locs M11 hS k9 f10 => ?_)
    refine lv_iload_n hx hb dX12_seed_26 rfl (lv_at hl 0 rfl) ?_
    exact tw_endi hx hb hr hlocks hK hT hS hQ ((iv_mono h6 (by decide) (by decide))) dX12_seed_27
  · have q12 : a1.toInt < 0 := ti_nle c1
    have h13 : iv (-2147483648) (-1) a1 := iv_ltL (y := 0) h_a1 (iv_c (c := 0) (n := 0) (by decide)) q12 (by decide)
    refine lv_aload_n hx hb dX12_seed_4 rfl (lv_at hl 0 rfl) ?_
    refine lv_iconst (v := 0) hx hb dX12_seed_5 (by decide) ?_
    refine tw_goi hS (md_runV (As := [.int 0]) (rest := []) hx hb hml hown hW hK hT hS.1 (t_X12_refuses l D cy tx base Z K N Ma Ra Ja hS.2.1 a0 hz_a0 hk_a0 0 (iv_mono (iv_c (c := 0) (n := 0) (by decide)) (by decide) (by decide))) s_X12_338 ⟨rfl, rfl, ⟨Nat.le_of_ble_eq_true rfl, Nat.le_of_ble_eq_true rfl⟩, ⟨Nat.le_of_ble_eq_true rfl, Nat.le_of_ble_eq_true rfl⟩⟩ hz_a0 hk_a0 (by decide) rfl rfl hl.1 rfl (Nat.le_of_ble_eq_true rfl) dX12_seed_6) rfl rfl (fun x20 H locs M17 R18 J16 hS f14 g15 E19 => ?_)
    have eR18 := Fr.nil g15 rfl
    subst eR18
    have h_x20 := E19
    clear E19
    exact tw_endi hx hb hr hlocks hK hT hS hQ ((iv_mono h_x20 (by decide) (by decide))) dX12_seed_9
def Lt_X12_sides : WL := [(12, 23, 24), (12, 28, 29), (12, 30, 33), (14, 0, 2000000), (30, 0, 2000000), (31, 0, 2000000)]
def LRt_X12_sides : WL := []
set_option maxRecDepth 100000 in
set_option maxHeartbeats 4000000 in
theorem t_X12_sides (l : Launch) (D : va_G) (cy : Nat → ClassId) (tx : (Nat → Nat) × (Nat → Nat)) (base Z : Nat) (K N : Nat → Nat) (Ma : MT) (Ra : RT) (Ja : JT) (hTy : Ty Z K N Ma Ra) (a0 : Nat) (hz_a0 : a0 < Z) (hk_a0 : K a0 = 12) (a1 : Int32) (h_a1 : iv (-2147483648) 2147483647 a1) (a2 : Int32) (h_a2 : iv (-2147483648) 2147483647 a2) (a3 : Int32) (h_a3 : iv (-2147483648) 2147483647 a3) (co_a0 : Codes Ma Ra a0) (sd : Nat) (k_sd : Ra a0 25 = some sd) (e4 : Int32) (k_e4 : Ma sd (4 : Int32).toNatClampNeg = e4) (h_e4 : iv 0 8 e4) : Met l yX12_sides [Cond.code yX12_sides cX12_sides 6 (some .int)] (md_rm 6 0 0) (va_Pc [.ref (base + a0), .int a1, .int a2, .int a3] (md_U D cy tx base Z K N Ma Ra Ja)) (mQi D cy tx base (fun r u => TP Z K N Lt_X12_sides LRt_X12_sides Ma Ra u ∧ (iv (-2147483648) 2147483647 r))) 0 0 (fun q => base ≤ q) := by
  refine tw_ofW (L := Lt_X12_sides) (LR := LRt_X12_sides) (by decide) (Nat.le_of_ble_eq_true rfl) hTy ?_
  intro p e s m args below meth c Q ls hx hb hr hlocks hown hml hW hK hT hS hQ hl
  have hl : lv_has ls 6 [(0, .ref (base + a0)), (1, .int a1), (2, .int a2), (3, .int a3)] := hl
  obtain ⟨hz_sd, hk_sd, hn_sd⟩ := hTy.refn hz_a0 hk_a0 (show rtR 12 25 = (23, 226, 0) from rfl) k_sd
  have hn_sd := hn_sd (by decide)
  refine lv_aload_n hx hb dX12_sides_0 rfl (lv_at hl 0 rfl) ?_
  refine lv_iload_n hx hb dX12_sides_1 rfl (lv_at hl 1 rfl) ?_
  refine tw_goi hS (md_runV (As := [.int a1]) (rest := []) hx hb hml hown hW hK hT hS.1 (t_X12_isSet l D cy tx base Z K N Ma Ra Ja hS.2.1 a0 hz_a0 hk_a0 a1 h_a1) s_X12_404 ⟨rfl, rfl, ⟨Nat.le_of_ble_eq_true rfl, Nat.le_of_ble_eq_true rfl⟩, ⟨Nat.le_of_ble_eq_true rfl, Nat.le_of_ble_eq_true rfl⟩⟩ hz_a0 hk_a0 (by decide) rfl rfl hl.1 rfl (Nat.le_of_ble_eq_true rfl) dX12_sides_2) rfl rfl (fun x7 H locs M4 R5 J3 hS f1 g2 E6 => ?_)
  have eM4 := Fr.nil f1 rfl
  subst eM4
  have eR5 := Fr.nil g2 rfl
  subst eR5
  have h_x7 := E6
  clear E6
  refine lv_if_eq (tgt := 72) hx hb dX12_sides_5 (by decide) (fun c8 => ?_) (fun c8 => ?_)
  · have q9 : x7.toInt = 0 := ti_eq c8
    have h10 : iv 0 0 x7 := ⟨by have := (h_x7).1; have := ((iv_c (c := 0) (n := 0) (by decide))).1; omega, by have := (h_x7).2; have := ((iv_c (c := 0) (n := 0) (by decide))).2; omega⟩
    refine lv_ldcw hx hb hown (hW _ w_8_46 rfl) dX12_sides_72 ?_
    exact tw_endi hx hb hr hlocks hK hT hS hQ ((iv_mono (iv_c (c := (-1000000)) (n := (-1000000)) (by decide)) (by decide) (by decide))) dX12_sides_75
  · have q11 : ¬ x7.toInt = 0 := ti_ne c8
    have h12 : iv 1 1 x7 := ⟨by have := (h_x7).1; have := ((iv_c (c := 0) (n := 0) (by decide))).1; have := ((iv_c (c := 0) (n := 0) (by decide))).2; omega, by have := (h_x7).2; have := ((iv_c (c := 0) (n := 0) (by decide))).1; have := ((iv_c (c := 0) (n := 0) (by decide))).2; omega⟩
    refine lv_aload_n hx hb dX12_sides_8 rfl (lv_at hl 0 rfl) ?_
    refine lv_iload_n hx hb dX12_sides_9 rfl (lv_at hl 2 rfl) ?_
    refine tw_goi hS (md_runV (As := [.int a2]) (rest := []) hx hb hml hown hW hK hT hS.1 (t_X12_isSet l D cy tx base Z K N Ma Ra J3 hS.2.1 a0 hz_a0 hk_a0 a2 h_a2) s_X12_404 ⟨rfl, rfl, ⟨Nat.le_of_ble_eq_true rfl, Nat.le_of_ble_eq_true rfl⟩, ⟨Nat.le_of_ble_eq_true rfl, Nat.le_of_ble_eq_true rfl⟩⟩ hz_a0 hk_a0 (by decide) rfl rfl hl.1 rfl (Nat.le_of_ble_eq_true rfl) dX12_sides_10) rfl rfl (fun x19 H locs M16 R17 J15 hS f13 g14 E18 => ?_)
    have eM16 := Fr.nil f13 rfl
    subst eM16
    have eR17 := Fr.nil g14 rfl
    subst eR17
    have h_x19 := E18
    clear E18
    refine lv_if_eq (tgt := 72) hx hb dX12_sides_13 (by decide) (fun c20 => ?_) (fun c20 => ?_)
    · have q21 : x19.toInt = 0 := ti_eq c20
      have h22 : iv 0 0 x19 := ⟨by have := (h_x19).1; have := ((iv_c (c := 0) (n := 0) (by decide))).1; omega, by have := (h_x19).2; have := ((iv_c (c := 0) (n := 0) (by decide))).2; omega⟩
      refine lv_ldcw hx hb hown (hW _ w_8_46 rfl) dX12_sides_72 ?_
      exact tw_endi hx hb hr hlocks hK hT hS hQ ((iv_mono (iv_c (c := (-1000000)) (n := (-1000000)) (by decide)) (by decide) (by decide))) dX12_sides_75
    · have q23 : ¬ x19.toInt = 0 := ti_ne c20
      have h24 : iv 1 1 x19 := ⟨by have := (h_x19).1; have := ((iv_c (c := 0) (n := 0) (by decide))).1; have := ((iv_c (c := 0) (n := 0) (by decide))).2; omega, by have := (h_x19).2; have := ((iv_c (c := 0) (n := 0) (by decide))).1; have := ((iv_c (c := 0) (n := 0) (by decide))).2; omega⟩
      refine lv_iload_n hx hb dX12_sides_16 rfl (lv_at hl 1 rfl) ?_
      refine lv_if_eq (tgt := 72) hx hb dX12_sides_17 (by decide) (fun c25 => ?_) (fun c25 => ?_)
      · have q26 : a1.toInt = 0 := ti_eq c25
        have h27 : iv 0 0 a1 := ⟨by have := (h_a1).1; have := ((iv_c (c := 0) (n := 0) (by decide))).1; omega, by have := (h_a1).2; have := ((iv_c (c := 0) (n := 0) (by decide))).2; omega⟩
        refine lv_ldcw hx hb hown (hW _ w_8_46 rfl) dX12_sides_72 ?_
        exact tw_endi hx hb hr hlocks hK hT hS hQ ((iv_mono (iv_c (c := (-1000000)) (n := (-1000000)) (by decide)) (by decide) (by decide))) dX12_sides_75
      · have q28 : ¬ a1.toInt = 0 := ti_ne c25
        refine lv_iload_n hx hb dX12_sides_20 rfl (lv_at hl 2 rfl) ?_
        refine lv_if_eq (tgt := 72) hx hb dX12_sides_21 (by decide) (fun c29 => ?_) (fun c29 => ?_)
        · have q30 : a2.toInt = 0 := ti_eq c29
          have h31 : iv 0 0 a2 := ⟨by have := (h_a2).1; have := ((iv_c (c := 0) (n := 0) (by decide))).1; omega, by have := (h_a2).2; have := ((iv_c (c := 0) (n := 0) (by decide))).2; omega⟩
          refine lv_ldcw hx hb hown (hW _ w_8_46 rfl) dX12_sides_72 ?_
          exact tw_endi hx hb hr hlocks hK hT hS hQ ((iv_mono (iv_c (c := (-1000000)) (n := (-1000000)) (by decide)) (by decide) (by decide))) dX12_sides_75
        · have q32 : ¬ a2.toInt = 0 := ti_ne c29
          refine lv_iload_n hx hb dX12_sides_24 rfl (lv_at hl 1 rfl) ?_
          refine lv_iload_n hx hb dX12_sides_25 rfl (lv_at hl 2 rfl) ?_
          refine lv_iand hx hb dX12_sides_26 ?_
          refine tw_top (fun x34 => ?_)
          have h33 := iv_any x34
          refine lv_if_ne (tgt := 72) hx hb dX12_sides_27 (by decide) (fun c35 => ?_) (fun c35 => ?_)
          · have q36 : ¬ x34.toInt = 0 := ti_ne c35
            refine lv_ldcw hx hb hown (hW _ w_8_46 rfl) dX12_sides_72 ?_
            exact tw_endi hx hb hr hlocks hK hT hS hQ ((iv_mono (iv_c (c := (-1000000)) (n := (-1000000)) (by decide)) (by decide) (by decide))) dX12_sides_75
          · have q37 : x34.toInt = 0 := ti_eq c35
            have h38 : iv 0 0 x34 := ⟨by have := (h33).1; have := ((iv_c (c := 0) (n := 0) (by decide))).1; omega, by have := (h33).2; have := ((iv_c (c := 0) (n := 0) (by decide))).2; omega⟩
            refine lv_iload_n hx hb dX12_sides_30 rfl (lv_at hl 1 rfl) ?_
            refine lv_iload_n hx hb dX12_sides_31 rfl (lv_at hl 2 rfl) ?_
            refine lv_ior hx hb dX12_sides_32 ?_
            refine tw_top (fun x40 => ?_)
            have h39 := iv_any x40
            refine lv_aload_n hx hb dX12_sides_33 rfl (lv_at hl 0 rfl) ?_
            refine tw_getrk hx hb hW hown hK hS f_X12_45_11 hz_a0 hk_a0 (b := sd) k_sd dX12_sides_34 ?_
            refine lv_iconst (v := 2) hx hb dX12_sides_37 (by decide) ?_
            refine tw_iald hx hb hK hS hz_sd hk_sd (Or.inr (by decide)) hn_sd (lo := (-2147483648)) (hi := 2147483647) (iv_c (c := 2) (n := 2) (by decide)) ⟨by decide, by decide⟩ (rg_c (k0 := 2) rfl rfl rfl) dX12_sides_38 (fun x43 k42 h41 => ?_)
            refine lv_iconst (v := (-1)) hx hb dX12_sides_39 (by decide) ?_
            refine lv_ixor hx hb dX12_sides_40 ?_
            refine tw_top (fun x45 => ?_)
            have h44 := iv_any x45
            refine lv_iand hx hb dX12_sides_41 ?_
            refine tw_top (fun x47 => ?_)
            have h46 := iv_any x47
            refine lv_if_ne (tgt := 72) hx hb dX12_sides_42 (by decide) (fun c48 => ?_) (fun c48 => ?_)
            · have q49 : ¬ x47.toInt = 0 := ti_ne c48
              refine lv_ldcw hx hb hown (hW _ w_8_46 rfl) dX12_sides_72 ?_
              exact tw_endi hx hb hr hlocks hK hT hS hQ ((iv_mono (iv_c (c := (-1000000)) (n := (-1000000)) (by decide)) (by decide) (by decide))) dX12_sides_75
            · have q50 : x47.toInt = 0 := ti_eq c48
              have h51 : iv 0 0 x47 := ⟨by have := (h46).1; have := ((iv_c (c := 0) (n := 0) (by decide))).1; omega, by have := (h46).2; have := ((iv_c (c := 0) (n := 0) (by decide))).2; omega⟩
              refine lv_aload_n hx hb dX12_sides_45 rfl (lv_at hl 0 rfl) ?_
              refine tw_getrk hx hb hW hown hK hS f_X12_45_11 hz_a0 hk_a0 (b := sd) k_sd dX12_sides_46 ?_
              refine lv_iconst (v := 4) hx hb dX12_sides_49 (by decide) ?_
              refine tw_ialk hx hb hK hS hz_sd hk_sd (Or.inr (by decide)) hn_sd (iv_c (c := 4) (n := 4) (by decide)) ⟨by decide, by decide⟩ (v := e4) k_e4 dX12_sides_50 ?_
              refine lv_i2l hx hb dX12_sides_51 rfl ?_
              refine lv_lconst (v := 1) hx hb dX12_sides_52 (by decide) ?_
              refine lv_ldc2 hx hb hown (hW _ w_7_141 rfl) dX12_sides_53 ?_
              refine tw_goi hS (md_runS (As := [.long e4.toInt64, .long 1, .long 4]) (rest := []) hx hb hml hown hW hK hT hS.1 (t_X12_in l D cy tx base Z K N Ma Ra J15 hS.2.1 (e4.toInt64) (1) (4)) s_X12_155 ⟨rfl, rfl, ⟨Nat.le_of_ble_eq_true rfl, Nat.le_of_ble_eq_true rfl⟩, ⟨Nat.le_of_ble_eq_true rfl, Nat.le_of_ble_eq_true rfl⟩⟩ rfl hl.1 rfl (Nat.le_of_ble_eq_true rfl) dX12_sides_56) rfl rfl (fun x58 H locs M55 R56 J54 hS f52 g53 E57 => ?_)
              have eM55 := Fr.nil f52 rfl
              subst eM55
              have eR56 := Fr.nil g53 rfl
              subst eR56
              obtain ⟨h_x58, p59⟩ := E57
              have p60 := p59.1
              refine lv_if_eq (tgt := 72) hx hb dX12_sides_59 (by decide) (fun c61 => ?_) (fun c61 => ?_)
              · have q62 : x58.toInt = 0 := ti_eq c61
                have q63 := p59.2 c61
                have q63 : e4.toInt < 1 ∨ 4 < e4.toInt := by rw [Int32.toInt_toInt64] at q63; exact q63
                have h64 : iv 0 0 x58 := ⟨by have := (h_x58).1; have := ((iv_c (c := 0) (n := 0) (by decide))).1; omega, by have := (h_x58).2; have := ((iv_c (c := 0) (n := 0) (by decide))).2; omega⟩
                refine lv_ldcw hx hb hown (hW _ w_8_46 rfl) dX12_sides_72 ?_
                exact tw_endi hx hb hr hlocks hK hT hS hQ ((iv_mono (iv_c (c := (-1000000)) (n := (-1000000)) (by decide)) (by decide) (by decide))) dX12_sides_75
              · have q65 : ¬ x58.toInt = 0 := ti_ne c61
                have h66 : iv 1 1 x58 := ⟨by have := (h_x58).1; have := ((iv_c (c := 0) (n := 0) (by decide))).1; have := ((iv_c (c := 0) (n := 0) (by decide))).2; omega, by have := (h_x58).2; have := ((iv_c (c := 0) (n := 0) (by decide))).1; have := ((iv_c (c := 0) (n := 0) (by decide))).2; omega⟩
                have h67 : iv 1 4 e4 := in2iv (p60 c61) ((jv_c (x := 1) (n := 1) (by decide))).1 ((jv_c (x := 4) (n := 4) (by decide))).2
                refine lv_iload_n hx hb dX12_sides_62 rfl (lv_at hl 3 rfl) ?_
                refine lv_i2l hx hb dX12_sides_63 rfl ?_
                refine lv_lconst (v := 0) hx hb dX12_sides_64 (by decide) ?_
                refine lv_lconst (v := 1) hx hb dX12_sides_65 (by decide) ?_
                refine tw_goi hS (md_runS (As := [.long a3.toInt64, .long 0, .long 1]) (rest := []) hx hb hml hown hW hK hT hS.1 (t_X12_in l D cy tx base Z K N Ma Ra J54 hS.2.1 (a3.toInt64) (0) (1)) s_X12_155 ⟨rfl, rfl, ⟨Nat.le_of_ble_eq_true rfl, Nat.le_of_ble_eq_true rfl⟩, ⟨Nat.le_of_ble_eq_true rfl, Nat.le_of_ble_eq_true rfl⟩⟩ rfl hl.1 rfl (Nat.le_of_ble_eq_true rfl) dX12_sides_66) rfl rfl (fun x74 H locs M71 R72 J70 hS f68 g69 E73 => ?_)
                have eM71 := Fr.nil f68 rfl
                subst eM71
                have eR72 := Fr.nil g69 rfl
                subst eR72
                obtain ⟨h_x74, p75⟩ := E73
                have p76 := p75.1
                refine lv_if_ne (tgt := 76) hx hb dX12_sides_69 (by decide) (fun c77 => ?_) (fun c77 => ?_)
                · have q78 : ¬ x74.toInt = 0 := ti_ne c77
                  have h79 : iv 1 1 x74 := ⟨by have := (h_x74).1; have := ((iv_c (c := 0) (n := 0) (by decide))).1; have := ((iv_c (c := 0) (n := 0) (by decide))).2; omega, by have := (h_x74).2; have := ((iv_c (c := 0) (n := 0) (by decide))).1; have := ((iv_c (c := 0) (n := 0) (by decide))).2; omega⟩
                  have h80 : iv 0 1 a3 := in2iv (p76 c77) ((jv_c (x := 0) (n := 0) (by decide))).1 ((jv_c (x := 1) (n := 1) (by decide))).2
                  refine lv_iconst (v := 1) hx hb dX12_sides_76 (by decide) ?_
                  refine lv_istore (lv' := [(4, .int 1), (0, .ref (base + a0)), (1, .int a1), (2, .int a2), (3, .int a3)]) hx hb dX12_sides_77 hl (by decide) rfl (fun ls hl => ?_)
                  refine lv_iconst (v := 0) hx hb dX12_sides_79 (by decide) ?_
                  refine lv_istore (lv' := [(5, .int 0), (4, .int 1), (0, .ref (base + a0)), (1, .int a1), (2, .int a2), (3, .int a3)]) hx hb dX12_sides_80 hl (by decide) rfl (fun ls hl => ?_)
                  have W82_83 : ∀ (n_83 : Nat) (x81 : Int32) (x82 : Int32) (M83 : MT) (R84 : RT) (J85 : JT) (H : Heap) (locs : List Loc) (ls : Array Slot) (h_x81 : iv 1 6561 x81) (h_x82 : iv 0 4 x82) (w0_83 : x82.toInt ≤ e4.toInt) (w1_83 : (x82.toInt = 0 ∧ x81.toInt = 1) ∨ (x82.toInt = 1 ∧ x81.toInt = 9) ∨ (x82.toInt = 2 ∧ x81.toInt = 81) ∨ (x82.toInt = 3 ∧ x81.toInt = 729) ∨ (x82.toInt = 4 ∧ x81.toInt = 6561)) (hm_83 : 4 - x82.toInt < (n_83 : Int)) (hS : SB D cy base Z K N Lt_X12_sides LRt_X12_sides Ma Ra M83 R84 J85 s H locs) (hl : lv_has ls 6 [(4, .int x81), (5, .int x82), (0, .ref (base + a0)), (1, .int a1), (2, .int a2), (3, .int a3)]), W p l e (md_rm 6 0 0) s m args below meth c H locs 0 0 Q (F0 m 82 ls []) := by
                    intro n_83
                    induction n_83 with
                    | zero =>
                      intro x81 x82 M83 R84 J85 H locs ls h_x81 h_x82 w0_83 w1_83 hm_83 hS hl
                      exfalso
                      have := (h_a1).1; have := (h_a1).2; have := (h_a2).1; have := (h_a2).2; have := (h80).1; have := (h80).2; have := (h67).1; have := (h67).2; have := (h_x81).1; have := (h_x81).2; have := (h_x82).1; have := (h_x82).2; omega
                    | succ n_83 ih_83 =>
                      intro x81 x82 M83 R84 J85 H locs ls h_x81 h_x82 w0_83 w1_83 hm_83 hS hl
                      have f86 := hS.2.2.1
                      have g87 := hS.2.2.2
                      refine lv_iload hx hb dX12_sides_82 (lv_at hl 1 rfl) ?_
                      refine lv_aload_n hx hb dX12_sides_84 rfl (lv_at hl 2 rfl) ?_
                      have k88 : R84 a0 25 = some sd := (Fr.kp (k := 25) g87 hk_a0 rfl).trans k_sd
                      refine tw_getrk hx hb hW hown hK hS f_X12_45_11 hz_a0 hk_a0 (b := sd) k88 dX12_sides_85 ?_
                      refine lv_iconst (v := 4) hx hb dX12_sides_88 (by decide) ?_
                      have k89 : M83 sd (4 : Int32).toNatClampNeg = e4 := (Fr.kp (k := (4 : Int32).toNatClampNeg) f86 hk_sd rfl).trans k_e4
                      refine tw_ialk hx hb hK hS hz_sd hk_sd (Or.inr (by decide)) hn_sd (iv_c (c := 4) (n := 4) (by decide)) ⟨by decide, by decide⟩ (v := e4) k89 dX12_sides_89 ?_
                      refine lv_icmp_ge (tgt := 106) hx hb dX12_sides_90 (by decide) (fun c90 => ?_) (fun c90 => ?_)
                      · have q91 : e4.toInt ≤ x82.toInt := ti_le c90
                        have h92 : iv 1 4 x82 := iv_geL (y := e4) h_x82 h67 q91 (by decide)
                        refine lv_iconst (v := 0) hx hb dX12_sides_106 (by decide) ?_
                        refine lv_istore (lv' := [(5, .int 0), (4, .int x81), (0, .ref (base + a0)), (1, .int a1), (2, .int a2), (3, .int a3)]) hx hb dX12_sides_107 hl (by decide) rfl (fun ls hl => ?_)
                        have W109_94 : ∀ (n_94 : Nat) (x93 : Int32) (M94 : MT) (R95 : RT) (J96 : JT) (H : Heap) (locs : List Loc) (ls : Array Slot) (h_x93 : iv 0 6561 x93) (hm_94 : 6561 - x93.toInt < (n_94 : Int)) (hS : SB D cy base Z K N Lt_X12_sides LRt_X12_sides Ma Ra M94 R95 J96 s H locs) (hl : lv_has ls 6 [(5, .int x93), (4, .int x81), (0, .ref (base + a0)), (1, .int a1), (2, .int a2), (3, .int a3)]), W p l e (md_rm 6 0 0) s m args below meth c H locs 0 0 Q (F0 m 109 ls []) := by
                          intro n_94
                          induction n_94 with
                          | zero =>
                            intro x93 M94 R95 J96 H locs ls h_x93 hm_94 hS hl
                            exfalso
                            have := (h_a1).1; have := (h_a1).2; have := (h_a2).1; have := (h_a2).2; have := (h80).1; have := (h80).2; have := (h67).1; have := (h67).2; have := (h_x93).1; have := (h_x93).2; omega
                          | succ n_94 ih_94 =>
                            intro x93 M94 R95 J96 H locs ls h_x93 hm_94 hS hl
                            have f97 := hS.2.2.1
                            have g98 := hS.2.2.2
                            refine lv_iload hx hb dX12_sides_109 (lv_at hl 0 rfl) ?_
                            refine lv_iload hx hb dX12_sides_111 (lv_at hl 1 rfl) ?_
                            refine lv_icmp_ge (tgt := 139) hx hb dX12_sides_113 (by decide) (fun c99 => ?_) (fun c99 => ?_)
                            · have q100 : x81.toInt ≤ x93.toInt := ti_le c99
                              have h101 : iv 1 6561 x93 := iv_geL (y := x81) h_x93 h_x81 q100 (by decide)
                              have W139_104 : ∀ (n_104 : Nat) (x102 : Int32) (x103 : Int32) (M104 : MT) (R105 : RT) (J106 : JT) (H : Heap) (locs : List Loc) (ls : Array Slot) (h_x102 : iv 0 6561 x102) (h_x103 : iv 0 6561 x103) (hm_104 : x102.toInt - 0 < (n_104 : Int)) (hS : SB D cy base Z K N Lt_X12_sides LRt_X12_sides Ma Ra M104 R105 J106 s H locs) (hl : lv_has ls 6 [(4, .int x102), (5, .int x103), (0, .ref (base + a0)), (1, .int a1), (2, .int a2), (3, .int a3)]), W p l e (md_rm 6 0 0) s m args below meth c H locs 0 0 Q (F0 m 139 ls []) := by
                                intro n_104
                                induction n_104 with
                                | zero =>
                                  intro x102 x103 M104 R105 J106 H locs ls h_x102 h_x103 hm_104 hS hl
                                  exfalso
                                  have := (h_a1).1; have := (h_a1).2; have := (h_a2).1; have := (h_a2).2; have := (h80).1; have := (h80).2; have := (h67).1; have := (h67).2; have := (h_x102).1; have := (h_x102).2; omega
                                | succ n_104 ih_104 =>
                                  intro x102 x103 M104 R105 J106 H locs ls h_x102 h_x103 hm_104 hS hl
                                  have f107 := hS.2.2.1
                                  have g108 := hS.2.2.2
                                  refine lv_iload hx hb dX12_sides_139 (lv_at hl 0 rfl) ?_
                                  refine lv_bipush (v := 9) hx hb dX12_sides_141 (by decide) ?_
                                  refine lv_icmp_le (tgt := 216) hx hb dX12_sides_143 (by decide) (fun c109 => ?_) (fun c109 => ?_)
                                  · have q110 : x102.toInt ≤ 9 := ti_le c109
                                    have h111 : iv 0 9 x102 := iv_leL (y := 9) h_x102 (iv_c (c := 9) (n := 9) (by decide)) q110 (by decide)
                                    refine lv_aload_n hx hb dX12_sides_216 rfl (lv_at hl 2 rfl) ?_
                                    refine lv_iconst (v := 0) hx hb dX12_sides_217 (by decide) ?_
                                    refine lv_iconst (v := 1) hx hb dX12_sides_218 (by decide) ?_
                                    refine tw_goi hS (md_runV (As := [.int 0, .int 1]) (rest := []) hx hb hml hown hW hK hT hS.1 (t_X12_best l D cy tx base Z K N M104 R105 J106 hS.2.1 a0 hz_a0 hk_a0 0 (iv_mono (iv_c (c := 0) (n := 0) (by decide)) (by decide) (by decide)) 1 (iv_mono (iv_c (c := 1) (n := 1) (by decide)) (by decide) (by decide))) s_X12_466 ⟨rfl, rfl, ⟨Nat.le_of_ble_eq_true rfl, Nat.le_of_ble_eq_true rfl⟩, ⟨Nat.le_of_ble_eq_true rfl, Nat.le_of_ble_eq_true rfl⟩⟩ hz_a0 hk_a0 (by decide) rfl rfl hl.1 rfl (Nat.le_of_ble_eq_true rfl) dX12_sides_219) rfl rfl (fun x118 H locs M115 R116 J114 hS f112 g113 E117 => ?_)
                                    have eM115 := Fr.nil f112 rfl
                                    subst eM115
                                    have eR116 := Fr.nil g113 rfl
                                    subst eR116
                                    have h_x118 := E117
                                    clear E117
                                    refine lv_istore (lv' := [(5, .int x118), (4, .int x102), (0, .ref (base + a0)), (1, .int a1), (2, .int a2), (3, .int a3)]) hx hb dX12_sides_222 hl (by decide) rfl (fun ls hl => ?_)
                                    refine lv_iload_n hx hb dX12_sides_224 rfl (lv_at hl 5 rfl) ?_
                                    refine lv_if_ne (tgt := 237) hx hb dX12_sides_225 (by decide) (fun c119 => ?_) (fun c119 => ?_)
                                    · have q120 : ¬ a3.toInt = 0 := ti_ne c119
                                      have h121 : iv 1 1 a3 := ⟨by have := (h80).1; have := ((iv_c (c := 0) (n := 0) (by decide))).1; have := ((iv_c (c := 0) (n := 0) (by decide))).2; omega, by have := (h80).2; have := ((iv_c (c := 0) (n := 0) (by decide))).1; have := ((iv_c (c := 0) (n := 0) (by decide))).2; omega⟩
                                      refine lv_iload hx hb dX12_sides_237 (lv_at hl 0 rfl) ?_
                                      refine lv_if_ne (tgt := 246) hx hb dX12_sides_239 (by decide) (fun c122 => ?_) (fun c122 => ?_)
                                      · have q123 : ¬ x118.toInt = 0 := ti_ne c122
                                        refine lv_iload hx hb dX12_sides_246 (lv_at hl 0 rfl) ?_
                                        refine lv_iconst (v := 1) hx hb dX12_sides_248 (by decide) ?_
                                        refine lv_icmp_ne (tgt := 256) hx hb dX12_sides_249 (by decide) (fun c124 => ?_) (fun c124 => ?_)
                                        · have q125 : ¬ x118.toInt = 1 := ti_ne c124
                                          refine lv_iconst (v := 2) hx hb dX12_sides_256 (by decide) ?_
                                          exact tw_endi hx hb hr hlocks hK hT hS hQ ((iv_mono (iv_c (c := 2) (n := 2) (by decide)) (by decide) (by decide))) dX12_sides_257
                                        · have q126 : x118.toInt = 1 := ti_eq c124
                                          have h127 : iv 1 1 x118 := ⟨by have := (h_x118).1; have := ((iv_c (c := 1) (n := 1) (by decide))).1; omega, by have := (h_x118).2; have := ((iv_c (c := 1) (n := 1) (by decide))).2; omega⟩
                                          refine lv_iconst (v := 0) hx hb dX12_sides_252 (by decide) ?_
                                          refine lv_goto (tgt := 257) hx hb dX12_sides_253 (by decide) ?_
                                          exact tw_endi hx hb hr hlocks hK hT hS hQ ((iv_mono (iv_c (c := 0) (n := 0) (by decide)) (by decide) (by decide))) dX12_sides_257
                                      · have q128 : x118.toInt = 0 := ti_eq c122
                                        have h129 : iv 0 0 x118 := ⟨by have := (h_x118).1; have := ((iv_c (c := 0) (n := 0) (by decide))).1; omega, by have := (h_x118).2; have := ((iv_c (c := 0) (n := 0) (by decide))).2; omega⟩
                                        refine lv_iconst (v := 1) hx hb dX12_sides_242 (by decide) ?_
                                        refine lv_goto (tgt := 257) hx hb dX12_sides_243 (by decide) ?_
                                        exact tw_endi hx hb hr hlocks hK hT hS hQ ((iv_mono (iv_c (c := 1) (n := 1) (by decide)) (by decide) (by decide))) dX12_sides_257
                                    · have q130 : a3.toInt = 0 := ti_eq c119
                                      have h131 : iv 0 0 a3 := ⟨by have := (h80).1; have := ((iv_c (c := 0) (n := 0) (by decide))).1; omega, by have := (h80).2; have := ((iv_c (c := 0) (n := 0) (by decide))).2; omega⟩
                                      refine lv_aload_n hx hb dX12_sides_228 rfl (lv_at hl 2 rfl) ?_
                                      refine lv_iconst (v := 0) hx hb dX12_sides_229 (by decide) ?_
                                      refine lv_iconst (v := 0) hx hb dX12_sides_230 (by decide) ?_
                                      refine tw_goi hS (md_runV (As := [.int 0, .int 0]) (rest := []) hx hb hml hown hW hK hT hS.1 (t_X12_best l D cy tx base Z K N M104 R105 J114 hS.2.1 a0 hz_a0 hk_a0 0 (iv_mono (iv_c (c := 0) (n := 0) (by decide)) (by decide) (by decide)) 0 (iv_mono (iv_c (c := 0) (n := 0) (by decide)) (by decide) (by decide))) s_X12_466 ⟨rfl, rfl, ⟨Nat.le_of_ble_eq_true rfl, Nat.le_of_ble_eq_true rfl⟩, ⟨Nat.le_of_ble_eq_true rfl, Nat.le_of_ble_eq_true rfl⟩⟩ hz_a0 hk_a0 (by decide) rfl rfl hl.1 rfl (Nat.le_of_ble_eq_true rfl) dX12_sides_231) rfl rfl (fun x138 H locs M135 R136 J134 hS f132 g133 E137 => ?_)
                                      have eM135 := Fr.nil f132 rfl
                                      subst eM135
                                      have eR136 := Fr.nil g133 rfl
                                      subst eR136
                                      have h_x138 := E137
                                      clear E137
                                      refine lv_goto (tgt := 257) hx hb dX12_sides_234 (by decide) ?_
                                      exact tw_endi hx hb hr hlocks hK hT hS hQ (h_x138) dX12_sides_257
                                  · have q139 : 9 < x102.toInt := ti_nle c109
                                    have h140 : iv 10 6561 x102 := iv_gtL (y := 9) h_x102 (iv_c (c := 9) (n := 9) (by decide)) q139 (by decide)
                                    refine lv_iload hx hb dX12_sides_146 (lv_at hl 0 rfl) ?_
                                    refine lv_bipush (v := 9) hx hb dX12_sides_148 (by decide) ?_
                                    refine tw_idiv (lo := 0) (hi := 729) hx hb h140 (iv_c (c := 9) (n := 9) (by decide)) ⟨by decide, by decide⟩ ⟨by decide, by decide⟩ dX12_sides_150 (fun x143 e142 h141 => ?_)
                                    have e142 : x143.toInt = x102.toInt / 9 := e142
                                    refine lv_istore (lv' := [(4, .int x143), (5, .int x103), (0, .ref (base + a0)), (1, .int a1), (2, .int a2), (3, .int a3)]) hx hb dX12_sides_151 hl (by decide) rfl (fun ls hl => ?_)
                                    refine lv_iconst (v := 0) hx hb dX12_sides_153 (by decide) ?_
                                    refine lv_istore (lv' := [(5, .int 0), (4, .int x143), (0, .ref (base + a0)), (1, .int a1), (2, .int a2), (3, .int a3)]) hx hb dX12_sides_154 hl (by decide) rfl (fun ls hl => ?_)
                                    have W156_145 : ∀ (n_145 : Nat) (x144 : Int32) (M145 : MT) (R146 : RT) (J147 : JT) (H : Heap) (locs : List Loc) (ls : Array Slot) (h_x144 : iv 0 729 x144) (hm_145 : 729 - x144.toInt < (n_145 : Int)) (hS : SB D cy base Z K N Lt_X12_sides LRt_X12_sides Ma Ra M145 R146 J147 s H locs) (hl : lv_has ls 6 [(5, .int x144), (4, .int x143), (0, .ref (base + a0)), (1, .int a1), (2, .int a2), (3, .int a3)]), W p l e (md_rm 6 0 0) s m args below meth c H locs 0 0 Q (F0 m 156 ls []) := by
                                      intro n_145
                                      induction n_145 with
                                      | zero =>
                                        intro x144 M145 R146 J147 H locs ls h_x144 hm_145 hS hl
                                        exfalso
                                        have := (h_a1).1; have := (h_a1).2; have := (h_a2).1; have := (h_a2).2; have := (h80).1; have := (h80).2; have := (h67).1; have := (h67).2; have := (h_x144).1; have := (h_x144).2; omega
                                      | succ n_145 ih_145 =>
                                        intro x144 M145 R146 J147 H locs ls h_x144 hm_145 hS hl
                                        have f148 := hS.2.2.1
                                        have g149 := hS.2.2.2
                                        refine lv_iload hx hb dX12_sides_156 (lv_at hl 0 rfl) ?_
                                        refine lv_iload hx hb dX12_sides_158 (lv_at hl 1 rfl) ?_
                                        refine lv_icmp_ge (tgt := 183) hx hb dX12_sides_160 (by decide) (fun c150 => ?_) (fun c150 => ?_)
                                        · have q151 : x143.toInt ≤ x144.toInt := ti_le c150
                                          refine lv_iconst (v := 0) hx hb dX12_sides_183 (by decide) ?_
                                          refine lv_istore (lv' := [(5, .int 0), (4, .int x143), (0, .ref (base + a0)), (1, .int a1), (2, .int a2), (3, .int a3)]) hx hb dX12_sides_184 hl (by decide) rfl (fun ls hl => ?_)
                                          have W186_153 : ∀ (n_153 : Nat) (x152 : Int32) (M153 : MT) (R154 : RT) (J155 : JT) (H : Heap) (locs : List Loc) (ls : Array Slot) (h_x152 : iv 0 729 x152) (hm_153 : 729 - x152.toInt < (n_153 : Int)) (hS : SB D cy base Z K N Lt_X12_sides LRt_X12_sides Ma Ra M153 R154 J155 s H locs) (hl : lv_has ls 6 [(5, .int x152), (4, .int x143), (0, .ref (base + a0)), (1, .int a1), (2, .int a2), (3, .int a3)]), W p l e (md_rm 6 0 0) s m args below meth c H locs 0 0 Q (F0 m 186 ls []) := by
                                            intro n_153
                                            induction n_153 with
                                            | zero =>
                                              intro x152 M153 R154 J155 H locs ls h_x152 hm_153 hS hl
                                              exfalso
                                              have := (h_a1).1; have := (h_a1).2; have := (h_a2).1; have := (h_a2).2; have := (h80).1; have := (h80).2; have := (h67).1; have := (h67).2; have := (h_x152).1; have := (h_x152).2; omega
                                            | succ n_153 ih_153 =>
                                              intro x152 M153 R154 J155 H locs ls h_x152 hm_153 hS hl
                                              have f156 := hS.2.2.1
                                              have g157 := hS.2.2.2
                                              refine lv_iload hx hb dX12_sides_186 (lv_at hl 0 rfl) ?_
                                              refine lv_iload hx hb dX12_sides_188 (lv_at hl 1 rfl) ?_
                                              refine lv_icmp_ge (tgt := 213) hx hb dX12_sides_190 (by decide) (fun c158 => ?_) (fun c158 => ?_)
                                              · have q159 : x143.toInt ≤ x152.toInt := ti_le c158
                                                refine lv_goto (tgt := 139) hx hb dX12_sides_213 (by decide) ?_
                                                have hm160 : x143.toInt - 0 < (n_104 : Int) := by
                                                  have := (h_a1).1; have := (h_a1).2; have := (h_a2).1; have := (h_a2).2; have := (h80).1; have := (h80).2; have := (h67).1; have := (h67).2; have := (h140).1; have := (h140).2; have := (h141).1; have := (h141).2; omega
                                                exact ih_104 x143 x152 M153 R154 J155 H locs _ (iv_mono h141 (by decide) (by decide)) (iv_mono h_x152 (by decide) (by decide)) hm160 hS (lv_sub hl [1, 0, 2, 3, 4, 5] rfl)
                                              · have q161 : x152.toInt < x143.toInt := ti_nle c158
                                                have h162 : iv 0 728 x152 := iv_ltL (y := x143) h_x152 h141 q161 (by decide)
                                                have h163 : iv 1 729 x143 := iv_gtL (y := x152) h141 h_x152 q161 (by decide)
                                                refine lv_aload_n hx hb dX12_sides_193 rfl (lv_at hl 2 rfl) ?_
                                                refine tw_getr hx hb hW hown hK hS f_X12_81_11 hz_a0 hk_a0 (t := 14) (n := 6561) rfl dX12_sides_194 (fun b164 k165 hz_b164 hk_b164 hn_b164 => ?_)
                                                have hn_b164 := hn_b164 (by decide)
                                                refine lv_iload hx hb dX12_sides_197 (lv_at hl 0 rfl) ?_
                                                refine lv_aload_n hx hb dX12_sides_199 rfl (lv_at hl 2 rfl) ?_
                                                refine tw_getr hx hb hW hown hK hS f_X12_84_11 hz_a0 hk_a0 (t := 14) (n := 6561) rfl dX12_sides_200 (fun b166 k167 hz_b166 hk_b166 hn_b166 => ?_)
                                                have hn_b166 := hn_b166 (by decide)
                                                refine lv_iload hx hb dX12_sides_203 (lv_at hl 0 rfl) ?_
                                                refine tw_iald hx hb hK hS hz_b166 hk_b166 (Or.inl rfl) hn_b166 (lo := (-2147483648)) (hi := 2147483647) h162 ⟨by decide, by decide⟩ rg_u14 dX12_sides_205 (fun x170 k169 h168 => ?_)
                                                refine tw_iast hx hb hK hS hz_b164 hk_b164 (Or.inl rfl) hn_b164 h162 ⟨by decide, by decide⟩ h168 (rg_s14 ⟨by decide, by decide⟩) (jl := 0) (jh := 1999999) ⟨by decide, by decide⟩ rfl dX12_sides_206 (fun H locs M173 hS k171 f172 => ?_)
                                                refine tw_iinc (lv' := fun x176 => [(5, .int x176), (4, .int x143), (0, .ref (base + a0)), (1, .int a1), (2, .int a2), (3, .int a3)]) (lo := 1) (hi := 729) hx hb dX12_sides_207 hl (k := 0) rfl h162 (by decide) ⟨by decide, by decide⟩ ⟨by decide, by decide⟩ (by decide) (fun _ => rfl) (fun x176 ls e175 h174 hl => ?_)
                                                refine lv_goto (tgt := 186) hx hb dX12_sides_210 (by decide) ?_
                                                have hm177 : 729 - x176.toInt < (n_153 : Int) := by
                                                  have := (h_a1).1; have := (h_a1).2; have := (h_a2).1; have := (h_a2).2; have := (h80).1; have := (h80).2; have := (h67).1; have := (h67).2; have := (h162).1; have := (h162).2; have := (h174).1; have := (h174).2; omega
                                                exact ih_153 x176 M173 R154 J155 H locs _ (iv_mono h174 (by decide) (by decide)) hm177 hS hl
                                          have hm178 : 729 - (0 : Int32).toInt < (((730 : Nat) : Int) : Int) := by
                                            have := (h_a1).1; have := (h_a1).2; have := (h_a2).1; have := (h_a2).2; have := (h80).1; have := (h80).2; have := (h67).1; have := (h67).2; have : (0 : Int32).toInt = 0 := (by decide); omega
                                          exact W186_153 730 0 M145 R146 J147 H locs _ (iv_mono (iv_c (c := 0) (n := 0) (by decide)) (by decide) (by decide)) hm178 hS hl
                                        · have q179 : x144.toInt < x143.toInt := ti_nle c150
                                          have h180 : iv 0 728 x144 := iv_ltL (y := x143) h_x144 h141 q179 (by decide)
                                          have h181 : iv 1 729 x143 := iv_gtL (y := x144) h141 h_x144 q179 (by decide)
                                          refine lv_aload_n hx hb dX12_sides_163 rfl (lv_at hl 2 rfl) ?_
                                          refine tw_getr hx hb hW hown hK hS f_X12_84_11 hz_a0 hk_a0 (t := 14) (n := 6561) rfl dX12_sides_164 (fun b182 k183 hz_b182 hk_b182 hn_b182 => ?_)
                                          have hn_b182 := hn_b182 (by decide)
                                          refine lv_iload hx hb dX12_sides_167 (lv_at hl 0 rfl) ?_
                                          refine lv_aload_n hx hb dX12_sides_169 rfl (lv_at hl 2 rfl) ?_
                                          refine lv_iload hx hb dX12_sides_170 (lv_at hl 0 rfl) ?_
                                          refine lv_iconst (v := 0) hx hb dX12_sides_172 (by decide) ?_
                                          refine tw_goi hS (md_runV (As := [.int x144, .int 0]) (rest := [.int x144, .ref (base + b182)]) hx hb hml hown hW hK hT hS.1 (t_X12_best l D cy tx base Z K N M145 R146 J147 hS.2.1 a0 hz_a0 hk_a0 x144 h180 0 (iv_mono (iv_c (c := 0) (n := 0) (by decide)) (by decide) (by decide))) s_X12_466 ⟨rfl, rfl, ⟨Nat.le_of_ble_eq_true rfl, Nat.le_of_ble_eq_true rfl⟩, ⟨Nat.le_of_ble_eq_true rfl, Nat.le_of_ble_eq_true rfl⟩⟩ hz_a0 hk_a0 (by decide) rfl rfl hl.1 rfl (Nat.le_of_ble_eq_true rfl) dX12_sides_173) rfl rfl (fun x190 H locs M187 R188 J186 hS f184 g185 E189 => ?_)
                                          have eM187 := Fr.nil f184 rfl
                                          subst eM187
                                          have eR188 := Fr.nil g185 rfl
                                          subst eR188
                                          have h_x190 := E189
                                          clear E189
                                          refine tw_iast hx hb hK hS hz_b182 hk_b182 (Or.inl rfl) hn_b182 h180 ⟨by decide, by decide⟩ h_x190 (rg_s14 ⟨by decide, by decide⟩) (jl := 0) (jh := 1999999) ⟨by decide, by decide⟩ rfl dX12_sides_176 (fun H locs M193 hS k191 f192 => ?_)
                                          refine tw_iinc (lv' := fun x196 => [(5, .int x196), (4, .int x143), (0, .ref (base + a0)), (1, .int a1), (2, .int a2), (3, .int a3)]) (lo := 1) (hi := 729) hx hb dX12_sides_177 hl (k := 0) rfl h180 (by decide) ⟨by decide, by decide⟩ ⟨by decide, by decide⟩ (by decide) (fun _ => rfl) (fun x196 ls e195 h194 hl => ?_)
                                          refine lv_goto (tgt := 156) hx hb dX12_sides_180 (by decide) ?_
                                          have hm197 : 729 - x196.toInt < (n_145 : Int) := by
                                            have := (h_a1).1; have := (h_a1).2; have := (h_a2).1; have := (h_a2).2; have := (h80).1; have := (h80).2; have := (h67).1; have := (h67).2; have := (h180).1; have := (h180).2; have := (h194).1; have := (h194).2; omega
                                          exact ih_145 x196 M193 R146 J186 H locs _ (iv_mono h194 (by decide) (by decide)) hm197 hS hl
                                    have hm198 : 729 - (0 : Int32).toInt < (((730 : Nat) : Int) : Int) := by
                                      have := (h_a1).1; have := (h_a1).2; have := (h_a2).1; have := (h_a2).2; have := (h80).1; have := (h80).2; have := (h67).1; have := (h67).2; have : (0 : Int32).toInt = 0 := (by decide); omega
                                    exact W156_145 730 0 M104 R105 J106 H locs _ (iv_mono (iv_c (c := 0) (n := 0) (by decide)) (by decide) (by decide)) hm198 hS hl
                              have hm199 : x81.toInt - 0 < (((6562 : Nat) : Int) : Int) := by
                                have := (h_a1).1; have := (h_a1).2; have := (h_a2).1; have := (h_a2).2; have := (h80).1; have := (h80).2; have := (h67).1; have := (h67).2; have := (h_x81).1; have := (h_x81).2; have := (h92).1; have := (h92).2; omega
                              exact W139_104 6562 x81 x93 M94 R95 J96 H locs _ (iv_mono h_x81 (by decide) (by decide)) (iv_mono h101 (by decide) (by decide)) hm199 hS (lv_sub hl [1, 0, 2, 3, 4, 5] rfl)
                            · have q200 : x93.toInt < x81.toInt := ti_nle c99
                              have h201 : iv 0 6560 x93 := iv_ltL (y := x81) h_x93 h_x81 q200 (by decide)
                              refine lv_aload_n hx hb dX12_sides_116 rfl (lv_at hl 2 rfl) ?_
                              refine tw_getr hx hb hW hown hK hS f_X12_81_11 hz_a0 hk_a0 (t := 14) (n := 6561) rfl dX12_sides_117 (fun b202 k203 hz_b202 hk_b202 hn_b202 => ?_)
                              have hn_b202 := hn_b202 (by decide)
                              refine lv_iload hx hb dX12_sides_120 (lv_at hl 0 rfl) ?_
                              refine lv_aload_n hx hb dX12_sides_122 rfl (lv_at hl 2 rfl) ?_
                              refine lv_iload_n hx hb dX12_sides_123 rfl (lv_at hl 3 rfl) ?_
                              refine lv_iload_n hx hb dX12_sides_124 rfl (lv_at hl 4 rfl) ?_
                              refine lv_iload hx hb dX12_sides_125 (lv_at hl 0 rfl) ?_
                              refine lv_iload hx hb dX12_sides_127 (lv_at hl 1 rfl) ?_
                              have k204 : R95 a0 25 = some sd := (Fr.kp (k := 25) g98 hk_a0 rfl).trans k_sd
                              have k205 : M94 sd (4 : Int32).toNatClampNeg = e4 := (Fr.kp (k := (4 : Int32).toNatClampNeg) f97 hk_sd rfl).trans k_e4
                              have q206 : (e4.toInt = 0 ∧ x81.toInt = 1) ∨ (e4.toInt = 1 ∧ x81.toInt = 9) ∨ (e4.toInt = 2 ∧ x81.toInt = 81) ∨ (e4.toInt = 3 ∧ x81.toInt = 729) ∨ (e4.toInt = 4 ∧ x81.toInt = 6561) := by
                                have := (h_a1).1; have := (h_a1).2; have := (h_a2).1; have := (h_a2).2; have := (h80).1; have := (h80).2; have := (h67).1; have := (h67).2; have := (h_x81).1; have := (h_x81).2; have := (h92).1; have := (h92).2; omega
                              refine tw_goi hS (md_runV (As := [.int a1, .int a2, .int x93, .int x81]) (rest := [.int x93, .ref (base + b202)]) hx hb hml hown hW hK hT hS.1 (t_X12_goes l D cy tx base Z K N M94 R95 J96 hS.2.1 a0 hz_a0 hk_a0 a1 h_a1 a2 h_a2 x93 (iv_mono h201 (by decide) (by decide)) x81 h_x81 (Codes.fr co_a0 hTy hz_a0 hk_a0 hS.2.2.1 hS.2.2.2 rfl) sd k204 e4 k205 (iv_mono h67 (by decide) (by decide)) q206) s_X12_462 ⟨rfl, rfl, ⟨Nat.le_of_ble_eq_true rfl, Nat.le_of_ble_eq_true rfl⟩, ⟨Nat.le_of_ble_eq_true rfl, Nat.le_of_ble_eq_true rfl⟩⟩ hz_a0 hk_a0 (by decide) rfl rfl hl.1 rfl (Nat.le_of_ble_eq_true rfl) dX12_sides_129) rfl rfl (fun x213 H locs M210 R211 J209 hS f207 g208 E212 => ?_)
                              have eR211 := Fr.nil g208 rfl
                              subst eR211
                              have h_x213 := E212
                              clear E212
                              refine tw_iast hx hb hK hS hz_b202 hk_b202 (Or.inl rfl) hn_b202 h201 ⟨by decide, by decide⟩ h_x213 (rg_s14 ⟨by decide, by decide⟩) (jl := 0) (jh := 1999999) ⟨by decide, by decide⟩ rfl dX12_sides_132 (fun H locs M216 hS k214 f215 => ?_)
                              refine tw_iinc (lv' := fun x219 => [(5, .int x219), (4, .int x81), (0, .ref (base + a0)), (1, .int a1), (2, .int a2), (3, .int a3)]) (lo := 1) (hi := 6561) hx hb dX12_sides_133 hl (k := 0) rfl h201 (by decide) ⟨by decide, by decide⟩ ⟨by decide, by decide⟩ (by decide) (fun _ => rfl) (fun x219 ls e218 h217 hl => ?_)
                              refine lv_goto (tgt := 109) hx hb dX12_sides_136 (by decide) ?_
                              have hm220 : 6561 - x219.toInt < (n_94 : Int) := by
                                have := (h_a1).1; have := (h_a1).2; have := (h_a2).1; have := (h_a2).2; have := (h80).1; have := (h80).2; have := (h67).1; have := (h67).2; have := (h217).1; have := (h217).2; have := (h201).1; have := (h201).2; omega
                              exact ih_94 x219 M216 R95 J209 H locs _ (iv_mono h217 (by decide) (by decide)) hm220 hS hl
                        have hm221 : 6561 - (0 : Int32).toInt < (((6562 : Nat) : Int) : Int) := by
                          have := (h_a1).1; have := (h_a1).2; have := (h_a2).1; have := (h_a2).2; have := (h80).1; have := (h80).2; have := (h67).1; have := (h67).2; have : (0 : Int32).toInt = 0 := (by decide); omega
                        exact W109_94 6562 0 M83 R84 J85 H locs _ (iv_mono (iv_c (c := 0) (n := 0) (by decide)) (by decide) (by decide)) hm221 hS hl
                      · have q222 : x82.toInt < e4.toInt := ti_nle c90
                        have h223 : iv 0 3 x82 := iv_ltL (y := e4) h_x82 h67 q222 (by decide)
                        refine lv_iload hx hb dX12_sides_93 (lv_at hl 0 rfl) ?_
                        refine lv_bipush (v := 9) hx hb dX12_sides_95 (by decide) ?_
                        refine tw_imulc (k := 9) (lo := 9) (hi := 59049) hx hb h_x81 (by decide) (by decide) ⟨by decide, by decide⟩ ⟨by decide, by decide⟩ dX12_sides_97 (fun x226 e225 h224 => ?_)
                        refine lv_istore (lv' := [(4, .int x226), (5, .int x82), (0, .ref (base + a0)), (1, .int a1), (2, .int a2), (3, .int a3)]) hx hb dX12_sides_98 hl (by decide) rfl (fun ls hl => ?_)
                        refine tw_iinc (lv' := fun x229 => [(5, .int x229), (4, .int x226), (0, .ref (base + a0)), (1, .int a1), (2, .int a2), (3, .int a3)]) (lo := 1) (hi := 4) hx hb dX12_sides_100 hl (k := 1) rfl h223 (by decide) ⟨by decide, by decide⟩ ⟨by decide, by decide⟩ (by decide) (fun _ => rfl) (fun x229 ls e228 h227 hl => ?_)
                        refine lv_goto (tgt := 82) hx hb dX12_sides_103 (by decide) ?_
                        have h230 : iv 1 6561 x226 := by
                          have := (h_a1).1; have := (h_a1).2; have := (h_a2).1; have := (h_a2).2; have := (h80).1; have := (h80).2; have := (h67).1; have := (h67).2; have := (h224).1; have := (h224).2; have := (h227).1; have := (h227).2; have := (h_x81).1; have := (h_x81).2; have := (h223).1; have := (h223).2; exact ⟨by omega, by omega⟩
                        have w231 : x229.toInt ≤ e4.toInt := by
                          have := (h_a1).1; have := (h_a1).2; have := (h_a2).1; have := (h_a2).2; have := (h80).1; have := (h80).2; have := (h67).1; have := (h67).2; have := (h224).1; have := (h224).2; have := (h227).1; have := (h227).2; have := (h_x81).1; have := (h_x81).2; have := (h223).1; have := (h223).2; omega
                        have w232 : (x229.toInt = 0 ∧ x226.toInt = 1) ∨ (x229.toInt = 1 ∧ x226.toInt = 9) ∨ (x229.toInt = 2 ∧ x226.toInt = 81) ∨ (x229.toInt = 3 ∧ x226.toInt = 729) ∨ (x229.toInt = 4 ∧ x226.toInt = 6561) := by
                          have := (h_a1).1; have := (h_a1).2; have := (h_a2).1; have := (h_a2).2; have := (h80).1; have := (h80).2; have := (h67).1; have := (h67).2; have := (h224).1; have := (h224).2; have := (h227).1; have := (h227).2; have := (h_x81).1; have := (h_x81).2; have := (h223).1; have := (h223).2; omega
                        have hm233 : 4 - x229.toInt < (n_83 : Int) := by
                          have := (h_a1).1; have := (h_a1).2; have := (h_a2).1; have := (h_a2).2; have := (h80).1; have := (h80).2; have := (h67).1; have := (h67).2; have := (h224).1; have := (h224).2; have := (h227).1; have := (h227).2; have := (h_x81).1; have := (h_x81).2; have := (h223).1; have := (h223).2; omega
                        exact ih_83 x226 x229 M83 R84 J85 H locs _ h230 (iv_mono h227 (by decide) (by decide)) w231 w232 hm233 hS (lv_sub hl [1, 0, 2, 3, 4, 5] rfl)
                  have w234 : (0 : Int32).toInt ≤ e4.toInt := by
                    have := (h_a1).1; have := (h_a1).2; have := (h_a2).1; have := (h_a2).2; have := (h80).1; have := (h80).2; have := (h67).1; have := (h67).2; have : (0 : Int32).toInt = 0 := (by decide); omega
                  have w235 : ((0 : Int32).toInt = 0 ∧ (1 : Int32).toInt = 1) ∨ ((0 : Int32).toInt = 1 ∧ (1 : Int32).toInt = 9) ∨ ((0 : Int32).toInt = 2 ∧ (1 : Int32).toInt = 81) ∨ ((0 : Int32).toInt = 3 ∧ (1 : Int32).toInt = 729) ∨ ((0 : Int32).toInt = 4 ∧ (1 : Int32).toInt = 6561) := by
                    have := (h_a1).1; have := (h_a1).2; have := (h_a2).1; have := (h_a2).2; have := (h80).1; have := (h80).2; have := (h67).1; have := (h67).2; have : (0 : Int32).toInt = 0 := (by decide); have : (1 : Int32).toInt = 1 := (by decide); omega
                  have hm236 : 4 - (0 : Int32).toInt < (((5 : Nat) : Int) : Int) := by
                    have := (h_a1).1; have := (h_a1).2; have := (h_a2).1; have := (h_a2).2; have := (h80).1; have := (h80).2; have := (h67).1; have := (h67).2; have : (0 : Int32).toInt = 0 := (by decide); omega
                  exact W82_83 5 1 0 Ma Ra J70 H locs _ (iv_mono (iv_c (c := 1) (n := 1) (by decide)) (by decide) (by decide)) (iv_mono (iv_c (c := 0) (n := 0) (by decide)) (by decide) (by decide)) w234 w235 hm236 hS (lv_sub hl [1, 0, 2, 3, 4, 5] rfl)
                · have q237 : x74.toInt = 0 := ti_eq c77
                  have q238 := p75.2 c77
                  have q238 : a3.toInt < 0 ∨ 1 < a3.toInt := by rw [Int32.toInt_toInt64] at q238; exact q238
                  have h239 : iv 0 0 x74 := ⟨by have := (h_x74).1; have := ((iv_c (c := 0) (n := 0) (by decide))).1; omega, by have := (h_x74).2; have := ((iv_c (c := 0) (n := 0) (by decide))).2; omega⟩
                  refine lv_ldcw hx hb hown (hW _ w_8_46 rfl) dX12_sides_72 ?_
                  exact tw_endi hx hb hr hlocks hK hT hS hQ ((iv_mono (iv_c (c := (-1000000)) (n := (-1000000)) (by decide)) (by decide) (by decide))) dX12_sides_75
