def Lt_X12_holds : WL := [(12, 28, 29), (12, 31, 33), (14, 0, 2000000), (30, 0, 2000000)]
def LRt_X12_holds : WL := []
set_option maxRecDepth 100000 in
set_option maxHeartbeats 4000000 in
theorem t_X12_holds (l : Launch) (D : va_G) (cy : Nat → ClassId) (tx : (Nat → Nat) × (Nat → Nat)) (base Z : Nat) (K N : Nat → Nat) (Ma : MT) (Ra : RT) (Ja : JT) (hTy : Ty Z K N Ma Ra) (a0 : Nat) (hz_a0 : a0 < Z) (hk_a0 : K a0 = 12) (a1 : Int32) (h_a1 : iv 0 2147483647 a1) (a2 : Int32) (h_a2 : iv 1 6 a2) : Met l yX12_holds [Cond.code yX12_holds cX12_holds 6 (some .boolean)] (md_rm 5 0 0) (va_Pc [.ref (base + a0), .int a1, .int a2] (md_U D cy tx base Z K N Ma Ra Ja)) (mQi D cy tx base (fun r u => TP Z K N Lt_X12_holds LRt_X12_holds Ma Ra u ∧ (iv 0 1 r))) 0 0 (fun q => base ≤ q) := by
  refine tw_ofW (L := Lt_X12_holds) (LR := LRt_X12_holds) (by decide) (Nat.le_of_ble_eq_true rfl) hTy ?_
  intro p e s m args below meth c Q ls hx hb hr hlocks hown hml hW hK hT hS hQ hl
  have hl : lv_has ls 6 [(0, .ref (base + a0)), (1, .int a1), (2, .int a2)] := hl
  refine lv_iload_n hx hb dX12_holds_0 rfl (lv_at hl 1 rfl) ?_
  refine lv_istore_n (lv' := [(3, .int a1), (0, .ref (base + a0)), (1, .int a1), (2, .int a2)]) hx hb dX12_holds_1 rfl hl (by decide) rfl (fun ls hl => ?_)
  refine lv_iconst (v := 0) hx hb dX12_holds_2 (by decide) ?_
  refine lv_istore (lv' := [(4, .int 0), (3, .int a1), (0, .ref (base + a0)), (1, .int a1), (2, .int a2)]) hx hb dX12_holds_3 hl (by decide) rfl (fun ls hl => ?_)
  have W5_3 : ∀ (n_3 : Nat) (x1 : Int32) (x2 : Int32) (M3 : MT) (R4 : RT) (J5 : JT) (H : Heap) (locs : List Loc) (ls : Array Slot) (h_x1 : iv 0 2147483647 x1) (h_x2 : iv 0 10 x2) (hm_3 : 10 - x2.toInt < (n_3 : Int)) (hS : SB D cy base Z K N Lt_X12_holds LRt_X12_holds Ma Ra M3 R4 J5 s H locs) (hl : lv_has ls 6 [(3, .int x1), (4, .int x2), (0, .ref (base + a0)), (1, .int a1), (2, .int a2)]), W p l e (md_rm 5 0 0) s m args below meth c H locs 0 0 Q (F0 m 5 ls []) := by
    intro n_3
    induction n_3 with
    | zero =>
      intro x1 x2 M3 R4 J5 H locs ls h_x1 h_x2 hm_3 hS hl
      exfalso
      have := (h_a1).1; have := (h_a1).2; have := (h_a2).1; have := (h_a2).2; have := (h_x2).1; have := (h_x2).2; omega
    | succ n_3 ih_3 =>
      intro x1 x2 M3 R4 J5 H locs ls h_x1 h_x2 hm_3 hS hl
      have f6 := hS.2.2.1
      have g7 := hS.2.2.2
      refine lv_iload hx hb dX12_holds_5 (lv_at hl 1 rfl) ?_
      refine lv_aload_n hx hb dX12_holds_7 rfl (lv_at hl 2 rfl) ?_
      refine tw_getr hx hb hW hown hK hS f_X12_45_11 hz_a0 hk_a0 (t := 23) (n := 226) rfl dX12_holds_8 (fun b8 k9 hz_b8 hk_b8 hn_b8 => ?_)
      have hn_b8 := hn_b8 (by decide)
      refine lv_iconst (v := 0) hx hb dX12_holds_11 (by decide) ?_
      refine tw_iald hx hb hK hS hz_b8 hk_b8 (Or.inr (by decide)) hn_b8 (lo := 0) (hi := 10) (iv_c (c := 0) (n := 0) (by decide)) ⟨by decide, by decide⟩ (rg_c (k0 := 0) rfl rfl rfl) dX12_holds_12 (fun x12 k11 h10 => ?_)
      refine lv_icmp_ge (tgt := 52) hx hb dX12_holds_13 (by decide) (fun c13 => ?_) (fun c13 => ?_)
      · have q14 : x12.toInt ≤ x2.toInt := ti_le c13
        refine lv_iconst (v := 0) hx hb dX12_holds_52 (by decide) ?_
        refine lv_istore (lv' := [(4, .int 0), (3, .int x1), (0, .ref (base + a0)), (1, .int a1), (2, .int a2)]) hx hb dX12_holds_53 hl (by decide) rfl (fun ls hl => ?_)
        have W55_16 : ∀ (n_16 : Nat) (x15 : Int32) (M16 : MT) (R17 : RT) (J18 : JT) (H : Heap) (locs : List Loc) (ls : Array Slot) (h_x15 : iv 0 12 x15) (hm_16 : 12 - x15.toInt < (n_16 : Int)) (hS : SB D cy base Z K N Lt_X12_holds LRt_X12_holds Ma Ra M16 R17 J18 s H locs) (hl : lv_has ls 6 [(4, .int x15), (3, .int x1), (0, .ref (base + a0)), (1, .int a1), (2, .int a2)]), W p l e (md_rm 5 0 0) s m args below meth c H locs 0 0 Q (F0 m 55 ls []) := by
          intro n_16
          induction n_16 with
          | zero =>
            intro x15 M16 R17 J18 H locs ls h_x15 hm_16 hS hl
            exfalso
            have := (h_a1).1; have := (h_a1).2; have := (h_a2).1; have := (h_a2).2; have := (h_x15).1; have := (h_x15).2; omega
          | succ n_16 ih_16 =>
            intro x15 M16 R17 J18 H locs ls h_x15 hm_16 hS hl
            have f19 := hS.2.2.1
            have g20 := hS.2.2.2
            refine lv_iload hx hb dX12_holds_55 (lv_at hl 0 rfl) ?_
            refine lv_aload_n hx hb dX12_holds_57 rfl (lv_at hl 2 rfl) ?_
            refine tw_getr hx hb hW hown hK hS f_X12_45_11 hz_a0 hk_a0 (t := 23) (n := 226) rfl dX12_holds_58 (fun b21 k22 hz_b21 hk_b21 hn_b21 => ?_)
            have hn_b21 := hn_b21 (by decide)
            refine lv_iconst (v := 5) hx hb dX12_holds_61 (by decide) ?_
            refine tw_iald hx hb hK hS hz_b21 hk_b21 (Or.inr (by decide)) hn_b21 (lo := 0) (hi := 12) (iv_c (c := 5) (n := 5) (by decide)) ⟨by decide, by decide⟩ (rg_c (k0 := 5) rfl rfl rfl) dX12_holds_62 (fun x25 k24 h23 => ?_)
            refine lv_icmp_ge (tgt := 153) hx hb dX12_holds_63 (by decide) (fun c26 => ?_) (fun c26 => ?_)
            · have q27 : x25.toInt ≤ x15.toInt := ti_le c26
              refine lv_iconst (v := 1) hx hb dX12_holds_153 (by decide) ?_
              exact tw_endz hx hb hr hlocks hK hT hS hQ rfl ((iv_mono (iv_c (c := 1) (n := 1) (by decide)) (by decide) (by decide))) dX12_holds_154
            · have q28 : x15.toInt < x25.toInt := ti_nle c26
              have h29 : iv 0 11 x15 := iv_ltL (y := x25) h_x15 h23 q28 (by decide)
              have h30 : iv 1 12 x25 := iv_gtL (y := x15) h23 h_x15 q28 (by decide)
              refine lv_sipush (v := 178) hx hb dX12_holds_66 (by decide) ?_
              refine lv_iconst (v := 4) hx hb dX12_holds_69 (by decide) ?_
              refine lv_iload hx hb dX12_holds_70 (lv_at hl 0 rfl) ?_
              refine tw_icmul (k := 4) (lo := 0) (hi := 44) hx hb (by decide) h29 (by decide) ⟨by decide, by decide⟩ ⟨by decide, by decide⟩ dX12_holds_72 (fun x33 e32 h31 => ?_)
              refine tw_iadd (lo := 178) (hi := 222) hx hb (iv_c (c := 178) (n := 178) (by decide)) h31 ⟨by decide, by decide⟩ ⟨by decide, by decide⟩ dX12_holds_73 (fun x36 e35 h34 => ?_)
              have e35 : x36.toInt = 178 + x33.toInt := e35
              refine lv_istore (lv' := [(5, .int x36), (4, .int x15), (3, .int x1), (0, .ref (base + a0)), (1, .int a1), (2, .int a2)]) hx hb dX12_holds_74 hl (by decide) rfl (fun ls hl => ?_)
              refine lv_aload_n hx hb dX12_holds_76 rfl (lv_at hl 3 rfl) ?_
              refine lv_aload_n hx hb dX12_holds_77 rfl (lv_at hl 3 rfl) ?_
              refine tw_getrk hx hb hW hown hK hS f_X12_45_11 hz_a0 hk_a0 (b := b21) k22 dX12_holds_78 ?_
              refine lv_iload hx hb dX12_holds_81 (lv_at hl 0 rfl) ?_
              refine tw_iald hx hb hK hS hz_b21 hk_b21 (Or.inr (by decide)) hn_b21 (lo := (-2147483648)) (hi := 2147483647) h34 ⟨by decide, by decide⟩ rg_full dX12_holds_83 (fun x39 k38 h37 => ?_)
              refine tw_puti hx hb hW hown hK hS f_X12_364_11 hz_a0 hk_a0 rfl rfl (lo := (-2147483648)) (hi := 2147483647) rfl h37 rfl dX12_holds_84 (fun H locs M42 hS k40 f41 => ?_)
              refine lv_aload_n hx hb dX12_holds_87 rfl (lv_at hl 3 rfl) ?_
              refine lv_aload_n hx hb dX12_holds_88 rfl (lv_at hl 3 rfl) ?_
              refine tw_getrk hx hb hW hown hK hS f_X12_45_11 hz_a0 hk_a0 (b := b21) k22 dX12_holds_89 ?_
              refine lv_iload hx hb dX12_holds_92 (lv_at hl 0 rfl) ?_
              refine lv_iconst (v := 1) hx hb dX12_holds_94 (by decide) ?_
              refine tw_iadd (lo := 179) (hi := 223) hx hb h34 (iv_c (c := 1) (n := 1) (by decide)) ⟨by decide, by decide⟩ ⟨by decide, by decide⟩ dX12_holds_95 (fun x45 e44 h43 => ?_)
              have e44 : x45.toInt = x36.toInt + 1 := e44
              refine tw_iald hx hb hK hS hz_b21 hk_b21 (Or.inr (by decide)) hn_b21 (lo := (-2147483648)) (hi := 2147483647) h43 ⟨by decide, by decide⟩ rg_full dX12_holds_96 (fun x48 k47 h46 => ?_)
              refine tw_puti hx hb hW hown hK hS f_X12_367_11 hz_a0 hk_a0 rfl rfl (lo := (-2147483648)) (hi := 2147483647) rfl h46 rfl dX12_holds_97 (fun H locs M51 hS k49 f50 => ?_)
              refine lv_aload_n hx hb dX12_holds_100 rfl (lv_at hl 3 rfl) ?_
              refine lv_aload_n hx hb dX12_holds_101 rfl (lv_at hl 3 rfl) ?_
              have k52 : M51 a0 31 = x39 := (Fr.kp (k := 31) f50 hk_a0 rfl).trans k40
              refine tw_getk hx hb hW hown hK hS f_X12_364_11 hz_a0 hk_a0 (v := x39) k52 dX12_holds_102 ?_
              obtain ⟨x55, k53⟩ : ∃ x, M51 b21 (0 : Int32).toNatClampNeg = x := ⟨_, rfl⟩
              have h54 : iv 0 10 x55 := by rw [← k53]; exact hS.2.1.int hz_b21 hk_b21 (show rgI 23 (0 : Int32).toNatClampNeg = (0, 10) from rfl)
              refine tw_goi hS (md_runV (As := [.int x39]) (rest := []) hx hb hml hown hW hK hT hS.1 (t_X12_voicesOf l D cy tx base Z K N M51 R17 J18 hS.2.1 a0 hz_a0 hk_a0 x39 h37 b21 k22 x55 k53 (iv_mono h54 (by decide) (by decide))) s_X12_380 ⟨rfl, rfl, ⟨Nat.le_of_ble_eq_true rfl, Nat.le_of_ble_eq_true rfl⟩, ⟨Nat.le_of_ble_eq_true rfl, Nat.le_of_ble_eq_true rfl⟩⟩ hz_a0 hk_a0 (by decide) rfl rfl hl.1 rfl (Nat.le_of_ble_eq_true rfl) dX12_holds_105) rfl rfl (fun x62 H locs M58 R59 J60 hS f56 g57 E61 => ?_)
              obtain ⟨h_x62, p63⟩ := E61
              refine lv_aload_n hx hb dX12_holds_108 rfl (lv_at hl 3 rfl) ?_
              have k64 : R59 a0 25 = some b21 := (Fr.kp (k := 25) g57 hk_a0 rfl).trans k22
              refine tw_getrk hx hb hW hown hK hS f_X12_45_11 hz_a0 hk_a0 (b := b21) k64 dX12_holds_109 ?_
              refine lv_iload hx hb dX12_holds_112 (lv_at hl 0 rfl) ?_
              refine lv_iconst (v := 2) hx hb dX12_holds_114 (by decide) ?_
              refine tw_iadd (lo := 180) (hi := 224) hx hb h34 (iv_c (c := 2) (n := 2) (by decide)) ⟨by decide, by decide⟩ ⟨by decide, by decide⟩ dX12_holds_115 (fun x67 e66 h65 => ?_)
              have e66 : x67.toInt = x36.toInt + 2 := e66
              refine tw_iald hx hb hK hS hz_b21 hk_b21 (Or.inr (by decide)) hn_b21 (lo := (-2147483648)) (hi := 2147483647) h65 ⟨by decide, by decide⟩ rg_full dX12_holds_116 (fun x70 k69 h68 => ?_)
              refine lv_icmp_ne (tgt := 140) hx hb dX12_holds_117 (by decide) (fun c71 => ?_) (fun c71 => ?_)
              · have q72 : ¬ x62.toInt = x70.toInt := ti_ne c71
                refine lv_iconst (v := 0) hx hb dX12_holds_140 (by decide) ?_
                exact tw_endz hx hb hr hlocks hK hT hS hQ rfl ((iv_mono (iv_c (c := 0) (n := 0) (by decide)) (by decide) (by decide))) dX12_holds_141
              · have q73 : x62.toInt = x70.toInt := ti_eq c71
                have h74 : iv 0 99990 x70 := ⟨by have := (h_x62).1; have := (h68).1; omega, by have := (h_x62).2; have := (h68).2; omega⟩
                refine lv_aload_n hx hb dX12_holds_120 rfl (lv_at hl 3 rfl) ?_
                refine lv_aload_n hx hb dX12_holds_121 rfl (lv_at hl 3 rfl) ?_
                have k75 : M58 a0 32 = x48 := (Fr.kp (k := 32) f56 hk_a0 rfl).trans k49
                refine tw_getk hx hb hW hown hK hS f_X12_367_11 hz_a0 hk_a0 (v := x48) k75 dX12_holds_122 ?_
                have k76 : M58 b21 (0 : Int32).toNatClampNeg = x55 := (Fr.kp (k := (0 : Int32).toNatClampNeg) f56 hk_b21 rfl).trans k53
                refine tw_goi hS (md_runV (As := [.int x48]) (rest := []) hx hb hml hown hW hK hT hS.1 (t_X12_voicesOf l D cy tx base Z K N M58 R59 J60 hS.2.1 a0 hz_a0 hk_a0 x48 h46 b21 k64 x55 k76 (iv_mono h54 (by decide) (by decide))) s_X12_380 ⟨rfl, rfl, ⟨Nat.le_of_ble_eq_true rfl, Nat.le_of_ble_eq_true rfl⟩, ⟨Nat.le_of_ble_eq_true rfl, Nat.le_of_ble_eq_true rfl⟩⟩ hz_a0 hk_a0 (by decide) rfl rfl hl.1 rfl (Nat.le_of_ble_eq_true rfl) dX12_holds_125) rfl rfl (fun x83 H locs M79 R80 J81 hS f77 g78 E82 => ?_)
                obtain ⟨h_x83, p84⟩ := E82
                refine lv_aload_n hx hb dX12_holds_128 rfl (lv_at hl 3 rfl) ?_
                have k85 : R80 a0 25 = some b21 := (Fr.kp (k := 25) g78 hk_a0 rfl).trans k64
                refine tw_getrk hx hb hW hown hK hS f_X12_45_11 hz_a0 hk_a0 (b := b21) k85 dX12_holds_129 ?_
                refine lv_iload hx hb dX12_holds_132 (lv_at hl 0 rfl) ?_
                refine lv_iconst (v := 3) hx hb dX12_holds_134 (by decide) ?_
                refine tw_iadd (lo := 181) (hi := 225) hx hb h34 (iv_c (c := 3) (n := 3) (by decide)) ⟨by decide, by decide⟩ ⟨by decide, by decide⟩ dX12_holds_135 (fun x88 e87 h86 => ?_)
                have e87 : x88.toInt = x36.toInt + 3 := e87
                refine tw_iald hx hb hK hS hz_b21 hk_b21 (Or.inr (by decide)) hn_b21 (lo := (-2147483648)) (hi := 2147483647) h86 ⟨by decide, by decide⟩ rg_full dX12_holds_136 (fun x91 k90 h89 => ?_)
                refine lv_icmp_eq (tgt := 142) hx hb dX12_holds_137 (by decide) (fun c92 => ?_) (fun c92 => ?_)
                · have q93 : x83.toInt = x91.toInt := ti_eq c92
                  have h94 : iv 0 99990 x91 := ⟨by have := (h_x83).1; have := (h89).1; omega, by have := (h_x83).2; have := (h89).2; omega⟩
                  refine lv_aload_n hx hb dX12_holds_142 rfl (lv_at hl 3 rfl) ?_
                  refine tw_goi hS (md_runV (As := []) (rest := []) hx hb hml hown hW hK hT hS.1 (t_X12_settles_ l D cy tx base Z K N M79 R80 J81 hS.2.1 a0 hz_a0 hk_a0) s_X12_399 ⟨rfl, rfl, ⟨Nat.le_of_ble_eq_true rfl, Nat.le_of_ble_eq_true rfl⟩, ⟨Nat.le_of_ble_eq_true rfl, Nat.le_of_ble_eq_true rfl⟩⟩ hz_a0 hk_a0 (by decide) rfl rfl hl.1 rfl (Nat.le_of_ble_eq_true rfl) dX12_holds_143) rfl rfl (fun x101 H locs M97 R98 J99 hS f95 g96 E100 => ?_)
                  have h_x101 := E100
                  refine lv_pop hx hb dX12_holds_146 rfl ?_
                  refine tw_iinc (lv' := fun x104 => [(4, .int x104), (5, .int x36), (3, .int x1), (0, .ref (base + a0)), (1, .int a1), (2, .int a2)]) (lo := 1) (hi := 12) hx hb dX12_holds_147 hl (k := 1) rfl h29 (by decide) ⟨by decide, by decide⟩ ⟨by decide, by decide⟩ (by decide) (fun _ => rfl) (fun x104 ls e103 h102 hl => ?_)
                  refine lv_goto (tgt := 55) hx hb dX12_holds_150 (by decide) ?_
                  have hm105 : 12 - x104.toInt < (n_16 : Int) := by
                    have := (h_a1).1; have := (h_a1).2; have := (h_a2).1; have := (h_a2).2; have := (h102).1; have := (h102).2; have := (h29).1; have := (h29).2; have := (h31).1; have := (h31).2; omega
                  exact ih_16 x104 M97 R98 J99 H locs _ (iv_mono h102 (by decide) (by decide)) hm105 hS (lv_sub hl [0, 2, 3, 4, 5] rfl)
                · have q106 : ¬ x83.toInt = x91.toInt := ti_ne c92
                  refine lv_iconst (v := 0) hx hb dX12_holds_140 (by decide) ?_
                  exact tw_endz hx hb hr hlocks hK hT hS hQ rfl ((iv_mono (iv_c (c := 0) (n := 0) (by decide)) (by decide) (by decide))) dX12_holds_141
        have hm107 : 12 - (0 : Int32).toInt < (((13 : Nat) : Int) : Int) := by
          have := (h_a1).1; have := (h_a1).2; have := (h_a2).1; have := (h_a2).2; have : (0 : Int32).toInt = 0 := (by decide); omega
        exact W55_16 13 0 M3 R4 J5 H locs _ (iv_mono (iv_c (c := 0) (n := 0) (by decide)) (by decide) (by decide)) hm107 hS hl
      · have q108 : x2.toInt < x12.toInt := ti_nle c13
        have h109 : iv 0 9 x2 := iv_ltL (y := x12) h_x2 h10 q108 (by decide)
        have h110 : iv 1 10 x12 := iv_gtL (y := x2) h10 h_x2 q108 (by decide)
        refine lv_aload_n hx hb dX12_holds_16 rfl (lv_at hl 2 rfl) ?_
        refine tw_getr hx hb hW hown hK hS f_X12_102_11 hz_a0 hk_a0 (t := 14) (n := 10) rfl dX12_holds_17 (fun b111 k112 hz_b111 hk_b111 hn_b111 => ?_)
        have hn_b111 := hn_b111 (by decide)
        refine lv_iload hx hb dX12_holds_20 (lv_at hl 1 rfl) ?_
        refine lv_iconst (v := 1) hx hb dX12_holds_22 (by decide) ?_
        refine lv_iload_n hx hb dX12_holds_23 rfl (lv_at hl 0 rfl) ?_
        refine lv_iload_n hx hb dX12_holds_24 rfl (lv_at hl 4 rfl) ?_
        refine tw_irem (lo := 0) (hi := 5) hx hb h_x1 h_a2 ⟨by decide, by decide⟩ ⟨by decide, by decide⟩ dX12_holds_25 (fun x115 e114 h113 => ?_)
        refine tw_iadd (lo := 1) (hi := 6) hx hb (iv_c (c := 1) (n := 1) (by decide)) h113 ⟨by decide, by decide⟩ ⟨by decide, by decide⟩ dX12_holds_26 (fun x118 e117 h116 => ?_)
        have e117 : x118.toInt = 1 + x115.toInt := e117
        refine tw_iast hx hb hK hS hz_b111 hk_b111 (Or.inl rfl) hn_b111 h109 ⟨by decide, by decide⟩ h116 (rg_s14 ⟨by decide, by decide⟩) (jl := 0) (jh := 1999999) ⟨by decide, by decide⟩ rfl dX12_holds_27 (fun H locs M121 hS k119 f120 => ?_)
        refine lv_aload_n hx hb dX12_holds_28 rfl (lv_at hl 2 rfl) ?_
        refine tw_getr hx hb hW hown hK hS f_X12_51_11 hz_a0 hk_a0 (t := 30) (n := 10) rfl dX12_holds_29 (fun b122 k123 hz_b122 hk_b122 hn_b122 => ?_)
        have hn_b122 := hn_b122 (by decide)
        refine lv_iload hx hb dX12_holds_32 (lv_at hl 1 rfl) ?_
        refine lv_aload_n hx hb dX12_holds_34 rfl (lv_at hl 2 rfl) ?_
        refine tw_getrk hx hb hW hown hK hS f_X12_102_11 hz_a0 hk_a0 (b := b111) k112 dX12_holds_35 ?_
        refine lv_iload hx hb dX12_holds_38 (lv_at hl 1 rfl) ?_
        refine tw_ialk hx hb hK hS hz_b111 hk_b111 (Or.inl rfl) hn_b111 h109 ⟨by decide, by decide⟩ (v := x118) k119 dX12_holds_40 ?_
        refine tw_iast hx hb hK hS hz_b122 hk_b122 (Or.inr (by decide)) hn_b122 h109 ⟨by decide, by decide⟩ h116 (rg_s30 ⟨by decide, by decide⟩) (jl := 0) (jh := 1999999) ⟨by decide, by decide⟩ rfl dX12_holds_41 (fun H locs M126 hS k124 f125 => ?_)
        refine lv_iload_n hx hb dX12_holds_42 rfl (lv_at hl 0 rfl) ?_
        refine lv_iload_n hx hb dX12_holds_43 rfl (lv_at hl 4 rfl) ?_
        refine tw_idiv (lo := 0) (hi := 2147483647) hx hb h_x1 h_a2 ⟨by decide, by decide⟩ ⟨by decide, by decide⟩ dX12_holds_44 (fun x129 e128 h127 => ?_)
        refine lv_istore_n (lv' := [(3, .int x129), (4, .int x2), (0, .ref (base + a0)), (1, .int a1), (2, .int a2)]) hx hb dX12_holds_45 rfl hl (by decide) rfl (fun ls hl => ?_)
        refine tw_iinc (lv' := fun x132 => [(4, .int x132), (3, .int x129), (0, .ref (base + a0)), (1, .int a1), (2, .int a2)]) (lo := 1) (hi := 10) hx hb dX12_holds_46 hl (k := 1) rfl h109 (by decide) ⟨by decide, by decide⟩ ⟨by decide, by decide⟩ (by decide) (fun _ => rfl) (fun x132 ls e131 h130 hl => ?_)
        refine lv_goto (tgt := 5) hx hb dX12_holds_49 (by decide) ?_
        have hm133 : 10 - x132.toInt < (n_3 : Int) := by
          have := (h_a1).1; have := (h_a1).2; have := (h_a2).1; have := (h_a2).2; have := (h130).1; have := (h130).2; have := (h109).1; have := (h109).2; omega
        exact ih_3 x129 x132 M126 R4 J5 H locs _ h127 (iv_mono h130 (by decide) (by decide)) hm133 hS (lv_sub hl [1, 0, 2, 3, 4] rfl)
  have hm134 : 10 - (0 : Int32).toInt < (((11 : Nat) : Int) : Int) := by
    have := (h_a1).1; have := (h_a1).2; have := (h_a2).1; have := (h_a2).2; have : (0 : Int32).toInt = 0 := (by decide); omega
  exact W5_3 11 a1 0 Ma Ra Ja s.heap [] _ h_a1 (iv_mono (iv_c (c := 0) (n := 0) (by decide)) (by decide) (by decide)) hm134 hS (lv_sub hl [1, 0, 2, 3, 4] rfl)
def Lt_X12_waysOf : WL := []
def LRt_X12_waysOf : WL := []
set_option maxRecDepth 100000 in
set_option maxHeartbeats 4000000 in
theorem t_X12_waysOf (l : Launch) (D : va_G) (cy : Nat → ClassId) (tx : (Nat → Nat) × (Nat → Nat)) (base Z : Nat) (K N : Nat → Nat) (Ma : MT) (Ra : RT) (Ja : JT) (hTy : Ty Z K N Ma Ra) (a0 : Nat) (hz_a0 : a0 < Z) (hk_a0 : K a0 = 12) (a1 : Int32) (h_a1 : iv 1 6 a1) : Met l yX12_waysOf [Cond.code yX12_waysOf cX12_waysOf 4 (some .int)] (md_rm 1 0 0) (va_Pc [.ref (base + a0), .int a1] (md_U D cy tx base Z K N Ma Ra Ja)) (mQi D cy tx base (fun r u => TP Z K N Lt_X12_waysOf LRt_X12_waysOf Ma Ra u ∧ (iv (-2147483648) 2147483647 r))) 0 0 (fun q => base ≤ q) := by
  refine tw_ofW (L := Lt_X12_waysOf) (LR := LRt_X12_waysOf) (by decide) (Nat.le_of_ble_eq_true rfl) hTy ?_
  intro p e s m args below meth c Q ls hx hb hr hlocks hown hml hW hK hT hS hQ hl
  have hl : lv_has ls 4 [(0, .ref (base + a0)), (1, .int a1)] := hl
  refine lv_iconst (v := 1) hx hb dX12_waysOf_0 (by decide) ?_
  refine lv_istore_n (lv' := [(2, .int 1), (0, .ref (base + a0)), (1, .int a1)]) hx hb dX12_waysOf_1 rfl hl (by decide) rfl (fun ls hl => ?_)
  refine lv_iconst (v := 0) hx hb dX12_waysOf_2 (by decide) ?_
  refine lv_istore_n (lv' := [(3, .int 0), (2, .int 1), (0, .ref (base + a0)), (1, .int a1)]) hx hb dX12_waysOf_3 rfl hl (by decide) rfl (fun ls hl => ?_)
  have W4_3 : ∀ (n_3 : Nat) (x1 : Int32) (x2 : Int32) (M3 : MT) (R4 : RT) (J5 : JT) (H : Heap) (locs : List Loc) (ls : Array Slot) (h_x1 : iv (-2147483648) 2147483647 x1) (h_x2 : iv 0 10 x2) (hm_3 : 10 - x2.toInt < (n_3 : Int)) (hS : SB D cy base Z K N Lt_X12_waysOf LRt_X12_waysOf Ma Ra M3 R4 J5 s H locs) (hl : lv_has ls 4 [(2, .int x1), (3, .int x2), (0, .ref (base + a0)), (1, .int a1)]), W p l e (md_rm 1 0 0) s m args below meth c H locs 0 0 Q (F0 m 4 ls []) := by
    intro n_3
    induction n_3 with
    | zero =>
      intro x1 x2 M3 R4 J5 H locs ls h_x1 h_x2 hm_3 hS hl
      exfalso
      have := (h_a1).1; have := (h_a1).2; have := (h_x2).1; have := (h_x2).2; omega
    | succ n_3 ih_3 =>
      intro x1 x2 M3 R4 J5 H locs ls h_x1 h_x2 hm_3 hS hl
      have f6 := hS.2.2.1
      have g7 := hS.2.2.2
      refine lv_iload_n hx hb dX12_waysOf_4 rfl (lv_at hl 1 rfl) ?_
      refine lv_aload_n hx hb dX12_waysOf_5 rfl (lv_at hl 2 rfl) ?_
      refine tw_getr hx hb hW hown hK hS f_X12_45_11 hz_a0 hk_a0 (t := 23) (n := 226) rfl dX12_waysOf_6 (fun b8 k9 hz_b8 hk_b8 hn_b8 => ?_)
      have hn_b8 := hn_b8 (by decide)
      refine lv_iconst (v := 0) hx hb dX12_waysOf_9 (by decide) ?_
      refine tw_iald hx hb hK hS hz_b8 hk_b8 (Or.inr (by decide)) hn_b8 (lo := 0) (hi := 10) (iv_c (c := 0) (n := 0) (by decide)) ⟨by decide, by decide⟩ (rg_c (k0 := 0) rfl rfl rfl) dX12_waysOf_10 (fun x12 k11 h10 => ?_)
      refine lv_icmp_ge (tgt := 24) hx hb dX12_waysOf_11 (by decide) (fun c13 => ?_) (fun c13 => ?_)
      · have q14 : x12.toInt ≤ x2.toInt := ti_le c13
        refine lv_iload_n hx hb dX12_waysOf_24 rfl (lv_at hl 0 rfl) ?_
        exact tw_endi hx hb hr hlocks hK hT hS hQ (h_x1) dX12_waysOf_25
      · have q15 : x2.toInt < x12.toInt := ti_nle c13
        have h16 : iv 0 9 x2 := iv_ltL (y := x12) h_x2 h10 q15 (by decide)
        have h17 : iv 1 10 x12 := iv_gtL (y := x2) h10 h_x2 q15 (by decide)
        refine lv_iload_n hx hb dX12_waysOf_14 rfl (lv_at hl 0 rfl) ?_
        refine lv_iload_n hx hb dX12_waysOf_15 rfl (lv_at hl 3 rfl) ?_
        refine lv_imul hx hb dX12_waysOf_16 ?_
        refine tw_top (fun x19 => ?_)
        have h18 := iv_any x19
        refine lv_istore_n (lv' := [(2, .int x19), (3, .int x2), (0, .ref (base + a0)), (1, .int a1)]) hx hb dX12_waysOf_17 rfl hl (by decide) rfl (fun ls hl => ?_)
        refine tw_iinc (lv' := fun x22 => [(3, .int x22), (2, .int x19), (0, .ref (base + a0)), (1, .int a1)]) (lo := 1) (hi := 10) hx hb dX12_waysOf_18 hl (k := 1) rfl h16 (by decide) ⟨by decide, by decide⟩ ⟨by decide, by decide⟩ (by decide) (fun _ => rfl) (fun x22 ls e21 h20 hl => ?_)
        refine lv_goto (tgt := 4) hx hb dX12_waysOf_21 (by decide) ?_
        have hm23 : 10 - x22.toInt < (n_3 : Int) := by
          have := (h_a1).1; have := (h_a1).2; have := (h16).1; have := (h16).2; have := (h20).1; have := (h20).2; omega
        exact ih_3 x19 x22 M3 R4 J5 H locs _ h18 (iv_mono h20 (by decide) (by decide)) hm23 hS (lv_sub hl [1, 0, 2, 3] rfl)
  have hm24 : 10 - (0 : Int32).toInt < (((11 : Nat) : Int) : Int) := by
    have := (h_a1).1; have := (h_a1).2; have : (0 : Int32).toInt = 0 := (by decide); omega
  exact W4_3 11 1 0 Ma Ra Ja s.heap [] _ (iv_mono (iv_c (c := 1) (n := 1) (by decide)) (by decide) (by decide)) (iv_mono (iv_c (c := 0) (n := 0) (by decide)) (by decide) (by decide)) hm24 hS (lv_sub hl [1, 0, 2, 3] rfl)
def Lt_X12_fits : WL := [(12, 28, 29), (12, 31, 33), (14, 0, 2000000), (30, 0, 2000000)]
def LRt_X12_fits : WL := []
set_option maxRecDepth 100000 in
set_option maxHeartbeats 4000000 in
theorem t_X12_fits (l : Launch) (D : va_G) (cy : Nat → ClassId) (tx : (Nat → Nat) × (Nat → Nat)) (base Z : Nat) (K N : Nat → Nat) (Ma : MT) (Ra : RT) (Ja : JT) (hTy : Ty Z K N Ma Ra) (a0 : Nat) (hz_a0 : a0 < Z) (hk_a0 : K a0 = 12) (a1 : Int32) (h_a1 : iv (-2147483648) 2147483647 a1) (a2 : Int32) (h_a2 : iv (-2147483648) 2147483647 a2) (a3 : Int32) (h_a3 : iv (-2147483648) 2147483647 a3) : Met l yX12_fits [Cond.code yX12_fits cX12_fits 9 (some .int)] (md_rm 6 0 0) (va_Pc [.ref (base + a0), .int a1, .int a2, .int a3] (md_U D cy tx base Z K N Ma Ra Ja)) (mQi D cy tx base (fun r u => TP Z K N Lt_X12_fits LRt_X12_fits Ma Ra u ∧ (iv (-2147483648) 2147483647 r))) 0 0 (fun q => base ≤ q) := by
  refine tw_ofW (L := Lt_X12_fits) (LR := LRt_X12_fits) (by decide) (Nat.le_of_ble_eq_true rfl) hTy ?_
  intro p e s m args below meth c Q ls hx hb hr hlocks hown hml hW hK hT hS hQ hl
  have hl : lv_has ls 9 [(0, .ref (base + a0)), (1, .int a1), (2, .int a2), (3, .int a3)] := hl
  refine lv_aload_n hx hb dX12_fits_0 rfl (lv_at hl 0 rfl) ?_
  refine lv_iload_n hx hb dX12_fits_1 rfl (lv_at hl 1 rfl) ?_
  obtain ⟨b1, k2, hz_b1, hk_b1, hn_b1⟩ := hS.2.1.ref hz_a0 hk_a0 (show rtR 12 25 = (23, 226, 0) from rfl)
  have hn_b1 := hn_b1 (by decide)
  obtain ⟨x5, k3⟩ : ∃ x, Ma b1 (0 : Int32).toNatClampNeg = x := ⟨_, rfl⟩
  have h4 : iv 0 10 x5 := by rw [← k3]; exact hS.2.1.int hz_b1 hk_b1 (show rgI 23 (0 : Int32).toNatClampNeg = (0, 10) from rfl)
  refine tw_goi hS (md_runV (As := [.int a1]) (rest := []) hx hb hml hown hW hK hT hS.1 (t_X12_canFit l D cy tx base Z K N Ma Ra Ja hS.2.1 a0 hz_a0 hk_a0 a1 h_a1 b1 k2 x5 k3 (iv_mono h4 (by decide) (by decide))) s_X12_486 ⟨rfl, rfl, ⟨Nat.le_of_ble_eq_true rfl, Nat.le_of_ble_eq_true rfl⟩, ⟨Nat.le_of_ble_eq_true rfl, Nat.le_of_ble_eq_true rfl⟩⟩ hz_a0 hk_a0 (by decide) rfl rfl hl.1 rfl (Nat.le_of_ble_eq_true rfl) dX12_fits_2) rfl rfl (fun x12 H locs M8 R9 J10 hS f6 g7 E11 => ?_)
  obtain ⟨h_x12, p13, p14⟩ := E11
  refine lv_if_eq (tgt := 28) hx hb dX12_fits_5 (by decide) (fun c15 => ?_) (fun c15 => ?_)
  · have q16 : x12.toInt = 0 := ti_eq c15
    have h17 : iv 0 0 x12 := ⟨by have := (h_x12).1; have := ((iv_c (c := 0) (n := 0) (by decide))).1; omega, by have := (h_x12).2; have := ((iv_c (c := 0) (n := 0) (by decide))).2; omega⟩
    refine lv_iconst (v := (-1)) hx hb dX12_fits_28 (by decide) ?_
    exact tw_endi hx hb hr hlocks hK hT hS hQ ((iv_mono (iv_c (c := (-1)) (n := (-1)) (by decide)) (by decide) (by decide))) dX12_fits_29
  · have q18 : ¬ x12.toInt = 0 := ti_ne c15
    have h19 : iv 1 1 x12 := ⟨by have := (h_x12).1; have := ((iv_c (c := 0) (n := 0) (by decide))).1; have := ((iv_c (c := 0) (n := 0) (by decide))).2; omega, by have := (h_x12).2; have := ((iv_c (c := 0) (n := 0) (by decide))).1; have := ((iv_c (c := 0) (n := 0) (by decide))).2; omega⟩
    have h20 : iv 1 5 x5 := ⟨by have := (p13 c15).1; have := (h4).1; omega, by have := (p13 c15).2; have := (h4).2; omega⟩
    have h21 : iv 1 6 a1 := ⟨by have := (p14 c15).1; have := (h_a1).1; omega, by have := (p14 c15).2; have := (h_a1).2; omega⟩
    refine lv_aload_n hx hb dX12_fits_8 rfl (lv_at hl 0 rfl) ?_
    refine lv_iload_n hx hb dX12_fits_9 rfl (lv_at hl 2 rfl) ?_
    refine tw_goi hS (md_runV (As := [.int a2]) (rest := []) hx hb hml hown hW hK hT hS.1 (t_X12_isMember l D cy tx base Z K N M8 R9 J10 hS.2.1 a0 hz_a0 hk_a0 a2 h_a2) s_X12_319 ⟨rfl, rfl, ⟨Nat.le_of_ble_eq_true rfl, Nat.le_of_ble_eq_true rfl⟩, ⟨Nat.le_of_ble_eq_true rfl, Nat.le_of_ble_eq_true rfl⟩⟩ hz_a0 hk_a0 (by decide) rfl rfl hl.1 rfl (Nat.le_of_ble_eq_true rfl) dX12_fits_10) rfl rfl (fun x28 H locs M24 R25 J26 hS f22 g23 E27 => ?_)
    obtain ⟨h_x28, p29⟩ := E27
    refine lv_if_eq (tgt := 28) hx hb dX12_fits_13 (by decide) (fun c30 => ?_) (fun c30 => ?_)
    · have q31 : x28.toInt = 0 := ti_eq c30
      have h32 : iv 0 0 x28 := ⟨by have := (h_x28).1; have := ((iv_c (c := 0) (n := 0) (by decide))).1; omega, by have := (h_x28).2; have := ((iv_c (c := 0) (n := 0) (by decide))).2; omega⟩
      refine lv_iconst (v := (-1)) hx hb dX12_fits_28 (by decide) ?_
      exact tw_endi hx hb hr hlocks hK hT hS hQ ((iv_mono (iv_c (c := (-1)) (n := (-1)) (by decide)) (by decide) (by decide))) dX12_fits_29
    · have q33 : ¬ x28.toInt = 0 := ti_ne c30
      have h34 : iv 1 1 x28 := ⟨by have := (h_x28).1; have := ((iv_c (c := 0) (n := 0) (by decide))).1; have := ((iv_c (c := 0) (n := 0) (by decide))).2; omega, by have := (h_x28).2; have := ((iv_c (c := 0) (n := 0) (by decide))).1; have := ((iv_c (c := 0) (n := 0) (by decide))).2; omega⟩
      have h35 : iv 0 9 a2 := ⟨by have := (p29 c30).1; have := (h_a2).1; omega, by have := (p29 c30).2; have := (h_a2).2; omega⟩
      refine lv_iload_n hx hb dX12_fits_16 rfl (lv_at hl 3 rfl) ?_
      refine lv_i2l hx hb dX12_fits_17 rfl ?_
      refine lv_lconst (v := 0) hx hb dX12_fits_18 (by decide) ?_
      refine lv_ldc2 hx hb hown (hW _ w_7_178 rfl) dX12_fits_19 ?_
      refine tw_goi hS (md_runS (As := [.long a3.toInt64, .long 0, .long 2]) (rest := []) hx hb hml hown hW hK hT hS.1 (t_X12_in l D cy tx base Z K N M24 R25 J26 hS.2.1 (a3.toInt64) (0) (2)) s_X12_155 ⟨rfl, rfl, ⟨Nat.le_of_ble_eq_true rfl, Nat.le_of_ble_eq_true rfl⟩, ⟨Nat.le_of_ble_eq_true rfl, Nat.le_of_ble_eq_true rfl⟩⟩ rfl hl.1 rfl (Nat.le_of_ble_eq_true rfl) dX12_fits_22) rfl rfl (fun x42 H locs M38 R39 J40 hS f36 g37 E41 => ?_)
      obtain ⟨h_x42, p43⟩ := E41
      refine lv_if_ne (tgt := 30) hx hb dX12_fits_25 (by decide) (fun c44 => ?_) (fun c44 => ?_)
      · have q45 : ¬ x42.toInt = 0 := ti_ne c44
        have h46 : iv 1 1 x42 := ⟨by have := (h_x42).1; have := ((iv_c (c := 0) (n := 0) (by decide))).1; have := ((iv_c (c := 0) (n := 0) (by decide))).2; omega, by have := (h_x42).2; have := ((iv_c (c := 0) (n := 0) (by decide))).1; have := ((iv_c (c := 0) (n := 0) (by decide))).2; omega⟩
        have h47 : iv 0 2 a3 := in2iv (p43 c44) ((jv_c (x := 0) (n := 0) (by decide))).1 ((jv_c (x := 2) (n := 2) (by decide))).2
        refine lv_iconst (v := 0) hx hb dX12_fits_30 (by decide) ?_
        refine lv_istore (lv' := [(4, .int 0), (0, .ref (base + a0)), (1, .int a1), (2, .int a2), (3, .int a3)]) hx hb dX12_fits_31 hl (by decide) rfl (fun ls hl => ?_)
        refine lv_iconst (v := 0) hx hb dX12_fits_33 (by decide) ?_
        refine lv_istore (lv' := [(5, .int 0), (4, .int 0), (0, .ref (base + a0)), (1, .int a1), (2, .int a2), (3, .int a3)]) hx hb dX12_fits_34 hl (by decide) rfl (fun ls hl => ?_)
        refine lv_iconst (v := 0) hx hb dX12_fits_36 (by decide) ?_
        refine lv_istore (lv' := [(6, .int 0), (5, .int 0), (4, .int 0), (0, .ref (base + a0)), (1, .int a1), (2, .int a2), (3, .int a3)]) hx hb dX12_fits_37 hl (by decide) rfl (fun ls hl => ?_)
        refine lv_iconst (v := 0) hx hb dX12_fits_39 (by decide) ?_
        refine lv_istore (lv' := [(7, .int 0), (6, .int 0), (5, .int 0), (4, .int 0), (0, .ref (base + a0)), (1, .int a1), (2, .int a2), (3, .int a3)]) hx hb dX12_fits_40 hl (by decide) rfl (fun ls hl => ?_)
        have W42_52 : ∀ (n_52 : Nat) (x48 : Int32) (x49 : Int32) (x50 : Int32) (x51 : Int32) (M52 : MT) (R53 : RT) (J54 : JT) (H : Heap) (locs : List Loc) (ls : Array Slot) (h_x48 : iv (-2147483648) 2147483647 x48) (h_x49 : iv (-2147483648) 2147483647 x49) (h_x50 : iv 0 2147483647 x50) (h_x51 : iv 0 2147483647 x51) (hm_52 : 2147483647 - x51.toInt < (n_52 : Int)) (hS : SB D cy base Z K N Lt_X12_fits LRt_X12_fits Ma Ra M52 R53 J54 s H locs) (hl : lv_has ls 9 [(4, .int x48), (5, .int x49), (6, .int x50), (7, .int x51), (0, .ref (base + a0)), (1, .int a1), (2, .int a2), (3, .int a3)]), W p l e (md_rm 6 0 0) s m args below meth c H locs 0 0 Q (F0 m 42 ls []) := by
          intro n_52
          induction n_52 with
          | zero =>
            intro x48 x49 x50 x51 M52 R53 J54 H locs ls h_x48 h_x49 h_x50 h_x51 hm_52 hS hl
            exfalso
            have := (h21).1; have := (h21).2; have := (h35).1; have := (h35).2; have := (h47).1; have := (h47).2; have := (h_x51).1; have := (h_x51).2; omega
          | succ n_52 ih_52 =>
            intro x48 x49 x50 x51 M52 R53 J54 H locs ls h_x48 h_x49 h_x50 h_x51 hm_52 hS hl
            have f55 := hS.2.2.1
            have g56 := hS.2.2.2
            refine lv_iload hx hb dX12_fits_42 (lv_at hl 3 rfl) ?_
            refine lv_aload_n hx hb dX12_fits_44 rfl (lv_at hl 4 rfl) ?_
            refine lv_iload_n hx hb dX12_fits_45 rfl (lv_at hl 5 rfl) ?_
            refine tw_goi hS (md_runV (As := [.int a1]) (rest := [.int x51]) hx hb hml hown hW hK hT hS.1 (t_X12_waysOf l D cy tx base Z K N M52 R53 J54 hS.2.1 a0 hz_a0 hk_a0 a1 h21) s_X12_489 ⟨rfl, rfl, ⟨Nat.le_of_ble_eq_true rfl, Nat.le_of_ble_eq_true rfl⟩, ⟨Nat.le_of_ble_eq_true rfl, Nat.le_of_ble_eq_true rfl⟩⟩ hz_a0 hk_a0 (by decide) rfl rfl hl.1 rfl (Nat.le_of_ble_eq_true rfl) dX12_fits_46) rfl rfl (fun x63 H locs M59 R60 J61 hS f57 g58 E62 => ?_)
            have h_x63 := E62
            refine lv_icmp_ge (tgt := 119) hx hb dX12_fits_49 (by decide) (fun c64 => ?_) (fun c64 => ?_)
            · have q65 : x63.toInt ≤ x51.toInt := ti_le c64
              refine lv_iload_n hx hb dX12_fits_119 rfl (lv_at hl 7 rfl) ?_
              refine lv_if_ne (tgt := 128) hx hb dX12_fits_120 (by decide) (fun c66 => ?_) (fun c66 => ?_)
              · have q67 : ¬ a3.toInt = 0 := ti_ne c66
                have h68 : iv 1 2 a3 := ⟨by have := (h47).1; have := ((iv_c (c := 0) (n := 0) (by decide))).1; have := ((iv_c (c := 0) (n := 0) (by decide))).2; omega, by have := (h47).2; have := ((iv_c (c := 0) (n := 0) (by decide))).1; have := ((iv_c (c := 0) (n := 0) (by decide))).2; omega⟩
                refine lv_iload hx hb dX12_fits_128 (lv_at hl 0 rfl) ?_
                refine lv_if_ne (tgt := 138) hx hb dX12_fits_130 (by decide) (fun c69 => ?_) (fun c69 => ?_)
                · have q70 : ¬ x48.toInt = 0 := ti_ne c69
                  refine lv_iload_n hx hb dX12_fits_138 rfl (lv_at hl 7 rfl) ?_
                  refine lv_iconst (v := 1) hx hb dX12_fits_139 (by decide) ?_
                  refine lv_icmp_ne (tgt := 148) hx hb dX12_fits_140 (by decide) (fun c71 => ?_) (fun c71 => ?_)
                  · have q72 : ¬ a3.toInt = 1 := ti_ne c71
                    have h73 : iv 2 2 a3 := ⟨by have := (h68).1; have := ((iv_c (c := 1) (n := 1) (by decide))).1; have := ((iv_c (c := 1) (n := 1) (by decide))).2; omega, by have := (h68).2; have := ((iv_c (c := 1) (n := 1) (by decide))).1; have := ((iv_c (c := 1) (n := 1) (by decide))).2; omega⟩
                    refine lv_iload hx hb dX12_fits_148 (lv_at hl 2 rfl) ?_
                    exact tw_endi hx hb hr hlocks hK hT hS hQ ((iv_mono h_x50 (by decide) (by decide))) dX12_fits_150
                  · have q74 : a3.toInt = 1 := ti_eq c71
                    have h75 : iv 1 1 a3 := ⟨by have := (h68).1; have := ((iv_c (c := 1) (n := 1) (by decide))).1; omega, by have := (h68).2; have := ((iv_c (c := 1) (n := 1) (by decide))).2; omega⟩
                    refine lv_iload hx hb dX12_fits_143 (lv_at hl 1 rfl) ?_
                    refine lv_goto (tgt := 150) hx hb dX12_fits_145 (by decide) ?_
                    exact tw_endi hx hb hr hlocks hK hT hS hQ (h_x49) dX12_fits_150
                · have q76 : x48.toInt = 0 := ti_eq c69
                  have h77 : iv 0 0 x48 := ⟨by have := (h_x48).1; have := ((iv_c (c := 0) (n := 0) (by decide))).1; omega, by have := (h_x48).2; have := ((iv_c (c := 0) (n := 0) (by decide))).2; omega⟩
                  refine lv_bipush (v := (-2)) hx hb dX12_fits_133 (by decide) ?_
                  refine lv_goto (tgt := 150) hx hb dX12_fits_135 (by decide) ?_
                  exact tw_endi hx hb hr hlocks hK hT hS hQ ((iv_mono (iv_c (c := (-2)) (n := (-2)) (by decide)) (by decide) (by decide))) dX12_fits_150
              · have q78 : a3.toInt = 0 := ti_eq c66
                have h79 : iv 0 0 a3 := ⟨by have := (h47).1; have := ((iv_c (c := 0) (n := 0) (by decide))).1; omega, by have := (h47).2; have := ((iv_c (c := 0) (n := 0) (by decide))).2; omega⟩
                refine lv_iload hx hb dX12_fits_123 (lv_at hl 0 rfl) ?_
                refine lv_goto (tgt := 150) hx hb dX12_fits_125 (by decide) ?_
                exact tw_endi hx hb hr hlocks hK hT hS hQ (h_x48) dX12_fits_150
            · have q80 : x51.toInt < x63.toInt := ti_nle c64
              have h81 : iv 0 2147483646 x51 := iv_ltL (y := x63) h_x51 h_x63 q80 (by decide)
              have h82 : iv 1 2147483647 x63 := iv_gtL (y := x51) h_x63 h_x51 q80 (by decide)
              refine lv_aload_n hx hb dX12_fits_52 rfl (lv_at hl 4 rfl) ?_
              refine lv_iload hx hb dX12_fits_53 (lv_at hl 3 rfl) ?_
              refine lv_iload_n hx hb dX12_fits_55 rfl (lv_at hl 5 rfl) ?_
              refine tw_goi hS (md_runV (As := [.int x51, .int a1]) (rest := []) hx hb hml hown hW hK hT hS.1 (t_X12_holds l D cy tx base Z K N M59 R60 J61 hS.2.1 a0 hz_a0 hk_a0 x51 (iv_mono h81 (by decide) (by decide)) a1 h21) s_X12_492 ⟨rfl, rfl, ⟨Nat.le_of_ble_eq_true rfl, Nat.le_of_ble_eq_true rfl⟩, ⟨Nat.le_of_ble_eq_true rfl, Nat.le_of_ble_eq_true rfl⟩⟩ hz_a0 hk_a0 (by decide) rfl rfl hl.1 rfl (Nat.le_of_ble_eq_true rfl) dX12_fits_56) rfl rfl (fun x89 H locs M85 R86 J87 hS f83 g84 E88 => ?_)
              have h_x89 := E88
              refine lv_if_ne (tgt := 65) hx hb dX12_fits_59 (by decide) (fun c90 => ?_) (fun c90 => ?_)
              · have q91 : ¬ x89.toInt = 0 := ti_ne c90
                have h92 : iv 1 1 x89 := ⟨by have := (h_x89).1; have := ((iv_c (c := 0) (n := 0) (by decide))).1; have := ((iv_c (c := 0) (n := 0) (by decide))).2; omega, by have := (h_x89).2; have := ((iv_c (c := 0) (n := 0) (by decide))).1; have := ((iv_c (c := 0) (n := 0) (by decide))).2; omega⟩
                refine lv_aload_n hx hb dX12_fits_65 rfl (lv_at hl 4 rfl) ?_
                refine tw_getr hx hb hW hown hK hS f_X12_102_11 hz_a0 hk_a0 (t := 14) (n := 10) rfl dX12_fits_66 (fun b93 k94 hz_b93 hk_b93 hn_b93 => ?_)
                have hn_b93 := hn_b93 (by decide)
                refine lv_iload_n hx hb dX12_fits_69 rfl (lv_at hl 6 rfl) ?_
                refine tw_iald hx hb hK hS hz_b93 hk_b93 (Or.inl rfl) hn_b93 (lo := (-2147483648)) (hi := 2147483647) h35 ⟨by decide, by decide⟩ rg_u14 dX12_fits_70 (fun x97 k96 h95 => ?_)
                refine lv_istore (lv' := [(8, .int x97), (4, .int x48), (5, .int x49), (6, .int x50), (7, .int x51), (0, .ref (base + a0)), (1, .int a1), (2, .int a2), (3, .int a3)]) hx hb dX12_fits_71 hl (by decide) rfl (fun ls hl => ?_)
                refine lv_iload hx hb dX12_fits_73 (lv_at hl 1 rfl) ?_
                have J85_98 : ∀  (M98 : MT) (R99 : RT) (J100 : JT) (H : Heap) (locs : List Loc) (ls : Array Slot) (hS : SB D cy base Z K N Lt_X12_fits LRt_X12_fits Ma Ra M98 R99 J100 s H locs) (hl : lv_has ls 9 [(8, .int x97), (4, .int x48), (5, .int x49), (6, .int x50), (7, .int x51), (0, .ref (base + a0)), (1, .int a1), (2, .int a2), (3, .int a3)]), W p l e (md_rm 6 0 0) s m args below meth c H locs 0 0 Q (F0 m 85 ls []) := by
                  intro  M98 R99 J100 H locs ls  hS hl
                  have f101 := hS.2.2.1
                  have g102 := hS.2.2.2
                  refine lv_iload hx hb dX12_fits_85 (lv_at hl 0 rfl) ?_
                  refine lv_goto (tgt := 92) hx hb dX12_fits_87 (by decide) ?_
                  refine lv_istore (lv' := [(5, .int x97), (8, .int x97), (4, .int x48), (6, .int x50), (7, .int x51), (0, .ref (base + a0)), (1, .int a1), (2, .int a2), (3, .int a3)]) hx hb dX12_fits_92 hl (by decide) rfl (fun ls hl => ?_)
                  refine lv_iload hx hb dX12_fits_94 (lv_at hl 1 rfl) ?_
                  refine lv_iload hx hb dX12_fits_96 (lv_at hl 3 rfl) ?_
                  refine lv_icmp_le (tgt := 106) hx hb dX12_fits_98 (by decide) (fun c103 => ?_) (fun c103 => ?_)
                  · have q104 : x97.toInt ≤ x50.toInt := ti_le c103
                    refine lv_iload hx hb dX12_fits_106 (lv_at hl 3 rfl) ?_
                    refine lv_istore (lv' := [(6, .int x50), (5, .int x97), (8, .int x97), (4, .int x48), (7, .int x51), (0, .ref (base + a0)), (1, .int a1), (2, .int a2), (3, .int a3)]) hx hb dX12_fits_108 hl (by decide) rfl (fun ls hl => ?_)
                    refine tw_iincw (lv' := fun x106 => [(4, .int x106), (6, .int x50), (5, .int x97), (8, .int x97), (7, .int x51), (0, .ref (base + a0)), (1, .int a1), (2, .int a2), (3, .int a3)]) hx hb dX12_fits_110 hl (k := 3) rfl (by decide) (fun _ => rfl) (fun x106 ls hl => ?_)
                    have h105 := iv_any x106
                    refine tw_iinc (lv' := fun x109 => [(7, .int x109), (4, .int x106), (6, .int x50), (5, .int x97), (8, .int x97), (0, .ref (base + a0)), (1, .int a1), (2, .int a2), (3, .int a3)]) (lo := 1) (hi := 2147483647) hx hb dX12_fits_113 hl (k := 4) rfl h81 (by decide) ⟨by decide, by decide⟩ ⟨by decide, by decide⟩ (by decide) (fun _ => rfl) (fun x109 ls e108 h107 hl => ?_)
                    refine lv_goto (tgt := 42) hx hb dX12_fits_116 (by decide) ?_
                    have hm110 : 2147483647 - x109.toInt < (n_52 : Int) := by
                      have := (h21).1; have := (h21).2; have := (h35).1; have := (h35).2; have := (h47).1; have := (h47).2; have := (h107).1; have := (h107).2; have := (h81).1; have := (h81).2; omega
                    exact ih_52 x106 x97 x50 x109 M98 R99 J100 H locs _ h105 h95 h_x50 (iv_mono h107 (by decide) (by decide)) hm110 hS (lv_sub hl [1, 3, 2, 0, 5, 6, 7, 8] rfl)
                  · have q111 : x50.toInt < x97.toInt := ti_nle c103
                    have h112 : iv 1 2147483647 x97 := iv_gtL (y := x50) h95 h_x50 q111 (by decide)
                    have h113 : iv 0 2147483646 x50 := iv_ltL (y := x97) h_x50 h95 q111 (by decide)
                    refine lv_iload hx hb dX12_fits_101 (lv_at hl 1 rfl) ?_
                    refine lv_goto (tgt := 108) hx hb dX12_fits_103 (by decide) ?_
                    refine lv_istore (lv' := [(6, .int x97), (5, .int x97), (8, .int x97), (4, .int x48), (7, .int x51), (0, .ref (base + a0)), (1, .int a1), (2, .int a2), (3, .int a3)]) hx hb dX12_fits_108 hl (by decide) rfl (fun ls hl => ?_)
                    refine tw_iincw (lv' := fun x115 => [(4, .int x115), (6, .int x97), (5, .int x97), (8, .int x97), (7, .int x51), (0, .ref (base + a0)), (1, .int a1), (2, .int a2), (3, .int a3)]) hx hb dX12_fits_110 hl (k := 3) rfl (by decide) (fun _ => rfl) (fun x115 ls hl => ?_)
                    have h114 := iv_any x115
                    refine tw_iinc (lv' := fun x118 => [(7, .int x118), (4, .int x115), (6, .int x97), (5, .int x97), (8, .int x97), (0, .ref (base + a0)), (1, .int a1), (2, .int a2), (3, .int a3)]) (lo := 1) (hi := 2147483647) hx hb dX12_fits_113 hl (k := 4) rfl h81 (by decide) ⟨by decide, by decide⟩ ⟨by decide, by decide⟩ (by decide) (fun _ => rfl) (fun x118 ls e117 h116 hl => ?_)
                    refine lv_goto (tgt := 42) hx hb dX12_fits_116 (by decide) ?_
                    have hm119 : 2147483647 - x118.toInt < (n_52 : Int) := by
                      have := (h21).1; have := (h21).2; have := (h35).1; have := (h35).2; have := (h47).1; have := (h47).2; have := (h116).1; have := (h116).2; have := (h81).1; have := (h81).2; omega
                    exact ih_52 x115 x97 x97 x118 M98 R99 J100 H locs _ h114 (iv_mono h112 (by decide) (by decide)) (iv_mono h112 (by decide) (by decide)) (iv_mono h116 (by decide) (by decide)) hm119 hS (lv_sub hl [1, 3, 2, 0, 5, 6, 7, 8] rfl)
                refine lv_if_eq (tgt := 85) hx hb dX12_fits_75 (by decide) (fun c120 => ?_) (fun c120 => ?_)
                · have q121 : x48.toInt = 0 := ti_eq c120
                  have h122 : iv 0 0 x48 := ⟨by have := (h_x48).1; have := ((iv_c (c := 0) (n := 0) (by decide))).1; omega, by have := (h_x48).2; have := ((iv_c (c := 0) (n := 0) (by decide))).2; omega⟩
                  exact J85_98  M85 R86 J87 H locs _  hS hl
                · have q123 : ¬ x48.toInt = 0 := ti_ne c120
                  refine lv_iload hx hb dX12_fits_78 (lv_at hl 0 rfl) ?_
                  refine lv_iload hx hb dX12_fits_80 (lv_at hl 2 rfl) ?_
                  refine lv_icmp_ge (tgt := 90) hx hb dX12_fits_82 (by decide) (fun c124 => ?_) (fun c124 => ?_)
                  · have q125 : x49.toInt ≤ x97.toInt := ti_le c124
                    refine lv_iload hx hb dX12_fits_90 (lv_at hl 2 rfl) ?_
                    refine lv_istore (lv' := [(5, .int x49), (8, .int x97), (4, .int x48), (6, .int x50), (7, .int x51), (0, .ref (base + a0)), (1, .int a1), (2, .int a2), (3, .int a3)]) hx hb dX12_fits_92 hl (by decide) rfl (fun ls hl => ?_)
                    refine lv_iload hx hb dX12_fits_94 (lv_at hl 1 rfl) ?_
                    refine lv_iload hx hb dX12_fits_96 (lv_at hl 3 rfl) ?_
                    refine lv_icmp_le (tgt := 106) hx hb dX12_fits_98 (by decide) (fun c126 => ?_) (fun c126 => ?_)
                    · have q127 : x97.toInt ≤ x50.toInt := ti_le c126
                      refine lv_iload hx hb dX12_fits_106 (lv_at hl 3 rfl) ?_
                      refine lv_istore (lv' := [(6, .int x50), (5, .int x49), (8, .int x97), (4, .int x48), (7, .int x51), (0, .ref (base + a0)), (1, .int a1), (2, .int a2), (3, .int a3)]) hx hb dX12_fits_108 hl (by decide) rfl (fun ls hl => ?_)
                      refine tw_iincw (lv' := fun x129 => [(4, .int x129), (6, .int x50), (5, .int x49), (8, .int x97), (7, .int x51), (0, .ref (base + a0)), (1, .int a1), (2, .int a2), (3, .int a3)]) hx hb dX12_fits_110 hl (k := 3) rfl (by decide) (fun _ => rfl) (fun x129 ls hl => ?_)
                      have h128 := iv_any x129
                      refine tw_iinc (lv' := fun x132 => [(7, .int x132), (4, .int x129), (6, .int x50), (5, .int x49), (8, .int x97), (0, .ref (base + a0)), (1, .int a1), (2, .int a2), (3, .int a3)]) (lo := 1) (hi := 2147483647) hx hb dX12_fits_113 hl (k := 4) rfl h81 (by decide) ⟨by decide, by decide⟩ ⟨by decide, by decide⟩ (by decide) (fun _ => rfl) (fun x132 ls e131 h130 hl => ?_)
                      refine lv_goto (tgt := 42) hx hb dX12_fits_116 (by decide) ?_
                      have hm133 : 2147483647 - x132.toInt < (n_52 : Int) := by
                        have := (h21).1; have := (h21).2; have := (h35).1; have := (h35).2; have := (h47).1; have := (h47).2; have := (h130).1; have := (h130).2; have := (h81).1; have := (h81).2; omega
                      exact ih_52 x129 x49 x50 x132 M85 R86 J87 H locs _ h128 h_x49 h_x50 (iv_mono h130 (by decide) (by decide)) hm133 hS (lv_sub hl [1, 3, 2, 0, 5, 6, 7, 8] rfl)
                    · have q134 : x50.toInt < x97.toInt := ti_nle c126
                      have h135 : iv 1 2147483647 x97 := iv_gtL (y := x50) h95 h_x50 q134 (by decide)
                      have h136 : iv 0 2147483646 x50 := iv_ltL (y := x97) h_x50 h95 q134 (by decide)
                      refine lv_iload hx hb dX12_fits_101 (lv_at hl 1 rfl) ?_
                      refine lv_goto (tgt := 108) hx hb dX12_fits_103 (by decide) ?_
                      refine lv_istore (lv' := [(6, .int x97), (5, .int x49), (8, .int x97), (4, .int x48), (7, .int x51), (0, .ref (base + a0)), (1, .int a1), (2, .int a2), (3, .int a3)]) hx hb dX12_fits_108 hl (by decide) rfl (fun ls hl => ?_)
                      refine tw_iincw (lv' := fun x138 => [(4, .int x138), (6, .int x97), (5, .int x49), (8, .int x97), (7, .int x51), (0, .ref (base + a0)), (1, .int a1), (2, .int a2), (3, .int a3)]) hx hb dX12_fits_110 hl (k := 3) rfl (by decide) (fun _ => rfl) (fun x138 ls hl => ?_)
                      have h137 := iv_any x138
                      refine tw_iinc (lv' := fun x141 => [(7, .int x141), (4, .int x138), (6, .int x97), (5, .int x49), (8, .int x97), (0, .ref (base + a0)), (1, .int a1), (2, .int a2), (3, .int a3)]) (lo := 1) (hi := 2147483647) hx hb dX12_fits_113 hl (k := 4) rfl h81 (by decide) ⟨by decide, by decide⟩ ⟨by decide, by decide⟩ (by decide) (fun _ => rfl) (fun x141 ls e140 h139 hl => ?_)
                      refine lv_goto (tgt := 42) hx hb dX12_fits_116 (by decide) ?_
                      have hm142 : 2147483647 - x141.toInt < (n_52 : Int) := by
                        have := (h21).1; have := (h21).2; have := (h35).1; have := (h35).2; have := (h47).1; have := (h47).2; have := (h139).1; have := (h139).2; have := (h81).1; have := (h81).2; omega
                      exact ih_52 x138 x49 x97 x141 M85 R86 J87 H locs _ h137 h_x49 (iv_mono h135 (by decide) (by decide)) (iv_mono h139 (by decide) (by decide)) hm142 hS (lv_sub hl [1, 3, 2, 0, 5, 6, 7, 8] rfl)
                  · have q143 : x97.toInt < x49.toInt := ti_nle c124
                    have h144 : iv (-2147483648) 2147483646 x97 := iv_ltL (y := x49) h95 h_x49 q143 (by decide)
                    have h145 : iv (-2147483647) 2147483647 x49 := iv_gtL (y := x97) h_x49 h95 q143 (by decide)
                    exact J85_98  M85 R86 J87 H locs _  hS hl
              · have q146 : x89.toInt = 0 := ti_eq c90
                have h147 : iv 0 0 x89 := ⟨by have := (h_x89).1; have := ((iv_c (c := 0) (n := 0) (by decide))).1; omega, by have := (h_x89).2; have := ((iv_c (c := 0) (n := 0) (by decide))).2; omega⟩
                refine lv_goto (tgt := 113) hx hb dX12_fits_62 (by decide) ?_
                refine tw_iinc (lv' := fun x150 => [(7, .int x150), (4, .int x48), (5, .int x49), (6, .int x50), (0, .ref (base + a0)), (1, .int a1), (2, .int a2), (3, .int a3)]) (lo := 1) (hi := 2147483647) hx hb dX12_fits_113 hl (k := 3) rfl h81 (by decide) ⟨by decide, by decide⟩ ⟨by decide, by decide⟩ (by decide) (fun _ => rfl) (fun x150 ls e149 h148 hl => ?_)
                refine lv_goto (tgt := 42) hx hb dX12_fits_116 (by decide) ?_
                have hm151 : 2147483647 - x150.toInt < (n_52 : Int) := by
                  have := (h21).1; have := (h21).2; have := (h35).1; have := (h35).2; have := (h47).1; have := (h47).2; have := (h148).1; have := (h148).2; have := (h81).1; have := (h81).2; omega
                exact ih_52 x48 x49 x50 x150 M85 R86 J87 H locs _ h_x48 h_x49 h_x50 (iv_mono h148 (by decide) (by decide)) hm151 hS (lv_sub hl [1, 2, 3, 0, 4, 5, 6, 7] rfl)
        have hm152 : 2147483647 - (0 : Int32).toInt < (((2147483648 : Nat) : Int) : Int) := by
          have := (h21).1; have := (h21).2; have := (h35).1; have := (h35).2; have := (h47).1; have := (h47).2; have : (0 : Int32).toInt = 0 := (by decide); omega
        exact W42_52 2147483648 0 0 0 0 M38 R39 J40 H locs _ (iv_mono (iv_c (c := 0) (n := 0) (by decide)) (by decide) (by decide)) (iv_mono (iv_c (c := 0) (n := 0) (by decide)) (by decide) (by decide)) (iv_mono (iv_c (c := 0) (n := 0) (by decide)) (by decide) (by decide)) (iv_mono (iv_c (c := 0) (n := 0) (by decide)) (by decide) (by decide)) hm152 hS (lv_sub hl [3, 2, 1, 0, 4, 5, 6, 7] rfl)
      · have q153 : x42.toInt = 0 := ti_eq c44
        have h154 : iv 0 0 x42 := ⟨by have := (h_x42).1; have := ((iv_c (c := 0) (n := 0) (by decide))).1; omega, by have := (h_x42).2; have := ((iv_c (c := 0) (n := 0) (by decide))).2; omega⟩
        refine lv_iconst (v := (-1)) hx hb dX12_fits_28 (by decide) ?_
        exact tw_endi hx hb hr hlocks hK hT hS hQ ((iv_mono (iv_c (c := (-1)) (n := (-1)) (by decide)) (by decide) (by decide))) dX12_fits_29
def Lt_X12_gainOf : WL := []
def LRt_X12_gainOf : WL := []
set_option maxRecDepth 100000 in
set_option maxHeartbeats 4000000 in
theorem t_X12_gainOf (l : Launch) (D : va_G) (cy : Nat → ClassId) (tx : (Nat → Nat) × (Nat → Nat)) (base Z : Nat) (K N : Nat → Nat) (Ma : MT) (Ra : RT) (Ja : JT) (hTy : Ty Z K N Ma Ra) (a0 : Nat) (hz_a0 : a0 < Z) (hk_a0 : K a0 = 12) (a1 : Int32) (h_a1 : iv (-2147483648) 2147483647 a1) (a2 : Int32) (h_a2 : iv 0 11 a2) : Met l yX12_gainOf [Cond.code yX12_gainOf cX12_gainOf 5 (some .int)] (md_rm 2 0 0) (va_Pc [.ref (base + a0), .int a1, .int a2] (md_U D cy tx base Z K N Ma Ra Ja)) (mQi D cy tx base (fun r u => TP Z K N Lt_X12_gainOf LRt_X12_gainOf Ma Ra u ∧ (iv (-2147483648) 2147483647 r))) 0 0 (fun q => base ≤ q) := by
  refine tw_ofW (L := Lt_X12_gainOf) (LR := LRt_X12_gainOf) (by decide) (Nat.le_of_ble_eq_true rfl) hTy ?_
  intro p e s m args below meth c Q ls hx hb hr hlocks hown hml hW hK hT hS hQ hl
  have hl : lv_has ls 5 [(0, .ref (base + a0)), (1, .int a1), (2, .int a2)] := hl
  refine lv_iconst (v := 0) hx hb dX12_gainOf_0 (by decide) ?_
  refine lv_istore_n (lv' := [(3, .int 0), (0, .ref (base + a0)), (1, .int a1), (2, .int a2)]) hx hb dX12_gainOf_1 rfl hl (by decide) rfl (fun ls hl => ?_)
  refine lv_iconst (v := 0) hx hb dX12_gainOf_2 (by decide) ?_
  refine lv_istore (lv' := [(4, .int 0), (3, .int 0), (0, .ref (base + a0)), (1, .int a1), (2, .int a2)]) hx hb dX12_gainOf_3 hl (by decide) rfl (fun ls hl => ?_)
  have W5_3 : ∀ (n_3 : Nat) (x1 : Int32) (x2 : Int32) (M3 : MT) (R4 : RT) (J5 : JT) (H : Heap) (locs : List Loc) (ls : Array Slot) (h_x1 : iv (-2147483648) 2147483647 x1) (h_x2 : iv 0 10 x2) (hm_3 : 10 - x2.toInt < (n_3 : Int)) (hS : SB D cy base Z K N Lt_X12_gainOf LRt_X12_gainOf Ma Ra M3 R4 J5 s H locs) (hl : lv_has ls 5 [(3, .int x1), (4, .int x2), (0, .ref (base + a0)), (1, .int a1), (2, .int a2)]), W p l e (md_rm 2 0 0) s m args below meth c H locs 0 0 Q (F0 m 5 ls []) := by
    intro n_3
    induction n_3 with
    | zero =>
      intro x1 x2 M3 R4 J5 H locs ls h_x1 h_x2 hm_3 hS hl
      exfalso
      have := (h_a1).1; have := (h_a1).2; have := (h_a2).1; have := (h_a2).2; have := (h_x2).1; have := (h_x2).2; omega
    | succ n_3 ih_3 =>
      intro x1 x2 M3 R4 J5 H locs ls h_x1 h_x2 hm_3 hS hl
      have f6 := hS.2.2.1
      have g7 := hS.2.2.2
      refine lv_iload hx hb dX12_gainOf_5 (lv_at hl 1 rfl) ?_
      refine lv_aload_n hx hb dX12_gainOf_7 rfl (lv_at hl 2 rfl) ?_
      refine tw_getr hx hb hW hown hK hS f_X12_45_11 hz_a0 hk_a0 (t := 23) (n := 226) rfl dX12_gainOf_8 (fun b8 k9 hz_b8 hk_b8 hn_b8 => ?_)
      have hn_b8 := hn_b8 (by decide)
      refine lv_iconst (v := 0) hx hb dX12_gainOf_11 (by decide) ?_
      refine tw_iald hx hb hK hS hz_b8 hk_b8 (Or.inr (by decide)) hn_b8 (lo := 0) (hi := 10) (iv_c (c := 0) (n := 0) (by decide)) ⟨by decide, by decide⟩ (rg_c (k0 := 0) rfl rfl rfl) dX12_gainOf_12 (fun x12 k11 h10 => ?_)
      refine lv_icmp_ge (tgt := 45) hx hb dX12_gainOf_13 (by decide) (fun c13 => ?_) (fun c13 => ?_)
      · have q14 : x12.toInt ≤ x2.toInt := ti_le c13
        refine lv_iload_n hx hb dX12_gainOf_45 rfl (lv_at hl 0 rfl) ?_
        exact tw_endi hx hb hr hlocks hK hT hS hQ (h_x1) dX12_gainOf_46
      · have q15 : x2.toInt < x12.toInt := ti_nle c13
        have h16 : iv 0 9 x2 := iv_ltL (y := x12) h_x2 h10 q15 (by decide)
        have h17 : iv 1 10 x12 := iv_gtL (y := x2) h10 h_x2 q15 (by decide)
        refine lv_iload_n hx hb dX12_gainOf_16 rfl (lv_at hl 0 rfl) ?_
        refine lv_iload_n hx hb dX12_gainOf_17 rfl (lv_at hl 3 rfl) ?_
        refine lv_iload hx hb dX12_gainOf_18 (lv_at hl 1 rfl) ?_
        refine tw_goi hS (md_runS (As := [.int a1, .int x2]) (rest := [.int x1]) hx hb hml hown hW hK hT hS.1 (t_X12_isOf l D cy tx base Z K N M3 R4 J5 hS.2.1 a1 h_a1 x2 h16) s_X12_322 ⟨rfl, rfl, ⟨Nat.le_of_ble_eq_true rfl, Nat.le_of_ble_eq_true rfl⟩, ⟨Nat.le_of_ble_eq_true rfl, Nat.le_of_ble_eq_true rfl⟩⟩ rfl hl.1 rfl (Nat.le_of_ble_eq_true rfl) dX12_gainOf_20) rfl rfl (fun x24 H locs M20 R21 J22 hS f18 g19 E23 => ?_)
        have h_x24 := E23
        refine lv_if_eq (tgt := 36) hx hb dX12_gainOf_23 (by decide) (fun c25 => ?_) (fun c25 => ?_)
        · have q26 : x24.toInt = 0 := ti_eq c25
          have h27 : iv 0 0 x24 := ⟨by have := (h_x24).1; have := ((iv_c (c := 0) (n := 0) (by decide))).1; omega, by have := (h_x24).2; have := ((iv_c (c := 0) (n := 0) (by decide))).2; omega⟩
          refine lv_iconst (v := 0) hx hb dX12_gainOf_36 (by decide) ?_
          refine tw_iadd (lo := (-2147483648)) (hi := 2147483647) hx hb h_x1 (iv_c (c := 0) (n := 0) (by decide)) ⟨by decide, by decide⟩ ⟨by decide, by decide⟩ dX12_gainOf_37 (fun x30 e29 h28 => ?_)
          have e29 : x30.toInt = x1.toInt + 0 := e29
          refine lv_istore_n (lv' := [(3, .int x30), (4, .int x2), (0, .ref (base + a0)), (1, .int a1), (2, .int a2)]) hx hb dX12_gainOf_38 rfl hl (by decide) rfl (fun ls hl => ?_)
          refine tw_iinc (lv' := fun x33 => [(4, .int x33), (3, .int x30), (0, .ref (base + a0)), (1, .int a1), (2, .int a2)]) (lo := 1) (hi := 10) hx hb dX12_gainOf_39 hl (k := 1) rfl h16 (by decide) ⟨by decide, by decide⟩ ⟨by decide, by decide⟩ (by decide) (fun _ => rfl) (fun x33 ls e32 h31 hl => ?_)
          refine lv_goto (tgt := 5) hx hb dX12_gainOf_42 (by decide) ?_
          have hm34 : 10 - x33.toInt < (n_3 : Int) := by
            have := (h_a1).1; have := (h_a1).2; have := (h_a2).1; have := (h_a2).2; have := (h16).1; have := (h16).2; have := (h31).1; have := (h31).2; omega
          exact ih_3 x30 x33 M20 R21 J22 H locs _ h28 (iv_mono h31 (by decide) (by decide)) hm34 hS (lv_sub hl [1, 0, 2, 3, 4] rfl)
        · have q35 : ¬ x24.toInt = 0 := ti_ne c25
          have h36 : iv 1 1 x24 := ⟨by have := (h_x24).1; have := ((iv_c (c := 0) (n := 0) (by decide))).1; have := ((iv_c (c := 0) (n := 0) (by decide))).2; omega, by have := (h_x24).2; have := ((iv_c (c := 0) (n := 0) (by decide))).1; have := ((iv_c (c := 0) (n := 0) (by decide))).2; omega⟩
          refine lv_aload_n hx hb dX12_gainOf_26 rfl (lv_at hl 2 rfl) ?_
          refine lv_iload hx hb dX12_gainOf_27 (lv_at hl 1 rfl) ?_
          refine lv_iload_n hx hb dX12_gainOf_29 rfl (lv_at hl 4 rfl) ?_
          refine tw_goi hS (md_runV (As := [.int x2, .int a2]) (rest := [.int x1]) hx hb hml hown hW hK hT hS.1 (t_X12_worthOf l D cy tx base Z K N M20 R21 J22 hS.2.1 a0 hz_a0 hk_a0 x2 h16 a2 h_a2) s_X12_330 ⟨rfl, rfl, ⟨Nat.le_of_ble_eq_true rfl, Nat.le_of_ble_eq_true rfl⟩, ⟨Nat.le_of_ble_eq_true rfl, Nat.le_of_ble_eq_true rfl⟩⟩ hz_a0 hk_a0 (by decide) rfl rfl hl.1 rfl (Nat.le_of_ble_eq_true rfl) dX12_gainOf_30) rfl rfl (fun x43 H locs M39 R40 J41 hS f37 g38 E42 => ?_)
          have h_x43 := E42
          refine lv_goto (tgt := 37) hx hb dX12_gainOf_33 (by decide) ?_
          refine lv_iadd hx hb dX12_gainOf_37 ?_
          refine tw_top (fun x45 => ?_)
          have h44 := iv_any x45
          refine lv_istore_n (lv' := [(3, .int x45), (4, .int x2), (0, .ref (base + a0)), (1, .int a1), (2, .int a2)]) hx hb dX12_gainOf_38 rfl hl (by decide) rfl (fun ls hl => ?_)
          refine tw_iinc (lv' := fun x48 => [(4, .int x48), (3, .int x45), (0, .ref (base + a0)), (1, .int a1), (2, .int a2)]) (lo := 1) (hi := 10) hx hb dX12_gainOf_39 hl (k := 1) rfl h16 (by decide) ⟨by decide, by decide⟩ ⟨by decide, by decide⟩ (by decide) (fun _ => rfl) (fun x48 ls e47 h46 hl => ?_)
          refine lv_goto (tgt := 5) hx hb dX12_gainOf_42 (by decide) ?_
          have hm49 : 10 - x48.toInt < (n_3 : Int) := by
            have := (h_a1).1; have := (h_a1).2; have := (h_a2).1; have := (h_a2).2; have := (h16).1; have := (h16).2; have := (h46).1; have := (h46).2; omega
          exact ih_3 x45 x48 M39 R40 J41 H locs _ h44 (iv_mono h46 (by decide) (by decide)) hm49 hS (lv_sub hl [1, 0, 2, 3, 4] rfl)
  have hm50 : 10 - (0 : Int32).toInt < (((11 : Nat) : Int) : Int) := by
    have := (h_a1).1; have := (h_a1).2; have := (h_a2).1; have := (h_a2).2; have : (0 : Int32).toInt = 0 := (by decide); omega
  exact W5_3 11 0 0 Ma Ra Ja s.heap [] _ (iv_mono (iv_c (c := 0) (n := 0) (by decide)) (by decide) (by decide)) (iv_mono (iv_c (c := 0) (n := 0) (by decide)) (by decide) (by decide)) hm50 hS (lv_sub hl [1, 0, 2, 3, 4] rfl)
def Lt_X12_isAgain : WL := []
def LRt_X12_isAgain : WL := []
set_option maxRecDepth 100000 in
set_option maxHeartbeats 4000000 in
theorem t_X12_isAgain (l : Launch) (D : va_G) (cy : Nat → ClassId) (tx : (Nat → Nat) × (Nat → Nat)) (base Z : Nat) (K N : Nat → Nat) (Ma : MT) (Ra : RT) (Ja : JT) (hTy : Ty Z K N Ma Ra) (a0 : Nat) (hz_a0 : a0 < Z) (hk_a0 : K a0 = 12) (a1 : Int32) (h_a1 : iv 1 300 a1) (a2 : Int32) (h_a2 : iv 0 300 a2) : Met l yX12_isAgain [Cond.code yX12_isAgain cX12_isAgain 4 (some .boolean)] (md_rm 1 0 0) (va_Pc [.ref (base + a0), .int a1, .int a2] (md_U D cy tx base Z K N Ma Ra Ja)) (mQi D cy tx base (fun r u => TP Z K N Lt_X12_isAgain LRt_X12_isAgain Ma Ra u ∧ (iv 0 1 r))) 0 0 (fun q => base ≤ q) := by
  refine tw_ofW (L := Lt_X12_isAgain) (LR := LRt_X12_isAgain) (by decide) (Nat.le_of_ble_eq_true rfl) hTy ?_
  intro p e s m args below meth c Q ls hx hb hr hlocks hown hml hW hK hT hS hQ hl
  have hl : lv_has ls 4 [(0, .ref (base + a0)), (1, .int a1), (2, .int a2)] := hl
  refine lv_iconst (v := 0) hx hb dX12_isAgain_0 (by decide) ?_
  refine lv_istore_n (lv' := [(3, .int 0), (0, .ref (base + a0)), (1, .int a1), (2, .int a2)]) hx hb dX12_isAgain_1 rfl hl (by decide) rfl (fun ls hl => ?_)
  have W2_2 : ∀ (n_2 : Nat) (x1 : Int32) (M2 : MT) (R3 : RT) (J4 : JT) (H : Heap) (locs : List Loc) (ls : Array Slot) (h_x1 : iv 0 10 x1) (hm_2 : 10 - x1.toInt < (n_2 : Int)) (hS : SB D cy base Z K N Lt_X12_isAgain LRt_X12_isAgain Ma Ra M2 R3 J4 s H locs) (hl : lv_has ls 4 [(3, .int x1), (0, .ref (base + a0)), (1, .int a1), (2, .int a2)]), W p l e (md_rm 1 0 0) s m args below meth c H locs 0 0 Q (F0 m 2 ls []) := by
    intro n_2
    induction n_2 with
    | zero =>
      intro x1 M2 R3 J4 H locs ls h_x1 hm_2 hS hl
      exfalso
      have := (h_a1).1; have := (h_a1).2; have := (h_a2).1; have := (h_a2).2; have := (h_x1).1; have := (h_x1).2; omega
    | succ n_2 ih_2 =>
      intro x1 M2 R3 J4 H locs ls h_x1 hm_2 hS hl
      have f5 := hS.2.2.1
      have g6 := hS.2.2.2
      refine lv_iload_n hx hb dX12_isAgain_2 rfl (lv_at hl 0 rfl) ?_
      refine lv_bipush (v := 10) hx hb dX12_isAgain_3 (by decide) ?_
      refine lv_icmp_ge (tgt := 41) hx hb dX12_isAgain_5 (by decide) (fun c7 => ?_) (fun c7 => ?_)
      · have q8 : 10 ≤ x1.toInt := ti_le c7
        have h9 : iv 10 10 x1 := iv_geL (y := 10) h_x1 (iv_c (c := 10) (n := 10) (by decide)) q8 (by decide)
        refine lv_iconst (v := 1) hx hb dX12_isAgain_41 (by decide) ?_
        exact tw_endz hx hb hr hlocks hK hT hS hQ rfl ((iv_mono (iv_c (c := 1) (n := 1) (by decide)) (by decide) (by decide))) dX12_isAgain_42
      · have q10 : x1.toInt < 10 := ti_nle c7
        have h11 : iv 0 9 x1 := iv_ltL (y := 10) h_x1 (iv_c (c := 10) (n := 10) (by decide)) q10 (by decide)
        refine lv_aload_n hx hb dX12_isAgain_8 rfl (lv_at hl 1 rfl) ?_
        refine tw_getr hx hb hW hown hK hS f_X12_93_11 hz_a0 hk_a0 (t := 14) (n := 3010) rfl dX12_isAgain_9 (fun b12 k13 hz_b12 hk_b12 hn_b12 => ?_)
        have hn_b12 := hn_b12 (by decide)
        refine lv_bipush (v := 10) hx hb dX12_isAgain_12 (by decide) ?_
        refine lv_iload_n hx hb dX12_isAgain_14 rfl (lv_at hl 2 rfl) ?_
        refine tw_icmul (k := 10) (lo := 10) (hi := 3000) hx hb (by decide) h_a1 (by decide) ⟨by decide, by decide⟩ ⟨by decide, by decide⟩ dX12_isAgain_15 (fun x16 e15 h14 => ?_)
        refine lv_iload_n hx hb dX12_isAgain_16 rfl (lv_at hl 0 rfl) ?_
        refine tw_iadd (lo := 10) (hi := 3009) hx hb h14 h11 ⟨by decide, by decide⟩ ⟨by decide, by decide⟩ dX12_isAgain_17 (fun x19 e18 h17 => ?_)
        refine tw_iald hx hb hK hS hz_b12 hk_b12 (Or.inl rfl) hn_b12 (lo := (-2147483648)) (hi := 2147483647) h17 ⟨by decide, by decide⟩ rg_u14 dX12_isAgain_18 (fun x22 k21 h20 => ?_)
        refine lv_aload_n hx hb dX12_isAgain_19 rfl (lv_at hl 1 rfl) ?_
        refine tw_getrk hx hb hW hown hK hS f_X12_93_11 hz_a0 hk_a0 (b := b12) k13 dX12_isAgain_20 ?_
        refine lv_bipush (v := 10) hx hb dX12_isAgain_23 (by decide) ?_
        refine lv_iload_n hx hb dX12_isAgain_25 rfl (lv_at hl 3 rfl) ?_
        refine tw_icmul (k := 10) (lo := 0) (hi := 3000) hx hb (by decide) h_a2 (by decide) ⟨by decide, by decide⟩ ⟨by decide, by decide⟩ dX12_isAgain_26 (fun x25 e24 h23 => ?_)
        refine lv_iload_n hx hb dX12_isAgain_27 rfl (lv_at hl 0 rfl) ?_
        refine tw_iadd (lo := 0) (hi := 3009) hx hb h23 h11 ⟨by decide, by decide⟩ ⟨by decide, by decide⟩ dX12_isAgain_28 (fun x28 e27 h26 => ?_)
        refine tw_iald hx hb hK hS hz_b12 hk_b12 (Or.inl rfl) hn_b12 (lo := (-2147483648)) (hi := 2147483647) h26 ⟨by decide, by decide⟩ rg_u14 dX12_isAgain_29 (fun x31 k30 h29 => ?_)
        refine lv_icmp_eq (tgt := 35) hx hb dX12_isAgain_30 (by decide) (fun c32 => ?_) (fun c32 => ?_)
        · have q33 : x22.toInt = x31.toInt := ti_eq c32
          refine tw_iinc (lv' := fun x36 => [(3, .int x36), (0, .ref (base + a0)), (1, .int a1), (2, .int a2)]) (lo := 1) (hi := 10) hx hb dX12_isAgain_35 hl (k := 0) rfl h11 (by decide) ⟨by decide, by decide⟩ ⟨by decide, by decide⟩ (by decide) (fun _ => rfl) (fun x36 ls e35 h34 hl => ?_)
          refine lv_goto (tgt := 2) hx hb dX12_isAgain_38 (by decide) ?_
          have hm37 : 10 - x36.toInt < (n_2 : Int) := by
            have := (h_a1).1; have := (h_a1).2; have := (h_a2).1; have := (h_a2).2; have := (h11).1; have := (h11).2; have := (h17).1; have := (h17).2; have := (h26).1; have := (h26).2; have := (h34).1; have := (h34).2; omega
          exact ih_2 x36 M2 R3 J4 H locs _ (iv_mono h34 (by decide) (by decide)) hm37 hS hl
        · have q38 : ¬ x22.toInt = x31.toInt := ti_ne c32
          refine lv_iconst (v := 0) hx hb dX12_isAgain_33 (by decide) ?_
          exact tw_endz hx hb hr hlocks hK hT hS hQ rfl ((iv_mono (iv_c (c := 0) (n := 0) (by decide)) (by decide) (by decide))) dX12_isAgain_34
  have hm39 : 10 - (0 : Int32).toInt < (((11 : Nat) : Int) : Int) := by
    have := (h_a1).1; have := (h_a1).2; have := (h_a2).1; have := (h_a2).2; have : (0 : Int32).toInt = 0 := (by decide); omega
  exact W2_2 11 0 Ma Ra Ja s.heap [] _ (iv_mono (iv_c (c := 0) (n := 0) (by decide)) (by decide) (by decide)) hm39 hS hl
def Lt_X12_isAhead : WL := []
def LRt_X12_isAhead : WL := []
set_option maxRecDepth 100000 in
set_option maxHeartbeats 4000000 in
theorem t_X12_isAhead (l : Launch) (D : va_G) (cy : Nat → ClassId) (tx : (Nat → Nat) × (Nat → Nat)) (base Z : Nat) (K N : Nat → Nat) (Ma : MT) (Ra : RT) (Ja : JT) (hTy : Ty Z K N Ma Ra) (a0 : Nat) (hz_a0 : a0 < Z) (hk_a0 : K a0 = 12) (rm : Int32) (k_rm : Ma a0 30 = rm) (h_rm : iv 0 6 rm) : Met l yX12_isAhead [Cond.code yX12_isAhead cX12_isAhead 2 (some .boolean)] (md_rm 1 0 0) (va_Pc [.ref (base + a0)] (md_U D cy tx base Z K N Ma Ra Ja)) (mQi D cy tx base (fun r u => TP Z K N Lt_X12_isAhead LRt_X12_isAhead Ma Ra u ∧ (iv 0 1 r))) 0 0 (fun q => base ≤ q) := by
  refine tw_ofW (L := Lt_X12_isAhead) (LR := LRt_X12_isAhead) (by decide) (Nat.le_of_ble_eq_true rfl) hTy ?_
  intro p e s m args below meth c Q ls hx hb hr hlocks hown hml hW hK hT hS hQ hl
  have hl : lv_has ls 2 [(0, .ref (base + a0))] := hl
  refine lv_iconst (v := 0) hx hb dX12_isAhead_0 (by decide) ?_
  refine lv_istore_n (lv' := [(1, .int 0), (0, .ref (base + a0))]) hx hb dX12_isAhead_1 rfl hl (by decide) rfl (fun ls hl => ?_)
  have W2_2 : ∀ (n_2 : Nat) (x1 : Int32) (M2 : MT) (R3 : RT) (J4 : JT) (H : Heap) (locs : List Loc) (ls : Array Slot) (h_x1 : iv 0 6 x1) (hm_2 : 6 - x1.toInt < (n_2 : Int)) (hS : SB D cy base Z K N Lt_X12_isAhead LRt_X12_isAhead Ma Ra M2 R3 J4 s H locs) (hl : lv_has ls 2 [(1, .int x1), (0, .ref (base + a0))]), W p l e (md_rm 1 0 0) s m args below meth c H locs 0 0 Q (F0 m 2 ls []) := by
    intro n_2
    induction n_2 with
    | zero =>
      intro x1 M2 R3 J4 H locs ls h_x1 hm_2 hS hl
      exfalso
      have := (h_rm).1; have := (h_rm).2; have := (h_x1).1; have := (h_x1).2; omega
    | succ n_2 ih_2 =>
      intro x1 M2 R3 J4 H locs ls h_x1 hm_2 hS hl
      have f5 := hS.2.2.1
      have g6 := hS.2.2.2
      refine lv_iload_n hx hb dX12_isAhead_2 rfl (lv_at hl 0 rfl) ?_
      refine lv_aload_n hx hb dX12_isAhead_3 rfl (lv_at hl 1 rfl) ?_
      have k7 : M2 a0 30 = rm := (Fr.kp (k := 30) f5 hk_a0 rfl).trans k_rm
      refine tw_getk hx hb hW hown hK hS f_X12_351_11 hz_a0 hk_a0 (v := rm) k7 dX12_isAhead_4 ?_
      refine lv_icmp_ge (tgt := 52) hx hb dX12_isAhead_7 (by decide) (fun c8 => ?_) (fun c8 => ?_)
      · have q9 : rm.toInt ≤ x1.toInt := ti_le c8
        refine lv_iconst (v := 0) hx hb dX12_isAhead_52 (by decide) ?_
        exact tw_endz hx hb hr hlocks hK hT hS hQ rfl ((iv_mono (iv_c (c := 0) (n := 0) (by decide)) (by decide) (by decide))) dX12_isAhead_53
      · have q10 : x1.toInt < rm.toInt := ti_nle c8
        have h11 : iv 0 5 x1 := iv_ltL (y := rm) h_x1 h_rm q10 (by decide)
        have h12 : iv 1 6 rm := iv_gtL (y := x1) h_rm h_x1 q10 (by decide)
        refine lv_aload_n hx hb dX12_isAhead_10 rfl (lv_at hl 1 rfl) ?_
        refine tw_getr hx hb hW hown hK hS f_X12_54_11 hz_a0 hk_a0 (t := 31) (n := 8) rfl dX12_isAhead_11 (fun b13 k14 hz_b13 hk_b13 hn_b13 => ?_)
        have hn_b13 := hn_b13 (by decide)
        refine lv_iload_n hx hb dX12_isAhead_14 rfl (lv_at hl 0 rfl) ?_
        refine tw_iald hx hb hK hS hz_b13 hk_b13 (Or.inr (by decide)) hn_b13 (lo := 0) (hi := 11) h11 ⟨by decide, by decide⟩ rg_u31 dX12_isAhead_15 (fun x17 k16 h15 => ?_)
        refine lv_aload_n hx hb dX12_isAhead_16 rfl (lv_at hl 1 rfl) ?_
        refine tw_getr hx hb hW hown hK hS f_X12_87_11 hz_a0 hk_a0 (t := 14) (n := 6) rfl dX12_isAhead_17 (fun b18 k19 hz_b18 hk_b18 hn_b18 => ?_)
        have hn_b18 := hn_b18 (by decide)
        refine lv_iload_n hx hb dX12_isAhead_20 rfl (lv_at hl 0 rfl) ?_
        refine tw_iald hx hb hK hS hz_b18 hk_b18 (Or.inl rfl) hn_b18 (lo := (-2147483648)) (hi := 2147483647) h11 ⟨by decide, by decide⟩ rg_u14 dX12_isAhead_21 (fun x22 k21 h20 => ?_)
        refine lv_icmp_eq (tgt := 46) hx hb dX12_isAhead_22 (by decide) (fun c23 => ?_) (fun c23 => ?_)
        · have q24 : x17.toInt = x22.toInt := ti_eq c23
          have h25 : iv 0 11 x22 := ⟨by have := (h15).1; have := (h20).1; omega, by have := (h15).2; have := (h20).2; omega⟩
          refine tw_iinc (lv' := fun x28 => [(1, .int x28), (0, .ref (base + a0))]) (lo := 1) (hi := 6) hx hb dX12_isAhead_46 hl (k := 0) rfl h11 (by decide) ⟨by decide, by decide⟩ ⟨by decide, by decide⟩ (by decide) (fun _ => rfl) (fun x28 ls e27 h26 hl => ?_)
          refine lv_goto (tgt := 2) hx hb dX12_isAhead_49 (by decide) ?_
          have hm29 : 6 - x28.toInt < (n_2 : Int) := by
            have := (h12).1; have := (h12).2; have := (h11).1; have := (h11).2; have := (h26).1; have := (h26).2; omega
          exact ih_2 x28 M2 R3 J4 H locs _ (iv_mono h26 (by decide) (by decide)) hm29 hS hl
        · have q30 : ¬ x17.toInt = x22.toInt := ti_ne c23
          refine lv_aload_n hx hb dX12_isAhead_25 rfl (lv_at hl 1 rfl) ?_
          refine tw_getrk hx hb hW hown hK hS f_X12_54_11 hz_a0 hk_a0 (b := b13) k14 dX12_isAhead_26 ?_
          refine lv_iload_n hx hb dX12_isAhead_29 rfl (lv_at hl 0 rfl) ?_
          refine tw_ialk hx hb hK hS hz_b13 hk_b13 (Or.inr (by decide)) hn_b13 h11 ⟨by decide, by decide⟩ (v := x17) k16 dX12_isAhead_30 ?_
          refine lv_aload_n hx hb dX12_isAhead_31 rfl (lv_at hl 1 rfl) ?_
          refine tw_getrk hx hb hW hown hK hS f_X12_87_11 hz_a0 hk_a0 (b := b18) k19 dX12_isAhead_32 ?_
          refine lv_iload_n hx hb dX12_isAhead_35 rfl (lv_at hl 0 rfl) ?_
          refine tw_ialk hx hb hK hS hz_b18 hk_b18 (Or.inl rfl) hn_b18 h11 ⟨by decide, by decide⟩ (v := x22) k21 dX12_isAhead_36 ?_
          refine lv_icmp_ge (tgt := 44) hx hb dX12_isAhead_37 (by decide) (fun c31 => ?_) (fun c31 => ?_)
          · have q32 : x22.toInt ≤ x17.toInt := ti_le c31
            have h33 : iv (-2147483648) 11 x22 := iv_leL (y := x17) h20 h15 q32 (by decide)
            refine lv_iconst (v := 0) hx hb dX12_isAhead_44 (by decide) ?_
            exact tw_endz hx hb hr hlocks hK hT hS hQ rfl ((iv_mono (iv_c (c := 0) (n := 0) (by decide)) (by decide) (by decide))) dX12_isAhead_45
          · have q34 : x17.toInt < x22.toInt := ti_nle c31
            have h35 : iv 1 2147483647 x22 := iv_gtL (y := x17) h20 h15 q34 (by decide)
            refine lv_iconst (v := 1) hx hb dX12_isAhead_40 (by decide) ?_
            refine lv_goto (tgt := 45) hx hb dX12_isAhead_41 (by decide) ?_
            exact tw_endz hx hb hr hlocks hK hT hS hQ rfl ((iv_mono (iv_c (c := 1) (n := 1) (by decide)) (by decide) (by decide))) dX12_isAhead_45
  have hm36 : 6 - (0 : Int32).toInt < (((7 : Nat) : Int) : Int) := by
    have := (h_rm).1; have := (h_rm).2; have : (0 : Int32).toInt = 0 := (by decide); omega
  exact W2_2 7 0 Ma Ra Ja s.heap [] _ (iv_mono (iv_c (c := 0) (n := 0) (by decide)) (by decide) (by decide)) hm36 hS hl
def Lt_X12_isLetter : WL := []
def LRt_X12_isLetter : WL := []
set_option maxRecDepth 100000 in
set_option maxHeartbeats 4000000 in
theorem t_X12_isLetter (l : Launch) (D : va_G) (cy : Nat → ClassId) (tx : (Nat → Nat) × (Nat → Nat)) (base Z : Nat) (K N : Nat → Nat) (Ma : MT) (Ra : RT) (Ja : JT) (hTy : Ty Z K N Ma Ra) (a0 : Nat) (hz_a0 : a0 < Z) (hk_a0 : K a0 = 12) (a1 : Int32) (h_a1 : iv 0 400 a1) : Met l yX12_isLetter [Cond.code yX12_isLetter cX12_isLetter 2 (some .boolean)] (md_rm 1 0 0) (va_Pc [.ref (base + a0), .int a1] (md_U D cy tx base Z K N Ma Ra Ja)) (mQi D cy tx base (fun r u => TP Z K N Lt_X12_isLetter LRt_X12_isLetter Ma Ra u ∧ (iv 0 1 r))) 0 0 (fun q => base ≤ q) := by
  refine tw_ofW (L := Lt_X12_isLetter) (LR := LRt_X12_isLetter) (by decide) (Nat.le_of_ble_eq_true rfl) hTy ?_
  intro p e s m args below meth c Q ls hx hb hr hlocks hown hml hW hK hT hS hQ hl
  have hl : lv_has ls 2 [(0, .ref (base + a0)), (1, .int a1)] := hl
  refine lv_iload_n hx hb dX12_isLetter_0 rfl (lv_at hl 1 rfl) ?_
  refine lv_aload_n hx hb dX12_isLetter_1 rfl (lv_at hl 0 rfl) ?_
  refine tw_geti hx hb hW hown hK hS f_X12_116_11 hz_a0 hk_a0 (lo := 0) (hi := 400) rfl dX12_isLetter_2 (fun x3 k2 h1 => ?_)
  refine lv_icmp_ge (tgt := 34) hx hb dX12_isLetter_5 (by decide) (fun c4 => ?_) (fun c4 => ?_)
  · have q5 : x3.toInt ≤ a1.toInt := ti_le c4
    refine lv_iconst (v := 0) hx hb dX12_isLetter_34 (by decide) ?_
    exact tw_endz hx hb hr hlocks hK hT hS hQ rfl ((iv_mono (iv_c (c := 0) (n := 0) (by decide)) (by decide) (by decide))) dX12_isLetter_35
  · have q6 : a1.toInt < x3.toInt := ti_nle c4
    have h7 : iv 0 399 a1 := iv_ltL (y := x3) h_a1 h1 q6 (by decide)
    have h8 : iv 1 400 x3 := iv_gtL (y := a1) h1 h_a1 q6 (by decide)
    refine lv_aload_n hx hb dX12_isLetter_8 rfl (lv_at hl 0 rfl) ?_
    refine tw_getr hx hb hW hown hK hS f_X12_7_11 hz_a0 hk_a0 (t := 13) (n := 400) rfl dX12_isLetter_9 (fun b9 k10 hz_b9 hk_b9 hn_b9 => ?_)
    have hn_b9 := hn_b9 (by decide)
    refine lv_iload_n hx hb dX12_isLetter_12 rfl (lv_at hl 1 rfl) ?_
    refine tw_bald hx hb hK hS hz_b9 hk_b9 hn_b9 h7 ⟨by decide, by decide⟩ dX12_isLetter_13 (fun x13 k12 => ?_)
    have h11 := iv_any x13
    refine lv_bipush (v := 97) hx hb dX12_isLetter_14 (by decide) ?_
    refine lv_icmp_lt (tgt := 34) hx hb dX12_isLetter_16 (by decide) (fun c14 => ?_) (fun c14 => ?_)
    · have q15 : x13.toInt < 97 := ti_lt c14
      have h16 : iv (-2147483648) 96 x13 := iv_ltL (y := 97) h11 (iv_c (c := 97) (n := 97) (by decide)) q15 (by decide)
      refine lv_iconst (v := 0) hx hb dX12_isLetter_34 (by decide) ?_
      exact tw_endz hx hb hr hlocks hK hT hS hQ rfl ((iv_mono (iv_c (c := 0) (n := 0) (by decide)) (by decide) (by decide))) dX12_isLetter_35
    · have q17 : 97 ≤ x13.toInt := ti_nlt c14
      have h18 : iv 97 2147483647 x13 := iv_geL (y := 97) h11 (iv_c (c := 97) (n := 97) (by decide)) q17 (by decide)
      refine lv_aload_n hx hb dX12_isLetter_19 rfl (lv_at hl 0 rfl) ?_
      refine tw_getrk hx hb hW hown hK hS f_X12_7_11 hz_a0 hk_a0 (b := b9) k10 dX12_isLetter_20 ?_
      refine lv_iload_n hx hb dX12_isLetter_23 rfl (lv_at hl 1 rfl) ?_
      refine tw_bald hx hb hK hS hz_b9 hk_b9 hn_b9 h7 ⟨by decide, by decide⟩ dX12_isLetter_24 (fun x21 k20 => ?_)
      have h19 := iv_any x21
      refine lv_bipush (v := 122) hx hb dX12_isLetter_25 (by decide) ?_
      refine lv_icmp_gt (tgt := 34) hx hb dX12_isLetter_27 (by decide) (fun c22 => ?_) (fun c22 => ?_)
      · have q23 : 122 < x21.toInt := ti_lt c22
        have h24 : iv 123 2147483647 x21 := iv_gtL (y := 122) h19 (iv_c (c := 122) (n := 122) (by decide)) q23 (by decide)
        refine lv_iconst (v := 0) hx hb dX12_isLetter_34 (by decide) ?_
        exact tw_endz hx hb hr hlocks hK hT hS hQ rfl ((iv_mono (iv_c (c := 0) (n := 0) (by decide)) (by decide) (by decide))) dX12_isLetter_35
      · have q25 : x21.toInt ≤ 122 := ti_nlt c22
        have h26 : iv (-2147483648) 122 x21 := iv_leL (y := 122) h19 (iv_c (c := 122) (n := 122) (by decide)) q25 (by decide)
        refine lv_iconst (v := 1) hx hb dX12_isLetter_30 (by decide) ?_
        refine lv_goto (tgt := 35) hx hb dX12_isLetter_31 (by decide) ?_
        exact tw_endz hx hb hr hlocks hK hT hS hQ rfl ((iv_mono (iv_c (c := 1) (n := 1) (by decide)) (by decide) (by decide))) dX12_isLetter_35
def Lt_X12_isPoint : WL := []
def LRt_X12_isPoint : WL := []
set_option maxRecDepth 100000 in
set_option maxHeartbeats 4000000 in
theorem t_X12_isPoint (l : Launch) (D : va_G) (cy : Nat → ClassId) (tx : (Nat → Nat) × (Nat → Nat)) (base Z : Nat) (K N : Nat → Nat) (Ma : MT) (Ra : RT) (Ja : JT) (hTy : Ty Z K N Ma Ra) (a0 : Nat) (hz_a0 : a0 < Z) (hk_a0 : K a0 = 12) (a1 : Int32) (h_a1 : iv (-2147483648) 2147483647 a1) : Met l yX12_isPoint [Cond.code yX12_isPoint cX12_isPoint 2 (some .boolean)] (md_rm 1 0 0) (va_Pc [.ref (base + a0), .int a1] (md_U D cy tx base Z K N Ma Ra Ja)) (mQi D cy tx base (fun r u => TP Z K N Lt_X12_isPoint LRt_X12_isPoint Ma Ra u ∧ (iv 0 1 r ∧ (¬ r = 0 → iv 0 11 a1)))) 0 0 (fun q => base ≤ q) := by
  refine tw_ofW (L := Lt_X12_isPoint) (LR := LRt_X12_isPoint) (by decide) (Nat.le_of_ble_eq_true rfl) hTy ?_
  intro p e s m args below meth c Q ls hx hb hr hlocks hown hml hW hK hT hS hQ hl
  have hl : lv_has ls 2 [(0, .ref (base + a0)), (1, .int a1)] := hl
  refine lv_iload_n hx hb dX12_isPoint_0 rfl (lv_at hl 1 rfl) ?_
  refine lv_if_lt (tgt := 18) hx hb dX12_isPoint_1 (by decide) (fun c1 => ?_) (fun c1 => ?_)
  · have q2 : a1.toInt < 0 := ti_lt c1
    have h3 : iv (-2147483648) (-1) a1 := iv_ltL (y := 0) h_a1 (iv_c (c := 0) (n := 0) (by decide)) q2 (by decide)
    refine lv_iconst (v := 0) hx hb dX12_isPoint_18 (by decide) ?_
    exact tw_endz hx hb hr hlocks hK hT hS hQ rfl (⟨(iv_mono (iv_c (c := 0) (n := 0) (by decide)) (by decide) (by decide)), (fun h => absurd rfl h)⟩) dX12_isPoint_19
  · have q4 : 0 ≤ a1.toInt := ti_nlt c1
    have h5 : iv 0 2147483647 a1 := iv_geL (y := 0) h_a1 (iv_c (c := 0) (n := 0) (by decide)) q4 (by decide)
    refine lv_iload_n hx hb dX12_isPoint_4 rfl (lv_at hl 1 rfl) ?_
    refine lv_aload_n hx hb dX12_isPoint_5 rfl (lv_at hl 0 rfl) ?_
    refine tw_getr hx hb hW hown hK hS f_X12_45_11 hz_a0 hk_a0 (t := 23) (n := 226) rfl dX12_isPoint_6 (fun b6 k7 hz_b6 hk_b6 hn_b6 => ?_)
    have hn_b6 := hn_b6 (by decide)
    refine lv_iconst (v := 1) hx hb dX12_isPoint_9 (by decide) ?_
    refine tw_iald hx hb hK hS hz_b6 hk_b6 (Or.inr (by decide)) hn_b6 (lo := 0) (hi := 12) (iv_c (c := 1) (n := 1) (by decide)) ⟨by decide, by decide⟩ (rg_c (k0 := 1) rfl rfl rfl) dX12_isPoint_10 (fun x10 k9 h8 => ?_)
    refine lv_icmp_ge (tgt := 18) hx hb dX12_isPoint_11 (by decide) (fun c11 => ?_) (fun c11 => ?_)
    · have q12 : x10.toInt ≤ a1.toInt := ti_le c11
      refine lv_iconst (v := 0) hx hb dX12_isPoint_18 (by decide) ?_
      exact tw_endz hx hb hr hlocks hK hT hS hQ rfl (⟨(iv_mono (iv_c (c := 0) (n := 0) (by decide)) (by decide) (by decide)), (fun h => absurd rfl h)⟩) dX12_isPoint_19
    · have q13 : a1.toInt < x10.toInt := ti_nle c11
      have h14 : iv 0 11 a1 := iv_ltL (y := x10) h5 h8 q13 (by decide)
      have h15 : iv 1 12 x10 := iv_gtL (y := a1) h8 h5 q13 (by decide)
      refine lv_iconst (v := 1) hx hb dX12_isPoint_14 (by decide) ?_
      refine lv_goto (tgt := 19) hx hb dX12_isPoint_15 (by decide) ?_
      exact tw_endz hx hb hr hlocks hK hT hS hQ rfl (⟨(iv_mono (iv_c (c := 1) (n := 1) (by decide)) (by decide) (by decide)), (fun _ => h14)⟩) dX12_isPoint_19
def Lt_X12_isPresent : WL := []
def LRt_X12_isPresent : WL := []
set_option maxRecDepth 100000 in
set_option maxHeartbeats 4000000 in
theorem t_X12_isPresent (l : Launch) (D : va_G) (cy : Nat → ClassId) (tx : (Nat → Nat) × (Nat → Nat)) (base Z : Nat) (K N : Nat → Nat) (Ma : MT) (Ra : RT) (Ja : JT) (hTy : Ty Z K N Ma Ra) (a0 : Nat) (hz_a0 : a0 < Z) (hk_a0 : K a0 = 12) (a1 : Int32) (h_a1 : iv (-2147483648) 2147483647 a1) : Met l yX12_isPresent [Cond.code yX12_isPresent cX12_isPresent 2 (some .boolean)] (md_rm 2 0 0) (va_Pc [.ref (base + a0), .int a1] (md_U D cy tx base Z K N Ma Ra Ja)) (mQi D cy tx base (fun r u => TP Z K N Lt_X12_isPresent LRt_X12_isPresent Ma Ra u ∧ (iv 0 1 r ∧ (¬ r = 0 → iv 0 9 a1)))) 0 0 (fun q => base ≤ q) := by
  refine tw_ofW (L := Lt_X12_isPresent) (LR := LRt_X12_isPresent) (by decide) (Nat.le_of_ble_eq_true rfl) hTy ?_
  intro p e s m args below meth c Q ls hx hb hr hlocks hown hml hW hK hT hS hQ hl
  have hl : lv_has ls 2 [(0, .ref (base + a0)), (1, .int a1)] := hl
  refine lv_aload_n hx hb dX12_isPresent_0 rfl (lv_at hl 0 rfl) ?_
  refine lv_iload_n hx hb dX12_isPresent_1 rfl (lv_at hl 1 rfl) ?_
  refine tw_goi hS (md_runV (As := [.int a1]) (rest := []) hx hb hml hown hW hK hT hS.1 (t_X12_isMember l D cy tx base Z K N Ma Ra Ja hS.2.1 a0 hz_a0 hk_a0 a1 h_a1) s_X12_319 ⟨rfl, rfl, ⟨Nat.le_of_ble_eq_true rfl, Nat.le_of_ble_eq_true rfl⟩, ⟨Nat.le_of_ble_eq_true rfl, Nat.le_of_ble_eq_true rfl⟩⟩ hz_a0 hk_a0 (by decide) rfl rfl hl.1 rfl (Nat.le_of_ble_eq_true rfl) dX12_isPresent_2) rfl rfl (fun x7 H locs M3 R4 J5 hS f1 g2 E6 => ?_)
  obtain ⟨h_x7, p8⟩ := E6
  refine lv_if_eq (tgt := 25) hx hb dX12_isPresent_5 (by decide) (fun c9 => ?_) (fun c9 => ?_)
  · have q10 : x7.toInt = 0 := ti_eq c9
    have h11 : iv 0 0 x7 := ⟨by have := (h_x7).1; have := ((iv_c (c := 0) (n := 0) (by decide))).1; omega, by have := (h_x7).2; have := ((iv_c (c := 0) (n := 0) (by decide))).2; omega⟩
    refine lv_iconst (v := 0) hx hb dX12_isPresent_25 (by decide) ?_
    exact tw_endz hx hb hr hlocks hK hT hS hQ rfl (⟨(iv_mono (iv_c (c := 0) (n := 0) (by decide)) (by decide) (by decide)), (fun h => absurd rfl h)⟩) dX12_isPresent_26
  · have q12 : ¬ x7.toInt = 0 := ti_ne c9
    have h13 : iv 1 1 x7 := ⟨by have := (h_x7).1; have := ((iv_c (c := 0) (n := 0) (by decide))).1; have := ((iv_c (c := 0) (n := 0) (by decide))).2; omega, by have := (h_x7).2; have := ((iv_c (c := 0) (n := 0) (by decide))).1; have := ((iv_c (c := 0) (n := 0) (by decide))).2; omega⟩
    have h14 : iv 0 9 a1 := ⟨by have := (p8 c9).1; have := (h_a1).1; omega, by have := (p8 c9).2; have := (h_a1).2; omega⟩
    refine lv_aload_n hx hb dX12_isPresent_8 rfl (lv_at hl 0 rfl) ?_
    refine tw_getr hx hb hW hown hK hS f_X12_45_11 hz_a0 hk_a0 (t := 23) (n := 226) rfl dX12_isPresent_9 (fun b15 k16 hz_b15 hk_b15 hn_b15 => ?_)
    have hn_b15 := hn_b15 (by decide)
    refine lv_iconst (v := 2) hx hb dX12_isPresent_12 (by decide) ?_
    refine tw_iald hx hb hK hS hz_b15 hk_b15 (Or.inr (by decide)) hn_b15 (lo := (-2147483648)) (hi := 2147483647) (iv_c (c := 2) (n := 2) (by decide)) ⟨by decide, by decide⟩ (rg_c (k0 := 2) rfl rfl rfl) dX12_isPresent_13 (fun x19 k18 h17 => ?_)
    refine lv_iload_n hx hb dX12_isPresent_14 rfl (lv_at hl 1 rfl) ?_
    refine tw_goi hS (md_runS (As := [.int x19, .int a1]) (rest := []) hx hb hml hown hW hK hT hS.1 (t_X12_isOf l D cy tx base Z K N M3 R4 J5 hS.2.1 x19 h17 a1 h14) s_X12_322 ⟨rfl, rfl, ⟨Nat.le_of_ble_eq_true rfl, Nat.le_of_ble_eq_true rfl⟩, ⟨Nat.le_of_ble_eq_true rfl, Nat.le_of_ble_eq_true rfl⟩⟩ rfl hl.1 rfl (Nat.le_of_ble_eq_true rfl) dX12_isPresent_15) rfl rfl (fun x26 H locs M22 R23 J24 hS f20 g21 E25 => ?_)
    have h_x26 := E25
    refine lv_if_eq (tgt := 25) hx hb dX12_isPresent_18 (by decide) (fun c27 => ?_) (fun c27 => ?_)
    · have q28 : x26.toInt = 0 := ti_eq c27
      have h29 : iv 0 0 x26 := ⟨by have := (h_x26).1; have := ((iv_c (c := 0) (n := 0) (by decide))).1; omega, by have := (h_x26).2; have := ((iv_c (c := 0) (n := 0) (by decide))).2; omega⟩
      refine lv_iconst (v := 0) hx hb dX12_isPresent_25 (by decide) ?_
      exact tw_endz hx hb hr hlocks hK hT hS hQ rfl (⟨(iv_mono (iv_c (c := 0) (n := 0) (by decide)) (by decide) (by decide)), (fun h => absurd rfl h)⟩) dX12_isPresent_26
    · have q30 : ¬ x26.toInt = 0 := ti_ne c27
      have h31 : iv 1 1 x26 := ⟨by have := (h_x26).1; have := ((iv_c (c := 0) (n := 0) (by decide))).1; have := ((iv_c (c := 0) (n := 0) (by decide))).2; omega, by have := (h_x26).2; have := ((iv_c (c := 0) (n := 0) (by decide))).1; have := ((iv_c (c := 0) (n := 0) (by decide))).2; omega⟩
      refine lv_iconst (v := 1) hx hb dX12_isPresent_21 (by decide) ?_
      refine lv_goto (tgt := 26) hx hb dX12_isPresent_22 (by decide) ?_
      exact tw_endz hx hb hr hlocks hK hT hS hQ rfl (⟨(iv_mono (iv_c (c := 1) (n := 1) (by decide)) (by decide) (by decide)), (fun _ => h14)⟩) dX12_isPresent_26
def Lt_X12_isRow : WL := [(33, 0, 2000000)]
def LRt_X12_isRow : WL := []
set_option maxRecDepth 100000 in
set_option maxHeartbeats 4000000 in
theorem t_X12_isRow (l : Launch) (D : va_G) (cy : Nat → ClassId) (tx : (Nat → Nat) × (Nat → Nat)) (base Z : Nat) (K N : Nat → Nat) (Ma : MT) (Ra : RT) (Ja : JT) (hTy : Ty Z K N Ma Ra) (a0 : Nat) (hz_a0 : a0 < Z) (hk_a0 : K a0 = 12) (a1 : Int32) (h_a1 : iv 0 2147483647 a1) (a2 : Int32) (h_a2 : iv 1 6 a2) : Met l yX12_isRow [Cond.code yX12_isRow cX12_isRow 6 (some .boolean)] (md_rm 1 0 0) (va_Pc [.ref (base + a0), .int a1, .int a2] (md_U D cy tx base Z K N Ma Ra Ja)) (mQi D cy tx base (fun r u => TP Z K N Lt_X12_isRow LRt_X12_isRow Ma Ra u ∧ (iv 0 1 r))) 0 0 (fun q => base ≤ q) := by
  refine tw_ofW (L := Lt_X12_isRow) (LR := LRt_X12_isRow) (by decide) (Nat.le_of_ble_eq_true rfl) hTy ?_
  intro p e s m args below meth c Q ls hx hb hr hlocks hown hml hW hK hT hS hQ hl
  have hl : lv_has ls 6 [(0, .ref (base + a0)), (1, .int a1), (2, .int a2)] := hl
  refine lv_iload_n hx hb dX12_isRow_0 rfl (lv_at hl 1 rfl) ?_
  refine lv_istore_n (lv' := [(3, .int a1), (0, .ref (base + a0)), (1, .int a1), (2, .int a2)]) hx hb dX12_isRow_1 rfl hl (by decide) rfl (fun ls hl => ?_)
  refine lv_iconst (v := 0) hx hb dX12_isRow_2 (by decide) ?_
  refine lv_istore (lv' := [(4, .int 0), (3, .int a1), (0, .ref (base + a0)), (1, .int a1), (2, .int a2)]) hx hb dX12_isRow_3 hl (by decide) rfl (fun ls hl => ?_)
  refine lv_iload_n hx hb dX12_isRow_5 rfl (lv_at hl 4 rfl) ?_
  refine lv_iconst (v := 1) hx hb dX12_isRow_6 (by decide) ?_
  refine tw_isub (lo := 0) (hi := 5) hx hb h_a2 (iv_c (c := 1) (n := 1) (by decide)) ⟨by decide, by decide⟩ ⟨by decide, by decide⟩ dX12_isRow_7 (fun x3 e2 h1 => ?_)
  have e2 : x3.toInt = a2.toInt - 1 := e2
  refine lv_istore (lv' := [(5, .int x3), (4, .int 0), (3, .int a1), (0, .ref (base + a0)), (1, .int a1), (2, .int a2)]) hx hb dX12_isRow_8 hl (by decide) rfl (fun ls hl => ?_)
  have W10_7 : ∀ (n_7 : Nat) (x4 : Int32) (x5 : Int32) (x6 : Int32) (M7 : MT) (R8 : RT) (J9 : JT) (H : Heap) (locs : List Loc) (ls : Array Slot) (h_x4 : iv 0 2147483647 x4) (h_x5 : iv (-2147483648) 2147483647 x5) (h_x6 : iv (-1) 5 x6) (hm_7 : x6.toInt - (-1) < (n_7 : Int)) (hS : SB D cy base Z K N Lt_X12_isRow LRt_X12_isRow Ma Ra M7 R8 J9 s H locs) (hl : lv_has ls 6 [(3, .int x4), (4, .int x5), (5, .int x6), (0, .ref (base + a0)), (1, .int a1), (2, .int a2)]), W p l e (md_rm 1 0 0) s m args below meth c H locs 0 0 Q (F0 m 10 ls []) := by
    intro n_7
    induction n_7 with
    | zero =>
      intro x4 x5 x6 M7 R8 J9 H locs ls h_x4 h_x5 h_x6 hm_7 hS hl
      exfalso
      have := (h_a1).1; have := (h_a1).2; have := (h_a2).1; have := (h_a2).2; have := (h_x6).1; have := (h_x6).2; omega
    | succ n_7 ih_7 =>
      intro x4 x5 x6 M7 R8 J9 H locs ls h_x4 h_x5 h_x6 hm_7 hS hl
      have f10 := hS.2.2.1
      have g11 := hS.2.2.2
      refine lv_iload hx hb dX12_isRow_10 (lv_at hl 2 rfl) ?_
      refine lv_if_lt (tgt := 49) hx hb dX12_isRow_12 (by decide) (fun c12 => ?_) (fun c12 => ?_)
      · have q13 : x6.toInt < 0 := ti_lt c12
        have h14 : iv (-1) (-1) x6 := iv_ltL (y := 0) h_x6 (iv_c (c := 0) (n := 0) (by decide)) q13 (by decide)
        refine lv_iload hx hb dX12_isRow_49 (lv_at hl 1 rfl) ?_
        refine lv_iconst (v := 1) hx hb dX12_isRow_51 (by decide) ?_
        refine lv_iload_n hx hb dX12_isRow_52 rfl (lv_at hl 5 rfl) ?_
        refine lv_ishl hx hb dX12_isRow_53 ?_
        refine tw_top (fun x16 => ?_)
        have h15 := iv_any x16
        refine lv_iconst (v := 1) hx hb dX12_isRow_54 (by decide) ?_
        refine lv_isub hx hb dX12_isRow_55 ?_
        refine tw_top (fun x18 => ?_)
        have h17 := iv_any x18
        refine lv_icmp_ne (tgt := 63) hx hb dX12_isRow_56 (by decide) (fun c19 => ?_) (fun c19 => ?_)
        · have q20 : ¬ x5.toInt = x18.toInt := ti_ne c19
          refine lv_iconst (v := 0) hx hb dX12_isRow_63 (by decide) ?_
          exact tw_endz hx hb hr hlocks hK hT hS hQ rfl ((iv_mono (iv_c (c := 0) (n := 0) (by decide)) (by decide) (by decide))) dX12_isRow_64
        · have q21 : x5.toInt = x18.toInt := ti_eq c19
          refine lv_iconst (v := 1) hx hb dX12_isRow_59 (by decide) ?_
          refine lv_goto (tgt := 64) hx hb dX12_isRow_60 (by decide) ?_
          exact tw_endz hx hb hr hlocks hK hT hS hQ rfl ((iv_mono (iv_c (c := 1) (n := 1) (by decide)) (by decide) (by decide))) dX12_isRow_64
      · have q22 : 0 ≤ x6.toInt := ti_nlt c12
        have h23 : iv 0 5 x6 := iv_geL (y := 0) h_x6 (iv_c (c := 0) (n := 0) (by decide)) q22 (by decide)
        refine lv_aload_n hx hb dX12_isRow_15 rfl (lv_at hl 3 rfl) ?_
        refine tw_getr hx hb hW hown hK hS f_X12_90_11 hz_a0 hk_a0 (t := 33) (n := 6) rfl dX12_isRow_16 (fun b24 k25 hz_b24 hk_b24 hn_b24 => ?_)
        have hn_b24 := hn_b24 (by decide)
        refine lv_iload hx hb dX12_isRow_19 (lv_at hl 2 rfl) ?_
        refine lv_iload_n hx hb dX12_isRow_21 rfl (lv_at hl 0 rfl) ?_
        refine lv_iload_n hx hb dX12_isRow_22 rfl (lv_at hl 5 rfl) ?_
        refine tw_irem (lo := 0) (hi := 5) hx hb h_x4 h_a2 ⟨by decide, by decide⟩ ⟨by decide, by decide⟩ dX12_isRow_23 (fun x28 e27 h26 => ?_)
        refine tw_iast hx hb hK hS hz_b24 hk_b24 (Or.inr (by decide)) hn_b24 h23 ⟨by decide, by decide⟩ h26 (rg_s33 ⟨by decide, by decide⟩) (jl := 0) (jh := 1999999) ⟨by decide, by decide⟩ rfl dX12_isRow_24 (fun H locs M31 hS k29 f30 => ?_)
        refine lv_iload_n hx hb dX12_isRow_25 rfl (lv_at hl 0 rfl) ?_
        refine lv_iload_n hx hb dX12_isRow_26 rfl (lv_at hl 5 rfl) ?_
        refine tw_idiv (lo := 0) (hi := 2147483647) hx hb h_x4 h_a2 ⟨by decide, by decide⟩ ⟨by decide, by decide⟩ dX12_isRow_27 (fun x34 e33 h32 => ?_)
        refine lv_istore_n (lv' := [(3, .int x34), (4, .int x5), (5, .int x6), (0, .ref (base + a0)), (1, .int a1), (2, .int a2)]) hx hb dX12_isRow_28 rfl hl (by decide) rfl (fun ls hl => ?_)
        refine lv_iload hx hb dX12_isRow_29 (lv_at hl 1 rfl) ?_
        refine lv_iconst (v := 1) hx hb dX12_isRow_31 (by decide) ?_
        refine lv_aload_n hx hb dX12_isRow_32 rfl (lv_at hl 3 rfl) ?_
        refine tw_getrk hx hb hW hown hK hS f_X12_90_11 hz_a0 hk_a0 (b := b24) k25 dX12_isRow_33 ?_
        refine lv_iload hx hb dX12_isRow_36 (lv_at hl 2 rfl) ?_
        refine tw_ialk hx hb hK hS hz_b24 hk_b24 (Or.inr (by decide)) hn_b24 h23 ⟨by decide, by decide⟩ (v := x28) k29 dX12_isRow_38 ?_
        refine lv_ishl hx hb dX12_isRow_39 ?_
        refine tw_top (fun x36 => ?_)
        have h35 := iv_any x36
        refine lv_ior hx hb dX12_isRow_40 ?_
        refine tw_top (fun x38 => ?_)
        have h37 := iv_any x38
        refine lv_istore (lv' := [(4, .int x38), (3, .int x34), (5, .int x6), (0, .ref (base + a0)), (1, .int a1), (2, .int a2)]) hx hb dX12_isRow_41 hl (by decide) rfl (fun ls hl => ?_)
        refine tw_iinc (lv' := fun x41 => [(5, .int x41), (4, .int x38), (3, .int x34), (0, .ref (base + a0)), (1, .int a1), (2, .int a2)]) (lo := (-1)) (hi := 4) hx hb dX12_isRow_43 hl (k := 2) rfl h23 (by decide) ⟨by decide, by decide⟩ ⟨by decide, by decide⟩ (by decide) (fun _ => rfl) (fun x41 ls e40 h39 hl => ?_)
        refine lv_goto (tgt := 10) hx hb dX12_isRow_46 (by decide) ?_
        have hm42 : x41.toInt - (-1) < (n_7 : Int) := by
          have := (h_a1).1; have := (h_a1).2; have := (h_a2).1; have := (h_a2).2; have := (h39).1; have := (h39).2; have := (h23).1; have := (h23).2; omega
        exact ih_7 x34 x38 x41 M31 R8 J9 H locs _ h32 h37 (iv_mono h39 (by decide) (by decide)) hm42 hS (lv_sub hl [2, 1, 0, 3, 4, 5] rfl)
  have hm43 : x3.toInt - (-1) < (((7 : Nat) : Int) : Int) := by
    have := (h_a1).1; have := (h_a1).2; have := (h_a2).1; have := (h_a2).2; have := (h1).1; have := (h1).2; omega
  exact W10_7 7 a1 0 x3 Ma Ra Ja s.heap [] _ h_a1 (iv_mono (iv_c (c := 0) (n := 0) (by decide)) (by decide) (by decide)) (iv_mono h1 (by decide) (by decide)) hm43 hS (lv_sub hl [2, 1, 0, 3, 4, 5] rfl)
def Lt_X12_keepsDay : WL := [(14, 0, 2000000)]
def LRt_X12_keepsDay : WL := []
set_option maxRecDepth 100000 in
set_option maxHeartbeats 4000000 in
theorem t_X12_keepsDay (l : Launch) (D : va_G) (cy : Nat → ClassId) (tx : (Nat → Nat) × (Nat → Nat)) (base Z : Nat) (K N : Nat → Nat) (Ma : MT) (Ra : RT) (Ja : JT) (hTy : Ty Z K N Ma Ra) (a0 : Nat) (hz_a0 : a0 < Z) (hk_a0 : K a0 = 12) (a1 : Int32) (h_a1 : iv 0 300 a1) : Met l yX12_keepsDay [Cond.code yX12_keepsDay cX12_keepsDay 3 none] (md_rm 1 0 0) (va_Pc [.ref (base + a0), .int a1] (md_U D cy tx base Z K N Ma Ra Ja)) (mQv D cy tx base (fun u => TP Z K N Lt_X12_keepsDay LRt_X12_keepsDay Ma Ra u ∧ (True))) 0 0 (fun q => base ≤ q) := by
  refine tw_ofW (L := Lt_X12_keepsDay) (LR := LRt_X12_keepsDay) (by decide) (Nat.le_of_ble_eq_true rfl) hTy ?_
  intro p e s m args below meth c Q ls hx hb hr hlocks hown hml hW hK hT hS hQ hl
  have hl : lv_has ls 3 [(0, .ref (base + a0)), (1, .int a1)] := hl
  refine lv_iconst (v := 0) hx hb dX12_keepsDay_0 (by decide) ?_
  refine lv_istore_n (lv' := [(2, .int 0), (0, .ref (base + a0)), (1, .int a1)]) hx hb dX12_keepsDay_1 rfl hl (by decide) rfl (fun ls hl => ?_)
  have W2_2 : ∀ (n_2 : Nat) (x1 : Int32) (M2 : MT) (R3 : RT) (J4 : JT) (H : Heap) (locs : List Loc) (ls : Array Slot) (h_x1 : iv 0 10 x1) (hm_2 : 10 - x1.toInt < (n_2 : Int)) (hS : SB D cy base Z K N Lt_X12_keepsDay LRt_X12_keepsDay Ma Ra M2 R3 J4 s H locs) (hl : lv_has ls 3 [(2, .int x1), (0, .ref (base + a0)), (1, .int a1)]), W p l e (md_rm 1 0 0) s m args below meth c H locs 0 0 Q (F0 m 2 ls []) := by
    intro n_2
    induction n_2 with
    | zero =>
      intro x1 M2 R3 J4 H locs ls h_x1 hm_2 hS hl
      exfalso
      have := (h_a1).1; have := (h_a1).2; have := (h_x1).1; have := (h_x1).2; omega
    | succ n_2 ih_2 =>
      intro x1 M2 R3 J4 H locs ls h_x1 hm_2 hS hl
      have f5 := hS.2.2.1
      have g6 := hS.2.2.2
      refine lv_iload_n hx hb dX12_keepsDay_2 rfl (lv_at hl 0 rfl) ?_
      refine lv_bipush (v := 10) hx hb dX12_keepsDay_3 (by decide) ?_
      refine lv_icmp_ge (tgt := 48) hx hb dX12_keepsDay_5 (by decide) (fun c7 => ?_) (fun c7 => ?_)
      · have q8 : 10 ≤ x1.toInt := ti_le c7
        have h9 : iv 10 10 x1 := iv_geL (y := 10) h_x1 (iv_c (c := 10) (n := 10) (by decide)) q8 (by decide)
        refine lv_aload_n hx hb dX12_keepsDay_48 rfl (lv_at hl 1 rfl) ?_
        refine tw_getr hx hb hW hown hK hS f_X12_99_11 hz_a0 hk_a0 (t := 14) (n := 301) rfl dX12_keepsDay_49 (fun b10 k11 hz_b10 hk_b10 hn_b10 => ?_)
        have hn_b10 := hn_b10 (by decide)
        refine lv_iload_n hx hb dX12_keepsDay_52 rfl (lv_at hl 2 rfl) ?_
        refine lv_aload_n hx hb dX12_keepsDay_53 rfl (lv_at hl 1 rfl) ?_
        refine tw_geti hx hb hW hown hK hS f_X12_407_11 hz_a0 hk_a0 (lo := (-2147483648)) (hi := 2147483647) rfl dX12_keepsDay_54 (fun x14 k13 h12 => ?_)
        refine tw_iast hx hb hK hS hz_b10 hk_b10 (Or.inl rfl) hn_b10 h_a1 ⟨by decide, by decide⟩ h12 (rg_s14 ⟨by decide, by decide⟩) (jl := 0) (jh := 1999999) ⟨by decide, by decide⟩ rfl dX12_keepsDay_57 (fun H locs M17 hS k15 f16 => ?_)
        exact tw_endv hx hb hr hlocks hK hT hS hQ (trivial) dX12_keepsDay_58
      · have q18 : x1.toInt < 10 := ti_nle c7
        have h19 : iv 0 9 x1 := iv_ltL (y := 10) h_x1 (iv_c (c := 10) (n := 10) (by decide)) q18 (by decide)
        refine lv_aload_n hx hb dX12_keepsDay_8 rfl (lv_at hl 1 rfl) ?_
        refine tw_getr hx hb hW hown hK hS f_X12_93_11 hz_a0 hk_a0 (t := 14) (n := 3010) rfl dX12_keepsDay_9 (fun b20 k21 hz_b20 hk_b20 hn_b20 => ?_)
        have hn_b20 := hn_b20 (by decide)
        refine lv_bipush (v := 10) hx hb dX12_keepsDay_12 (by decide) ?_
        refine lv_iload_n hx hb dX12_keepsDay_14 rfl (lv_at hl 2 rfl) ?_
        refine tw_icmul (k := 10) (lo := 0) (hi := 3000) hx hb (by decide) h_a1 (by decide) ⟨by decide, by decide⟩ ⟨by decide, by decide⟩ dX12_keepsDay_15 (fun x24 e23 h22 => ?_)
        refine lv_iload_n hx hb dX12_keepsDay_16 rfl (lv_at hl 0 rfl) ?_
        refine tw_iadd (lo := 0) (hi := 3009) hx hb h22 h19 ⟨by decide, by decide⟩ ⟨by decide, by decide⟩ dX12_keepsDay_17 (fun x27 e26 h25 => ?_)
        refine lv_aload_n hx hb dX12_keepsDay_18 rfl (lv_at hl 1 rfl) ?_
        refine tw_getr hx hb hW hown hK hS f_X12_51_11 hz_a0 hk_a0 (t := 30) (n := 10) rfl dX12_keepsDay_19 (fun b28 k29 hz_b28 hk_b28 hn_b28 => ?_)
        have hn_b28 := hn_b28 (by decide)
        refine lv_iload_n hx hb dX12_keepsDay_22 rfl (lv_at hl 0 rfl) ?_
        refine tw_iald hx hb hK hS hz_b28 hk_b28 (Or.inr (by decide)) hn_b28 (lo := 0) (hi := 9999) h19 ⟨by decide, by decide⟩ rg_u30 dX12_keepsDay_23 (fun x32 k31 h30 => ?_)
        refine tw_iast hx hb hK hS hz_b20 hk_b20 (Or.inl rfl) hn_b20 h25 ⟨by decide, by decide⟩ h30 (rg_s14 ⟨by decide, by decide⟩) (jl := 0) (jh := 1999999) ⟨by decide, by decide⟩ rfl dX12_keepsDay_24 (fun H locs M35 hS k33 f34 => ?_)
        refine lv_aload_n hx hb dX12_keepsDay_25 rfl (lv_at hl 1 rfl) ?_
        refine tw_getr hx hb hW hown hK hS f_X12_96_11 hz_a0 hk_a0 (t := 14) (n := 3010) rfl dX12_keepsDay_26 (fun b36 k37 hz_b36 hk_b36 hn_b36 => ?_)
        have hn_b36 := hn_b36 (by decide)
        refine lv_bipush (v := 10) hx hb dX12_keepsDay_29 (by decide) ?_
        refine lv_iload_n hx hb dX12_keepsDay_31 rfl (lv_at hl 2 rfl) ?_
        refine tw_icmul (k := 10) (lo := 0) (hi := 3000) hx hb (by decide) h_a1 (by decide) ⟨by decide, by decide⟩ ⟨by decide, by decide⟩ dX12_keepsDay_32 (fun x40 e39 h38 => ?_)
        refine lv_iload_n hx hb dX12_keepsDay_33 rfl (lv_at hl 0 rfl) ?_
        refine tw_iadd (lo := 0) (hi := 3009) hx hb h38 h19 ⟨by decide, by decide⟩ ⟨by decide, by decide⟩ dX12_keepsDay_34 (fun x43 e42 h41 => ?_)
        refine lv_aload_n hx hb dX12_keepsDay_35 rfl (lv_at hl 1 rfl) ?_
        refine tw_getr hx hb hW hown hK hS f_X12_57_11 hz_a0 hk_a0 (t := 14) (n := 10) rfl dX12_keepsDay_36 (fun b44 k45 hz_b44 hk_b44 hn_b44 => ?_)
        have hn_b44 := hn_b44 (by decide)
        refine lv_iload_n hx hb dX12_keepsDay_39 rfl (lv_at hl 0 rfl) ?_
        refine tw_iald hx hb hK hS hz_b44 hk_b44 (Or.inl rfl) hn_b44 (lo := (-2147483648)) (hi := 2147483647) h19 ⟨by decide, by decide⟩ rg_u14 dX12_keepsDay_40 (fun x48 k47 h46 => ?_)
        refine tw_iast hx hb hK hS hz_b36 hk_b36 (Or.inl rfl) hn_b36 h41 ⟨by decide, by decide⟩ h46 (rg_s14 ⟨by decide, by decide⟩) (jl := 0) (jh := 1999999) ⟨by decide, by decide⟩ rfl dX12_keepsDay_41 (fun H locs M51 hS k49 f50 => ?_)
        refine tw_iinc (lv' := fun x54 => [(2, .int x54), (0, .ref (base + a0)), (1, .int a1)]) (lo := 1) (hi := 10) hx hb dX12_keepsDay_42 hl (k := 0) rfl h19 (by decide) ⟨by decide, by decide⟩ ⟨by decide, by decide⟩ (by decide) (fun _ => rfl) (fun x54 ls e53 h52 hl => ?_)
        refine lv_goto (tgt := 2) hx hb dX12_keepsDay_45 (by decide) ?_
        have hm55 : 10 - x54.toInt < (n_2 : Int) := by
          have := (h_a1).1; have := (h_a1).2; have := (h19).1; have := (h19).2; have := (h25).1; have := (h25).2; have := (h41).1; have := (h41).2; have := (h52).1; have := (h52).2; omega
        exact ih_2 x54 M51 R3 J4 H locs _ (iv_mono h52 (by decide) (by decide)) hm55 hS hl
  have hm56 : 10 - (0 : Int32).toInt < (((11 : Nat) : Int) : Int) := by
    have := (h_a1).1; have := (h_a1).2; have : (0 : Int32).toInt = 0 := (by decide); omega
  exact W2_2 11 0 Ma Ra Ja s.heap [] _ (iv_mono (iv_c (c := 0) (n := 0) (by decide)) (by decide) (by decide)) hm56 hS hl
def Lt_X12_mostAlike : WL := [(12, 28, 29), (12, 31, 33), (14, 0, 2000000), (30, 0, 2000000)]
def LRt_X12_mostAlike : WL := []
set_option maxRecDepth 100000 in
set_option maxHeartbeats 4000000 in
theorem t_X12_mostAlike (l : Launch) (D : va_G) (cy : Nat → ClassId) (tx : (Nat → Nat) × (Nat → Nat)) (base Z : Nat) (K N : Nat → Nat) (Ma : MT) (Ra : RT) (Ja : JT) (hTy : Ty Z K N Ma Ra) (a0 : Nat) (hz_a0 : a0 < Z) (hk_a0 : K a0 = 12) (a1 : Int32) (h_a1 : iv 1 2147483647 a1) (a2 : Int32) (h_a2 : iv 1 6 a2) (sd : Nat) (k_sd : Ra a0 25 = some sd) (e0 : Int32) (k_e0 : Ma sd (0 : Int32).toNatClampNeg = e0) (h_e0 : iv 1 5 e0) : Met l yX12_mostAlike [Cond.code yX12_mostAlike cX12_mostAlike 6 (some .int)] (md_rm 6 0 0) (va_Pc [.ref (base + a0), .int a1, .int a2] (md_U D cy tx base Z K N Ma Ra Ja)) (mQi D cy tx base (fun r u => TP Z K N Lt_X12_mostAlike LRt_X12_mostAlike Ma Ra u ∧ (iv 0 2147483647 r))) 0 0 (fun q => base ≤ q) := by
  refine tw_ofW (L := Lt_X12_mostAlike) (LR := LRt_X12_mostAlike) (by decide) (Nat.le_of_ble_eq_true rfl) hTy ?_
  intro p e s m args below meth c Q ls hx hb hr hlocks hown hml hW hK hT hS hQ hl
  have hl : lv_has ls 6 [(0, .ref (base + a0)), (1, .int a1), (2, .int a2)] := hl
  obtain ⟨hz_sd, hk_sd, hn_sd⟩ := hTy.refn hz_a0 hk_a0 (show rtR 12 25 = (23, 226, 0) from rfl) k_sd
  have hn_sd := hn_sd (by decide)
  refine lv_iconst (v := 0) hx hb dX12_mostAlike_0 (by decide) ?_
  refine lv_istore_n (lv' := [(3, .int 0), (0, .ref (base + a0)), (1, .int a1), (2, .int a2)]) hx hb dX12_mostAlike_1 rfl hl (by decide) rfl (fun ls hl => ?_)
  have W2_2 : ∀ (n_2 : Nat) (x1 : Int32) (M2 : MT) (R3 : RT) (J4 : JT) (H : Heap) (locs : List Loc) (ls : Array Slot) (h_x1 : iv 0 50001 x1) (hm_2 : 50001 - x1.toInt < (n_2 : Int)) (hS : SB D cy base Z K N Lt_X12_mostAlike LRt_X12_mostAlike Ma Ra M2 R3 J4 s H locs) (hl : lv_has ls 6 [(3, .int x1), (0, .ref (base + a0)), (1, .int a1), (2, .int a2)]), W p l e (md_rm 6 0 0) s m args below meth c H locs 0 0 Q (F0 m 2 ls []) := by
    intro n_2
    induction n_2 with
    | zero =>
      intro x1 M2 R3 J4 H locs ls h_x1 hm_2 hS hl
      exfalso
      have := (h_a1).1; have := (h_a1).2; have := (h_a2).1; have := (h_a2).2; have := (h_e0).1; have := (h_e0).2; have := (h_x1).1; have := (h_x1).2; omega
    | succ n_2 ih_2 =>
      intro x1 M2 R3 J4 H locs ls h_x1 hm_2 hS hl
      have f5 := hS.2.2.1
      have g6 := hS.2.2.2
      refine lv_iload_n hx hb dX12_mostAlike_2 rfl (lv_at hl 0 rfl) ?_
      refine lv_ldc hx hb hown (hW _ w_6_39 rfl) dX12_mostAlike_3 ?_
      refine lv_icmp_ge (tgt := 21) hx hb dX12_mostAlike_5 (by decide) (fun c7 => ?_) (fun c7 => ?_)
      · have q8 : 50001 ≤ x1.toInt := ti_le c7
        have h9 : iv 50001 50001 x1 := iv_geL (y := 50001) h_x1 (iv_c (c := 50001) (n := 50001) (by decide)) q8 (by decide)
        refine lv_iconst (v := 0) hx hb dX12_mostAlike_21 (by decide) ?_
        refine lv_istore_n (lv' := [(3, .int 0), (0, .ref (base + a0)), (1, .int a1), (2, .int a2)]) hx hb dX12_mostAlike_22 rfl hl (by decide) rfl (fun ls hl => ?_)
        refine lv_iconst (v := 0) hx hb dX12_mostAlike_23 (by decide) ?_
        refine lv_istore (lv' := [(4, .int 0), (3, .int 0), (0, .ref (base + a0)), (1, .int a1), (2, .int a2)]) hx hb dX12_mostAlike_24 hl (by decide) rfl (fun ls hl => ?_)
        have W26_12 : ∀ (n_12 : Nat) (x10 : Int32) (x11 : Int32) (M12 : MT) (R13 : RT) (J14 : JT) (H : Heap) (locs : List Loc) (ls : Array Slot) (h_x10 : iv 0 2147483647 x10) (h_x11 : iv 0 2147483647 x11) (hm_12 : 2147483647 - x11.toInt < (n_12 : Int)) (hS : SB D cy base Z K N Lt_X12_mostAlike LRt_X12_mostAlike Ma Ra M12 R13 J14 s H locs) (hl : lv_has ls 6 [(3, .int x10), (4, .int x11), (0, .ref (base + a0)), (1, .int a1), (2, .int a2)]), W p l e (md_rm 6 0 0) s m args below meth c H locs 0 0 Q (F0 m 26 ls []) := by
          intro n_12
          induction n_12 with
          | zero =>
            intro x10 x11 M12 R13 J14 H locs ls h_x10 h_x11 hm_12 hS hl
            exfalso
            have := (h_a1).1; have := (h_a1).2; have := (h_a2).1; have := (h_a2).2; have := (h_e0).1; have := (h_e0).2; have := (h_x11).1; have := (h_x11).2; omega
          | succ n_12 ih_12 =>
            intro x10 x11 M12 R13 J14 H locs ls h_x10 h_x11 hm_12 hS hl
            have f15 := hS.2.2.1
            have g16 := hS.2.2.2
            refine lv_iload hx hb dX12_mostAlike_26 (lv_at hl 1 rfl) ?_
            refine lv_aload_n hx hb dX12_mostAlike_28 rfl (lv_at hl 2 rfl) ?_
            refine lv_iload_n hx hb dX12_mostAlike_29 rfl (lv_at hl 4 rfl) ?_
            refine tw_goi hS (md_runV (As := [.int a2]) (rest := [.int x11]) hx hb hml hown hW hK hT hS.1 (t_X12_waysOf l D cy tx base Z K N M12 R13 J14 hS.2.1 a0 hz_a0 hk_a0 a2 h_a2) s_X12_489 ⟨rfl, rfl, ⟨Nat.le_of_ble_eq_true rfl, Nat.le_of_ble_eq_true rfl⟩, ⟨Nat.le_of_ble_eq_true rfl, Nat.le_of_ble_eq_true rfl⟩⟩ hz_a0 hk_a0 (by decide) rfl rfl hl.1 rfl (Nat.le_of_ble_eq_true rfl) dX12_mostAlike_30) rfl rfl (fun x23 H locs M19 R20 J21 hS f17 g18 E22 => ?_)
            have h_x23 := E22
            refine lv_icmp_ge (tgt := 96) hx hb dX12_mostAlike_33 (by decide) (fun c24 => ?_) (fun c24 => ?_)
            · have q25 : x23.toInt ≤ x11.toInt := ti_le c24
              refine lv_iload_n hx hb dX12_mostAlike_96 rfl (lv_at hl 0 rfl) ?_
              exact tw_endi hx hb hr hlocks hK hT hS hQ (h_x10) dX12_mostAlike_97
            · have q26 : x11.toInt < x23.toInt := ti_nle c24
              have h27 : iv 0 2147483646 x11 := iv_ltL (y := x23) h_x11 h_x23 q26 (by decide)
              have h28 : iv 1 2147483647 x23 := iv_gtL (y := x11) h_x23 h_x11 q26 (by decide)
              refine lv_aload_n hx hb dX12_mostAlike_36 rfl (lv_at hl 2 rfl) ?_
              refine lv_iload hx hb dX12_mostAlike_37 (lv_at hl 1 rfl) ?_
              refine lv_iload_n hx hb dX12_mostAlike_39 rfl (lv_at hl 4 rfl) ?_
              refine tw_goi hS (md_runV (As := [.int x11, .int a2]) (rest := []) hx hb hml hown hW hK hT hS.1 (t_X12_holds l D cy tx base Z K N M19 R20 J21 hS.2.1 a0 hz_a0 hk_a0 x11 (iv_mono h27 (by decide) (by decide)) a2 h_a2) s_X12_492 ⟨rfl, rfl, ⟨Nat.le_of_ble_eq_true rfl, Nat.le_of_ble_eq_true rfl⟩, ⟨Nat.le_of_ble_eq_true rfl, Nat.le_of_ble_eq_true rfl⟩⟩ hz_a0 hk_a0 (by decide) rfl rfl hl.1 rfl (Nat.le_of_ble_eq_true rfl) dX12_mostAlike_40) rfl rfl (fun x35 H locs M31 R32 J33 hS f29 g30 E34 => ?_)
              have h_x35 := E34
              refine lv_if_ne (tgt := 49) hx hb dX12_mostAlike_43 (by decide) (fun c36 => ?_) (fun c36 => ?_)
              · have q37 : ¬ x35.toInt = 0 := ti_ne c36
                have h38 : iv 1 1 x35 := ⟨by have := (h_x35).1; have := ((iv_c (c := 0) (n := 0) (by decide))).1; have := ((iv_c (c := 0) (n := 0) (by decide))).2; omega, by have := (h_x35).2; have := ((iv_c (c := 0) (n := 0) (by decide))).1; have := ((iv_c (c := 0) (n := 0) (by decide))).2; omega⟩
                refine lv_aload_n hx hb dX12_mostAlike_49 rfl (lv_at hl 2 rfl) ?_
                refine lv_iload_n hx hb dX12_mostAlike_50 rfl (lv_at hl 3 rfl) ?_
                have k39 : R32 a0 25 = some sd := ((Fr.kp (k := 25) g30 hk_a0 rfl).trans ((Fr.kp (k := 25) g18 hk_a0 rfl).trans (Fr.kp (k := 25) g16 hk_a0 rfl))).trans k_sd
                have k40 : M31 sd (0 : Int32).toNatClampNeg = e0 := ((Fr.kp (k := (0 : Int32).toNatClampNeg) f29 hk_sd rfl).trans ((Fr.kp (k := (0 : Int32).toNatClampNeg) f17 hk_sd rfl).trans (Fr.kp (k := (0 : Int32).toNatClampNeg) f15 hk_sd rfl))).trans k_e0
                refine tw_goi hS (md_runV (As := [.int a1]) (rest := []) hx hb hml hown hW hK hT hS.1 (t_X12_voicesOf l D cy tx base Z K N M31 R32 J33 hS.2.1 a0 hz_a0 hk_a0 a1 (iv_mono h_a1 (by decide) (by decide)) sd k39 e0 k40 (iv_mono h_e0 (by decide) (by decide))) s_X12_380 ⟨rfl, rfl, ⟨Nat.le_of_ble_eq_true rfl, Nat.le_of_ble_eq_true rfl⟩, ⟨Nat.le_of_ble_eq_true rfl, Nat.le_of_ble_eq_true rfl⟩⟩ hz_a0 hk_a0 (by decide) rfl rfl hl.1 rfl (Nat.le_of_ble_eq_true rfl) dX12_mostAlike_51) rfl rfl (fun x47 H locs M43 R44 J45 hS f41 g42 E46 => ?_)
                obtain ⟨h_x47, p48⟩ := E46
                have h49 : iv 0 49995 x47 := ⟨(h_x47).1, by have := (h_e0).2; omega⟩
                refine lv_istore (lv' := [(5, .int x47), (3, .int x10), (4, .int x11), (0, .ref (base + a0)), (1, .int a1), (2, .int a2)]) hx hb dX12_mostAlike_54 hl (by decide) rfl (fun ls hl => ?_)
                refine lv_aload_n hx hb dX12_mostAlike_56 rfl (lv_at hl 3 rfl) ?_
                refine tw_getr hx hb hW hown hK hS f_X12_106_11 hz_a0 hk_a0 (t := 14) (n := 50001) rfl dX12_mostAlike_57 (fun b50 k51 hz_b50 hk_b50 hn_b50 => ?_)
                have hn_b50 := hn_b50 (by decide)
                refine lv_iload hx hb dX12_mostAlike_60 (lv_at hl 0 rfl) ?_
                refine lv_dup2_11 hx hb dX12_mostAlike_62 rfl rfl ?_
                refine tw_iald hx hb hK hS hz_b50 hk_b50 (Or.inl rfl) hn_b50 (lo := (-2147483648)) (hi := 2147483647) h49 ⟨by decide, by decide⟩ rg_u14 dX12_mostAlike_63 (fun x54 k53 h52 => ?_)
                refine lv_iconst (v := 1) hx hb dX12_mostAlike_64 (by decide) ?_
                refine lv_iadd hx hb dX12_mostAlike_65 ?_
                refine tw_top (fun x56 => ?_)
                have h55 := iv_any x56
                refine tw_iast hx hb hK hS hz_b50 hk_b50 (Or.inl rfl) hn_b50 h49 ⟨by decide, by decide⟩ h55 (rg_s14 ⟨by decide, by decide⟩) (jl := 0) (jh := 1999999) ⟨by decide, by decide⟩ rfl dX12_mostAlike_66 (fun H locs M59 hS k57 f58 => ?_)
                refine lv_aload_n hx hb dX12_mostAlike_67 rfl (lv_at hl 3 rfl) ?_
                refine tw_getrk hx hb hW hown hK hS f_X12_106_11 hz_a0 hk_a0 (b := b50) k51 dX12_mostAlike_68 ?_
                refine lv_iload hx hb dX12_mostAlike_71 (lv_at hl 0 rfl) ?_
                refine tw_ialk hx hb hK hS hz_b50 hk_b50 (Or.inl rfl) hn_b50 h49 ⟨by decide, by decide⟩ (v := x56) k57 dX12_mostAlike_73 ?_
                refine lv_iload_n hx hb dX12_mostAlike_74 rfl (lv_at hl 1 rfl) ?_
                refine lv_icmp_le (tgt := 88) hx hb dX12_mostAlike_75 (by decide) (fun c60 => ?_) (fun c60 => ?_)
                · have q61 : x56.toInt ≤ x10.toInt := ti_le c60
                  refine lv_iload_n hx hb dX12_mostAlike_88 rfl (lv_at hl 1 rfl) ?_
                  refine lv_istore_n (lv' := [(3, .int x10), (5, .int x47), (4, .int x11), (0, .ref (base + a0)), (1, .int a1), (2, .int a2)]) hx hb dX12_mostAlike_89 rfl hl (by decide) rfl (fun ls hl => ?_)
                  refine tw_iinc (lv' := fun x64 => [(4, .int x64), (3, .int x10), (5, .int x47), (0, .ref (base + a0)), (1, .int a1), (2, .int a2)]) (lo := 1) (hi := 2147483647) hx hb dX12_mostAlike_90 hl (k := 2) rfl h27 (by decide) ⟨by decide, by decide⟩ ⟨by decide, by decide⟩ (by decide) (fun _ => rfl) (fun x64 ls e63 h62 hl => ?_)
                  refine lv_goto (tgt := 26) hx hb dX12_mostAlike_93 (by decide) ?_
                  have hm65 : 2147483647 - x64.toInt < (n_12 : Int) := by
                    have := (h_a1).1; have := (h_a1).2; have := (h_a2).1; have := (h_a2).2; have := (h_e0).1; have := (h_e0).2; have := (h27).1; have := (h27).2; have := (h62).1; have := (h62).2; omega
                  exact ih_12 x10 x64 M59 R44 J45 H locs _ h_x10 (iv_mono h62 (by decide) (by decide)) hm65 hS (lv_sub hl [1, 0, 3, 4, 5] rfl)
                · have q66 : x10.toInt < x56.toInt := ti_nle c60
                  have h67 : iv 1 2147483647 x56 := iv_gtL (y := x10) h55 h_x10 q66 (by decide)
                  have h68 : iv 0 2147483646 x10 := iv_ltL (y := x56) h_x10 h55 q66 (by decide)
                  refine lv_aload_n hx hb dX12_mostAlike_78 rfl (lv_at hl 3 rfl) ?_
                  refine tw_getrk hx hb hW hown hK hS f_X12_106_11 hz_a0 hk_a0 (b := b50) k51 dX12_mostAlike_79 ?_
                  refine lv_iload hx hb dX12_mostAlike_82 (lv_at hl 0 rfl) ?_
                  refine tw_ialk hx hb hK hS hz_b50 hk_b50 (Or.inl rfl) hn_b50 h49 ⟨by decide, by decide⟩ (v := x56) k57 dX12_mostAlike_84 ?_
                  refine lv_goto (tgt := 89) hx hb dX12_mostAlike_85 (by decide) ?_
                  refine lv_istore_n (lv' := [(3, .int x56), (5, .int x47), (4, .int x11), (0, .ref (base + a0)), (1, .int a1), (2, .int a2)]) hx hb dX12_mostAlike_89 rfl hl (by decide) rfl (fun ls hl => ?_)
                  refine tw_iinc (lv' := fun x71 => [(4, .int x71), (3, .int x56), (5, .int x47), (0, .ref (base + a0)), (1, .int a1), (2, .int a2)]) (lo := 1) (hi := 2147483647) hx hb dX12_mostAlike_90 hl (k := 2) rfl h27 (by decide) ⟨by decide, by decide⟩ ⟨by decide, by decide⟩ (by decide) (fun _ => rfl) (fun x71 ls e70 h69 hl => ?_)
                  refine lv_goto (tgt := 26) hx hb dX12_mostAlike_93 (by decide) ?_
                  have hm72 : 2147483647 - x71.toInt < (n_12 : Int) := by
                    have := (h_a1).1; have := (h_a1).2; have := (h_a2).1; have := (h_a2).2; have := (h_e0).1; have := (h_e0).2; have := (h27).1; have := (h27).2; have := (h69).1; have := (h69).2; omega
                  exact ih_12 x56 x71 M59 R44 J45 H locs _ (iv_mono h67 (by decide) (by decide)) (iv_mono h69 (by decide) (by decide)) hm72 hS (lv_sub hl [1, 0, 3, 4, 5] rfl)
              · have q73 : x35.toInt = 0 := ti_eq c36
                have h74 : iv 0 0 x35 := ⟨by have := (h_x35).1; have := ((iv_c (c := 0) (n := 0) (by decide))).1; omega, by have := (h_x35).2; have := ((iv_c (c := 0) (n := 0) (by decide))).2; omega⟩
                refine lv_goto (tgt := 90) hx hb dX12_mostAlike_46 (by decide) ?_
                refine tw_iinc (lv' := fun x77 => [(4, .int x77), (3, .int x10), (0, .ref (base + a0)), (1, .int a1), (2, .int a2)]) (lo := 1) (hi := 2147483647) hx hb dX12_mostAlike_90 hl (k := 1) rfl h27 (by decide) ⟨by decide, by decide⟩ ⟨by decide, by decide⟩ (by decide) (fun _ => rfl) (fun x77 ls e76 h75 hl => ?_)
                refine lv_goto (tgt := 26) hx hb dX12_mostAlike_93 (by decide) ?_
                have hm78 : 2147483647 - x77.toInt < (n_12 : Int) := by
                  have := (h_a1).1; have := (h_a1).2; have := (h_a2).1; have := (h_a2).2; have := (h_e0).1; have := (h_e0).2; have := (h27).1; have := (h27).2; have := (h75).1; have := (h75).2; omega
                exact ih_12 x10 x77 M31 R32 J33 H locs _ h_x10 (iv_mono h75 (by decide) (by decide)) hm78 hS (lv_sub hl [1, 0, 2, 3, 4] rfl)
        have hm79 : 2147483647 - (0 : Int32).toInt < (((2147483648 : Nat) : Int) : Int) := by
          have := (h_a1).1; have := (h_a1).2; have := (h_a2).1; have := (h_a2).2; have := (h_e0).1; have := (h_e0).2; have : (0 : Int32).toInt = 0 := (by decide); omega
        exact W26_12 2147483648 0 0 M2 R3 J4 H locs _ (iv_mono (iv_c (c := 0) (n := 0) (by decide)) (by decide) (by decide)) (iv_mono (iv_c (c := 0) (n := 0) (by decide)) (by decide) (by decide)) hm79 hS (lv_sub hl [1, 0, 2, 3, 4] rfl)
      · have q80 : x1.toInt < 50001 := ti_nle c7
        have h81 : iv 0 50000 x1 := iv_ltL (y := 50001) h_x1 (iv_c (c := 50001) (n := 50001) (by decide)) q80 (by decide)
        refine lv_aload_n hx hb dX12_mostAlike_8 rfl (lv_at hl 1 rfl) ?_
        refine tw_getr hx hb hW hown hK hS f_X12_106_11 hz_a0 hk_a0 (t := 14) (n := 50001) rfl dX12_mostAlike_9 (fun b82 k83 hz_b82 hk_b82 hn_b82 => ?_)
        have hn_b82 := hn_b82 (by decide)
        refine lv_iload_n hx hb dX12_mostAlike_12 rfl (lv_at hl 0 rfl) ?_
        refine lv_iconst (v := 0) hx hb dX12_mostAlike_13 (by decide) ?_
        refine tw_iast hx hb hK hS hz_b82 hk_b82 (Or.inl rfl) hn_b82 h81 ⟨by decide, by decide⟩ (iv_c (c := 0) (n := 0) (by decide)) (rg_s14 ⟨by decide, by decide⟩) (jl := 0) (jh := 1999999) ⟨by decide, by decide⟩ rfl dX12_mostAlike_14 (fun H locs M86 hS k84 f85 => ?_)
        refine tw_iinc (lv' := fun x89 => [(3, .int x89), (0, .ref (base + a0)), (1, .int a1), (2, .int a2)]) (lo := 1) (hi := 50001) hx hb dX12_mostAlike_15 hl (k := 0) rfl h81 (by decide) ⟨by decide, by decide⟩ ⟨by decide, by decide⟩ (by decide) (fun _ => rfl) (fun x89 ls e88 h87 hl => ?_)
        refine lv_goto (tgt := 2) hx hb dX12_mostAlike_18 (by decide) ?_
        have hm90 : 50001 - x89.toInt < (n_2 : Int) := by
          have := (h_a1).1; have := (h_a1).2; have := (h_a2).1; have := (h_a2).2; have := (h_e0).1; have := (h_e0).2; have := (h81).1; have := (h81).2; have := (h87).1; have := (h87).2; omega
        exact ih_2 x89 M86 R3 J4 H locs _ (iv_mono h87 (by decide) (by decide)) hm90 hS hl
  have hm91 : 50001 - (0 : Int32).toInt < (((50002 : Nat) : Int) : Int) := by
    have := (h_a1).1; have := (h_a1).2; have := (h_a2).1; have := (h_a2).2; have := (h_e0).1; have := (h_e0).2; have : (0 : Int32).toInt = 0 := (by decide); omega
  exact W2_2 50002 0 Ma Ra Ja s.heap [] _ (iv_mono (iv_c (c := 0) (n := 0) (by decide)) (by decide) (by decide)) hm91 hS hl
def Lt_X12_order : WL := [(14, 0, 2000000), (23, 4, 5), (23, 170, 178)]
def LRt_X12_order : WL := []
set_option maxRecDepth 100000 in
set_option maxHeartbeats 4000000 in
theorem t_X12_order (l : Launch) (D : va_G) (cy : Nat → ClassId) (tx : (Nat → Nat) × (Nat → Nat)) (base Z : Nat) (K N : Nat → Nat) (Ma : MT) (Ra : RT) (Ja : JT) (hTy : Ty Z K N Ma Ra) (a0 : Nat) (hz_a0 : a0 < Z) (hk_a0 : K a0 = 12) (a1 : Int32) (h_a1 : iv (-2147483648) 2147483647 a1) : Met l yX12_order [Cond.code yX12_order cX12_order 2 (some .int)] (md_rm 2 0 0) (va_Pc [.ref (base + a0), .int a1] (md_U D cy tx base Z K N Ma Ra Ja)) (mQi D cy tx base (fun r u => TP Z K N Lt_X12_order LRt_X12_order Ma Ra u ∧ (iv (-2) 8 r))) 0 0 (fun q => base ≤ q) := by
  refine tw_ofW (L := Lt_X12_order) (LR := LRt_X12_order) (by decide) (Nat.le_of_ble_eq_true rfl) hTy ?_
  intro p e s m args below meth c Q ls hx hb hr hlocks hown hml hW hK hT hS hQ hl
  have hl : lv_has ls 2 [(0, .ref (base + a0)), (1, .int a1)] := hl
  refine lv_iload_n hx hb dX12_order_0 rfl (lv_at hl 1 rfl) ?_
  refine lv_iconst (v := (-1)) hx hb dX12_order_1 (by decide) ?_
  refine lv_icmp_ne (tgt := 14) hx hb dX12_order_2 (by decide) (fun c1 => ?_) (fun c1 => ?_)
  · have q2 : ¬ a1.toInt = (-1) := ti_ne c1
    refine lv_aload_n hx hb dX12_order_14 rfl (lv_at hl 0 rfl) ?_
    refine lv_iload_n hx hb dX12_order_15 rfl (lv_at hl 1 rfl) ?_
    refine tw_goi hS (md_runV (As := [.int a1]) (rest := []) hx hb hml hown hW hK hT hS.1 (t_X12_isPoint l D cy tx base Z K N Ma Ra Ja hS.2.1 a0 hz_a0 hk_a0 a1 h_a1) s_X12_327 ⟨rfl, rfl, ⟨Nat.le_of_ble_eq_true rfl, Nat.le_of_ble_eq_true rfl⟩, ⟨Nat.le_of_ble_eq_true rfl, Nat.le_of_ble_eq_true rfl⟩⟩ hz_a0 hk_a0 (by decide) rfl rfl hl.1 rfl (Nat.le_of_ble_eq_true rfl) dX12_order_16) rfl rfl (fun x9 H locs M5 R6 J7 hS f3 g4 E8 => ?_)
    obtain ⟨h_x9, p10⟩ := E8
    refine lv_if_ne (tgt := 28) hx hb dX12_order_19 (by decide) (fun c11 => ?_) (fun c11 => ?_)
    · have q12 : ¬ x9.toInt = 0 := ti_ne c11
      have h13 : iv 1 1 x9 := ⟨by have := (h_x9).1; have := ((iv_c (c := 0) (n := 0) (by decide))).1; have := ((iv_c (c := 0) (n := 0) (by decide))).2; omega, by have := (h_x9).2; have := ((iv_c (c := 0) (n := 0) (by decide))).1; have := ((iv_c (c := 0) (n := 0) (by decide))).2; omega⟩
      have h14 : iv 0 11 a1 := ⟨by have := (p10 c11).1; have := (h_a1).1; omega, by have := (p10 c11).2; have := (h_a1).2; omega⟩
      refine lv_aload_n hx hb dX12_order_28 rfl (lv_at hl 0 rfl) ?_
      refine tw_getr hx hb hW hown hK hS f_X12_45_11 hz_a0 hk_a0 (t := 23) (n := 226) rfl dX12_order_29 (fun b15 k16 hz_b15 hk_b15 hn_b15 => ?_)
      have hn_b15 := hn_b15 (by decide)
      refine lv_iconst (v := 4) hx hb dX12_order_32 (by decide) ?_
      refine tw_iald hx hb hK hS hz_b15 hk_b15 (Or.inr (by decide)) hn_b15 (lo := 0) (hi := 8) (iv_c (c := 4) (n := 4) (by decide)) ⟨by decide, by decide⟩ (rg_c (k0 := 4) rfl rfl rfl) dX12_order_33 (fun x19 k18 h17 => ?_)
      refine lv_bipush (v := 8) hx hb dX12_order_34 (by decide) ?_
      refine lv_icmp_ne (tgt := 45) hx hb dX12_order_36 (by decide) (fun c20 => ?_) (fun c20 => ?_)
      · have q21 : ¬ x19.toInt = 8 := ti_ne c20
        have h22 : iv 0 7 x19 := ⟨by have := (h17).1; have := ((iv_c (c := 8) (n := 8) (by decide))).1; have := ((iv_c (c := 8) (n := 8) (by decide))).2; omega, by have := (h17).2; have := ((iv_c (c := 8) (n := 8) (by decide))).1; have := ((iv_c (c := 8) (n := 8) (by decide))).2; omega⟩
        refine lv_aload_n hx hb dX12_order_45 rfl (lv_at hl 0 rfl) ?_
        refine tw_getrk hx hb hW hown hK hS f_X12_45_11 hz_a0 hk_a0 (b := b15) k16 dX12_order_46 ?_
        refine lv_sipush (v := 170) hx hb dX12_order_49 (by decide) ?_
        refine lv_aload_n hx hb dX12_order_52 rfl (lv_at hl 0 rfl) ?_
        refine tw_getrk hx hb hW hown hK hS f_X12_45_11 hz_a0 hk_a0 (b := b15) k16 dX12_order_53 ?_
        refine lv_iconst (v := 4) hx hb dX12_order_56 (by decide) ?_
        refine tw_ialk hx hb hK hS hz_b15 hk_b15 (Or.inr (by decide)) hn_b15 (iv_c (c := 4) (n := 4) (by decide)) ⟨by decide, by decide⟩ (v := x19) k18 dX12_order_57 ?_
        refine tw_iadd (lo := 170) (hi := 177) hx hb (iv_c (c := 170) (n := 170) (by decide)) h22 ⟨by decide, by decide⟩ ⟨by decide, by decide⟩ dX12_order_58 (fun x25 e24 h23 => ?_)
        have e24 : x25.toInt = 170 + x19.toInt := e24
        refine lv_iload_n hx hb dX12_order_59 rfl (lv_at hl 1 rfl) ?_
        refine tw_iast hx hb hK hS hz_b15 hk_b15 (Or.inr (by decide)) hn_b15 h23 ⟨by decide, by decide⟩ h14 (rg_sos ⟨by decide, by decide⟩ ⟨by decide, by decide⟩) (jl := 170) (jh := 177) ⟨by decide, by decide⟩ rfl dX12_order_60 (fun H locs M28 hS k26 f27 => ?_)
        refine lv_aload_n hx hb dX12_order_61 rfl (lv_at hl 0 rfl) ?_
        refine tw_getrk hx hb hW hown hK hS f_X12_45_11 hz_a0 hk_a0 (b := b15) k16 dX12_order_62 ?_
        refine lv_iconst (v := 4) hx hb dX12_order_65 (by decide) ?_
        refine lv_dup2_11 hx hb dX12_order_66 rfl rfl ?_
        have k29 : M28 b15 (4 : Int32).toNatClampNeg = x19 := (Fr.kp (k := (4 : Int32).toNatClampNeg) f27 hk_b15 rfl).trans k18
        refine tw_ialk hx hb hK hS hz_b15 hk_b15 (Or.inr (by decide)) hn_b15 (iv_c (c := 4) (n := 4) (by decide)) ⟨by decide, by decide⟩ (v := x19) k29 dX12_order_67 ?_
        refine lv_iconst (v := 1) hx hb dX12_order_68 (by decide) ?_
        refine tw_iadd (lo := 1) (hi := 8) hx hb h22 (iv_c (c := 1) (n := 1) (by decide)) ⟨by decide, by decide⟩ ⟨by decide, by decide⟩ dX12_order_69 (fun x32 e31 h30 => ?_)
        have e31 : x32.toInt = x19.toInt + 1 := e31
        refine tw_iast hx hb hK hS hz_b15 hk_b15 (Or.inr (by decide)) hn_b15 (iv_c (c := 4) (n := 4) (by decide)) ⟨by decide, by decide⟩ h30 (rg_cs (k0 := 4) rfl rfl rfl ⟨by decide, by decide⟩) (jl := 4) (jh := 4) ⟨by decide, by decide⟩ rfl dX12_order_70 (fun H locs M35 hS k33 f34 => ?_)
        refine lv_aload_n hx hb dX12_order_71 rfl (lv_at hl 0 rfl) ?_
        refine tw_getrk hx hb hW hown hK hS f_X12_45_11 hz_a0 hk_a0 (b := b15) k16 dX12_order_72 ?_
        refine lv_iconst (v := 4) hx hb dX12_order_75 (by decide) ?_
        refine tw_ialk hx hb hK hS hz_b15 hk_b15 (Or.inr (by decide)) hn_b15 (iv_c (c := 4) (n := 4) (by decide)) ⟨by decide, by decide⟩ (v := x32) k33 dX12_order_76 ?_
        exact tw_endi hx hb hr hlocks hK hT hS hQ ((iv_mono h30 (by decide) (by decide))) dX12_order_77
      · have q36 : x19.toInt = 8 := ti_eq c20
        have h37 : iv 8 8 x19 := ⟨by have := (h17).1; have := ((iv_c (c := 8) (n := 8) (by decide))).1; omega, by have := (h17).2; have := ((iv_c (c := 8) (n := 8) (by decide))).2; omega⟩
        refine lv_aload_n hx hb dX12_order_39 rfl (lv_at hl 0 rfl) ?_
        refine lv_iconst (v := 1) hx hb dX12_order_40 (by decide) ?_
        refine tw_goi hS (md_runV (As := [.int 1]) (rest := []) hx hb hml hown hW hK hT hS.1 (t_X12_refuses l D cy tx base Z K N M5 R6 J7 hS.2.1 a0 hz_a0 hk_a0 1 (iv_mono (iv_c (c := 1) (n := 1) (by decide)) (by decide) (by decide))) s_X12_338 ⟨rfl, rfl, ⟨Nat.le_of_ble_eq_true rfl, Nat.le_of_ble_eq_true rfl⟩, ⟨Nat.le_of_ble_eq_true rfl, Nat.le_of_ble_eq_true rfl⟩⟩ hz_a0 hk_a0 (by decide) rfl rfl hl.1 rfl (Nat.le_of_ble_eq_true rfl) dX12_order_41) rfl rfl (fun x44 H locs M40 R41 J42 hS f38 g39 E43 => ?_)
        have h_x44 := E43
        exact tw_endi hx hb hr hlocks hK hT hS hQ ((iv_mono h_x44 (by decide) (by decide))) dX12_order_44
    · have q45 : x9.toInt = 0 := ti_eq c11
      have h46 : iv 0 0 x9 := ⟨by have := (h_x9).1; have := ((iv_c (c := 0) (n := 0) (by decide))).1; omega, by have := (h_x9).2; have := ((iv_c (c := 0) (n := 0) (by decide))).2; omega⟩
      refine lv_aload_n hx hb dX12_order_22 rfl (lv_at hl 0 rfl) ?_
      refine lv_iconst (v := 0) hx hb dX12_order_23 (by decide) ?_
      refine tw_goi hS (md_runV (As := [.int 0]) (rest := []) hx hb hml hown hW hK hT hS.1 (t_X12_refuses l D cy tx base Z K N M5 R6 J7 hS.2.1 a0 hz_a0 hk_a0 0 (iv_mono (iv_c (c := 0) (n := 0) (by decide)) (by decide) (by decide))) s_X12_338 ⟨rfl, rfl, ⟨Nat.le_of_ble_eq_true rfl, Nat.le_of_ble_eq_true rfl⟩, ⟨Nat.le_of_ble_eq_true rfl, Nat.le_of_ble_eq_true rfl⟩⟩ hz_a0 hk_a0 (by decide) rfl rfl hl.1 rfl (Nat.le_of_ble_eq_true rfl) dX12_order_24) rfl rfl (fun x53 H locs M49 R50 J51 hS f47 g48 E52 => ?_)
      have h_x53 := E52
      exact tw_endi hx hb hr hlocks hK hT hS hQ ((iv_mono h_x53 (by decide) (by decide))) dX12_order_27
  · have q54 : a1.toInt = (-1) := ti_eq c1
    have h55 : iv (-1) (-1) a1 := ⟨by have := (h_a1).1; have := ((iv_c (c := (-1)) (n := (-1)) (by decide))).1; omega, by have := (h_a1).2; have := ((iv_c (c := (-1)) (n := (-1)) (by decide))).2; omega⟩
    refine lv_aload_n hx hb dX12_order_5 rfl (lv_at hl 0 rfl) ?_
    refine tw_getr hx hb hW hown hK hS f_X12_45_11 hz_a0 hk_a0 (t := 23) (n := 226) rfl dX12_order_6 (fun b56 k57 hz_b56 hk_b56 hn_b56 => ?_)
    have hn_b56 := hn_b56 (by decide)
    refine lv_iconst (v := 4) hx hb dX12_order_9 (by decide) ?_
    refine lv_iconst (v := 0) hx hb dX12_order_10 (by decide) ?_
    refine tw_iast hx hb hK hS hz_b56 hk_b56 (Or.inr (by decide)) hn_b56 (iv_c (c := 4) (n := 4) (by decide)) ⟨by decide, by decide⟩ (iv_c (c := 0) (n := 0) (by decide)) (rg_0 ⟨rfl, rfl⟩) (jl := 4) (jh := 4) ⟨by decide, by decide⟩ rfl dX12_order_11 (fun H locs M60 hS k58 f59 => ?_)
    refine lv_iconst (v := 0) hx hb dX12_order_12 (by decide) ?_
    exact tw_endi hx hb hr hlocks hK hT hS hQ ((iv_mono (iv_c (c := 0) (n := 0) (by decide)) (by decide) (by decide))) dX12_order_13
def Lt_X12_ordered : WL := []
def LRt_X12_ordered : WL := []
set_option maxRecDepth 100000 in
set_option maxHeartbeats 4000000 in
theorem t_X12_ordered (l : Launch) (D : va_G) (cy : Nat → ClassId) (tx : (Nat → Nat) × (Nat → Nat)) (base Z : Nat) (K N : Nat → Nat) (Ma : MT) (Ra : RT) (Ja : JT) (hTy : Ty Z K N Ma Ra) (a0 : Nat) (hz_a0 : a0 < Z) (hk_a0 : K a0 = 12) (a1 : Int32) (h_a1 : iv (-2147483648) 2147483647 a1) : Met l yX12_ordered [Cond.code yX12_ordered cX12_ordered 2 (some .int)] (md_rm 1 0 0) (va_Pc [.ref (base + a0), .int a1] (md_U D cy tx base Z K N Ma Ra Ja)) (mQi D cy tx base (fun r u => TP Z K N Lt_X12_ordered LRt_X12_ordered Ma Ra u ∧ (iv (-1) 11 r))) 0 0 (fun q => base ≤ q) := by
  refine tw_ofW (L := Lt_X12_ordered) (LR := LRt_X12_ordered) (by decide) (Nat.le_of_ble_eq_true rfl) hTy ?_
  intro p e s m args below meth c Q ls hx hb hr hlocks hown hml hW hK hT hS hQ hl
  have hl : lv_has ls 2 [(0, .ref (base + a0)), (1, .int a1)] := hl
  refine lv_iload_n hx hb dX12_ordered_0 rfl (lv_at hl 1 rfl) ?_
  refine lv_if_lt (tgt := 27) hx hb dX12_ordered_1 (by decide) (fun c1 => ?_) (fun c1 => ?_)
  · have q2 : a1.toInt < 0 := ti_lt c1
    have h3 : iv (-2147483648) (-1) a1 := iv_ltL (y := 0) h_a1 (iv_c (c := 0) (n := 0) (by decide)) q2 (by decide)
    refine lv_iconst (v := (-1)) hx hb dX12_ordered_27 (by decide) ?_
    exact tw_endi hx hb hr hlocks hK hT hS hQ ((iv_mono (iv_c (c := (-1)) (n := (-1)) (by decide)) (by decide) (by decide))) dX12_ordered_28
  · have q4 : 0 ≤ a1.toInt := ti_nlt c1
    have h5 : iv 0 2147483647 a1 := iv_geL (y := 0) h_a1 (iv_c (c := 0) (n := 0) (by decide)) q4 (by decide)
    refine lv_iload_n hx hb dX12_ordered_4 rfl (lv_at hl 1 rfl) ?_
    refine lv_aload_n hx hb dX12_ordered_5 rfl (lv_at hl 0 rfl) ?_
    refine tw_getr hx hb hW hown hK hS f_X12_45_11 hz_a0 hk_a0 (t := 23) (n := 226) rfl dX12_ordered_6 (fun b6 k7 hz_b6 hk_b6 hn_b6 => ?_)
    have hn_b6 := hn_b6 (by decide)
    refine lv_iconst (v := 4) hx hb dX12_ordered_9 (by decide) ?_
    refine tw_iald hx hb hK hS hz_b6 hk_b6 (Or.inr (by decide)) hn_b6 (lo := 0) (hi := 8) (iv_c (c := 4) (n := 4) (by decide)) ⟨by decide, by decide⟩ (rg_c (k0 := 4) rfl rfl rfl) dX12_ordered_10 (fun x10 k9 h8 => ?_)
    refine lv_icmp_ge (tgt := 27) hx hb dX12_ordered_11 (by decide) (fun c11 => ?_) (fun c11 => ?_)
    · have q12 : x10.toInt ≤ a1.toInt := ti_le c11
      refine lv_iconst (v := (-1)) hx hb dX12_ordered_27 (by decide) ?_
      exact tw_endi hx hb hr hlocks hK hT hS hQ ((iv_mono (iv_c (c := (-1)) (n := (-1)) (by decide)) (by decide) (by decide))) dX12_ordered_28
    · have q13 : a1.toInt < x10.toInt := ti_nle c11
      have h14 : iv 0 7 a1 := iv_ltL (y := x10) h5 h8 q13 (by decide)
      have h15 : iv 1 8 x10 := iv_gtL (y := a1) h8 h5 q13 (by decide)
      refine lv_aload_n hx hb dX12_ordered_14 rfl (lv_at hl 0 rfl) ?_
      refine tw_getrk hx hb hW hown hK hS f_X12_45_11 hz_a0 hk_a0 (b := b6) k7 dX12_ordered_15 ?_
      refine lv_sipush (v := 170) hx hb dX12_ordered_18 (by decide) ?_
      refine lv_iload_n hx hb dX12_ordered_21 rfl (lv_at hl 1 rfl) ?_
      refine tw_iadd (lo := 170) (hi := 177) hx hb (iv_c (c := 170) (n := 170) (by decide)) h14 ⟨by decide, by decide⟩ ⟨by decide, by decide⟩ dX12_ordered_22 (fun x18 e17 h16 => ?_)
      have e17 : x18.toInt = 170 + a1.toInt := e17
      refine tw_iald hx hb hK hS hz_b6 hk_b6 (Or.inr (by decide)) hn_b6 (lo := 0) (hi := 11) h16 ⟨by decide, by decide⟩ (rg_so ⟨by decide, by decide⟩) dX12_ordered_23 (fun x21 k20 h19 => ?_)
      refine lv_goto (tgt := 28) hx hb dX12_ordered_24 (by decide) ?_
      exact tw_endi hx hb hr hlocks hK hT hS hQ ((iv_mono h19 (by decide) (by decide))) dX12_ordered_28
def Lt_X12_plain : WL := []
def LRt_X12_plain : WL := []
set_option maxRecDepth 100000 in
set_option maxHeartbeats 4000000 in
theorem t_X12_plain (l : Launch) (D : va_G) (cy : Nat → ClassId) (tx : (Nat → Nat) × (Nat → Nat)) (base Z : Nat) (K N : Nat → Nat) (Ma : MT) (Ra : RT) (Ja : JT) (hTy : Ty Z K N Ma Ra) (a0 : Int32) (h_a0 : iv (-2147483648) 2147483647 a0) : Met l yX12_plain [Cond.code yX12_plain cX12_plain 1 (some .int)] (md_rm 1 0 0) (va_Pc [.int a0] (md_U D cy tx base Z K N Ma Ra Ja)) (mQi D cy tx base (fun r u => TP Z K N Lt_X12_plain LRt_X12_plain Ma Ra u ∧ (iv (-2147483648) 2147483647 r))) 0 0 (fun q => base ≤ q) := by
  refine tw_ofW (L := Lt_X12_plain) (LR := LRt_X12_plain) (by decide) (Nat.le_of_ble_eq_true rfl) hTy ?_
  intro p e s m args below meth c Q ls hx hb hr hlocks hown hml hW hK hT hS hQ hl
  have hl : lv_has ls 1 [(0, .int a0)] := hl
  refine lv_iload_n hx hb dX12_plain_0 rfl (lv_at hl 0 rfl) ?_
  refine lv_if_ge (tgt := 9) hx hb dX12_plain_1 (by decide) (fun c1 => ?_) (fun c1 => ?_)
  · have q2 : 0 ≤ a0.toInt := ti_le c1
    have h3 : iv 0 2147483647 a0 := iv_geL (y := 0) h_a0 (iv_c (c := 0) (n := 0) (by decide)) q2 (by decide)
    refine lv_iload_n hx hb dX12_plain_9 rfl (lv_at hl 0 rfl) ?_
    exact tw_endi hx hb hr hlocks hK hT hS hQ ((iv_mono h3 (by decide) (by decide))) dX12_plain_10
  · have q4 : a0.toInt < 0 := ti_nle c1
    have h5 : iv (-2147483648) (-1) a0 := iv_ltL (y := 0) h_a0 (iv_c (c := 0) (n := 0) (by decide)) q4 (by decide)
    refine lv_iload_n hx hb dX12_plain_4 rfl (lv_at hl 0 rfl) ?_
    refine lv_ineg hx hb dX12_plain_5 ?_
    refine tw_top (fun x7 => ?_)
    have h6 := iv_any x7
    refine lv_goto (tgt := 10) hx hb dX12_plain_6 (by decide) ?_
    exact tw_endi hx hb hr hlocks hK hT hS hQ (h6) dX12_plain_10
def Lt_X12_sets : WL := [(12, 31, 33)]
def LRt_X12_sets : WL := []
set_option maxRecDepth 100000 in
set_option maxHeartbeats 4000000 in
theorem t_X12_sets (l : Launch) (D : va_G) (cy : Nat → ClassId) (tx : (Nat → Nat) × (Nat → Nat)) (base Z : Nat) (K N : Nat → Nat) (Ma : MT) (Ra : RT) (Ja : JT) (hTy : Ty Z K N Ma Ra) (a0 : Nat) (hz_a0 : a0 < Z) (hk_a0 : K a0 = 12) (a1 : Int32) (h_a1 : iv 0 9 a1) (a2 : Int32) (h_a2 : iv (-2147483648) 2147483647 a2) : Met l yX12_sets [Cond.code yX12_sets cX12_sets 3 none] (md_rm 1 0 0) (va_Pc [.ref (base + a0), .int a1, .int a2] (md_U D cy tx base Z K N Ma Ra Ja)) (mQv D cy tx base (fun u => TP Z K N Lt_X12_sets LRt_X12_sets Ma Ra u ∧ (True))) 0 0 (fun q => base ≤ q) := by
  refine tw_ofW (L := Lt_X12_sets) (LR := LRt_X12_sets) (by decide) (Nat.le_of_ble_eq_true rfl) hTy ?_
  intro p e s m args below meth c Q ls hx hb hr hlocks hown hml hW hK hT hS hQ hl
  have hl : lv_has ls 3 [(0, .ref (base + a0)), (1, .int a1), (2, .int a2)] := hl
  refine lv_aload_n hx hb dX12_sets_0 rfl (lv_at hl 0 rfl) ?_
  refine lv_dup hx hb dX12_sets_1 rfl ?_
  refine tw_geti hx hb hW hown hK hS f_X12_364_11 hz_a0 hk_a0 (lo := (-2147483648)) (hi := 2147483647) rfl dX12_sets_2 (fun x3 k2 h1 => ?_)
  refine lv_iconst (v := 1) hx hb dX12_sets_5 (by decide) ?_
  refine lv_iload_n hx hb dX12_sets_6 rfl (lv_at hl 1 rfl) ?_
  refine lv_ishl hx hb dX12_sets_7 ?_
  refine tw_top (fun x5 => ?_)
  have h4 := iv_any x5
  refine lv_iconst (v := (-1)) hx hb dX12_sets_8 (by decide) ?_
  refine lv_ixor hx hb dX12_sets_9 ?_
  refine tw_top (fun x7 => ?_)
  have h6 := iv_any x7
  refine lv_iand hx hb dX12_sets_10 ?_
  refine tw_top (fun x9 => ?_)
  have h8 := iv_any x9
  refine tw_puti hx hb hW hown hK hS f_X12_364_11 hz_a0 hk_a0 rfl rfl (lo := (-2147483648)) (hi := 2147483647) rfl h8 rfl dX12_sets_11 (fun H locs M12 hS k10 f11 => ?_)
  refine lv_aload_n hx hb dX12_sets_14 rfl (lv_at hl 0 rfl) ?_
  refine lv_dup hx hb dX12_sets_15 rfl ?_
  refine tw_geti hx hb hW hown hK hS f_X12_367_11 hz_a0 hk_a0 (lo := (-2147483648)) (hi := 2147483647) rfl dX12_sets_16 (fun x15 k14 h13 => ?_)
  refine lv_iconst (v := 1) hx hb dX12_sets_19 (by decide) ?_
  refine lv_iload_n hx hb dX12_sets_20 rfl (lv_at hl 1 rfl) ?_
  refine lv_ishl hx hb dX12_sets_21 ?_
  refine tw_top (fun x17 => ?_)
  have h16 := iv_any x17
  refine lv_iconst (v := (-1)) hx hb dX12_sets_22 (by decide) ?_
  refine lv_ixor hx hb dX12_sets_23 ?_
  refine tw_top (fun x19 => ?_)
  have h18 := iv_any x19
  refine lv_iand hx hb dX12_sets_24 ?_
  refine tw_top (fun x21 => ?_)
  have h20 := iv_any x21
  refine tw_puti hx hb hW hown hK hS f_X12_367_11 hz_a0 hk_a0 rfl rfl (lo := (-2147483648)) (hi := 2147483647) rfl h20 rfl dX12_sets_25 (fun H locs M24 hS k22 f23 => ?_)
  refine lv_aload_n hx hb dX12_sets_28 rfl (lv_at hl 0 rfl) ?_
  refine lv_dup hx hb dX12_sets_29 rfl ?_
  have k25 : M24 a0 31 = x9 := (Fr.kp (k := 31) f23 hk_a0 rfl).trans k10
  refine tw_getk hx hb hW hown hK hS f_X12_364_11 hz_a0 hk_a0 (v := x9) k25 dX12_sets_30 ?_
  refine lv_iload_n hx hb dX12_sets_33 rfl (lv_at hl 2 rfl) ?_
  refine lv_iconst (v := 1) hx hb dX12_sets_34 (by decide) ?_
  refine lv_icmp_ne (tgt := 44) hx hb dX12_sets_35 (by decide) (fun c26 => ?_) (fun c26 => ?_)
  · have q27 : ¬ a2.toInt = 1 := ti_ne c26
    refine lv_iconst (v := 0) hx hb dX12_sets_44 (by decide) ?_
    refine lv_ior hx hb dX12_sets_45 ?_
    refine tw_top (fun x29 => ?_)
    have h28 := iv_any x29
    refine tw_puti hx hb hW hown hK hS f_X12_364_11 hz_a0 hk_a0 rfl rfl (lo := (-2147483648)) (hi := 2147483647) rfl h28 rfl dX12_sets_46 (fun H locs M32 hS k30 f31 => ?_)
    refine lv_aload_n hx hb dX12_sets_49 rfl (lv_at hl 0 rfl) ?_
    refine lv_dup hx hb dX12_sets_50 rfl ?_
    have k33 : M32 a0 32 = x21 := (Fr.kp (k := 32) f31 hk_a0 rfl).trans k22
    refine tw_getk hx hb hW hown hK hS f_X12_367_11 hz_a0 hk_a0 (v := x21) k33 dX12_sets_51 ?_
    refine lv_iload_n hx hb dX12_sets_54 rfl (lv_at hl 2 rfl) ?_
    refine lv_if_ne (tgt := 64) hx hb dX12_sets_55 (by decide) (fun c34 => ?_) (fun c34 => ?_)
    · have q35 : ¬ a2.toInt = 0 := ti_ne c34
      refine lv_iconst (v := 0) hx hb dX12_sets_64 (by decide) ?_
      refine lv_ior hx hb dX12_sets_65 ?_
      refine tw_top (fun x37 => ?_)
      have h36 := iv_any x37
      refine tw_puti hx hb hW hown hK hS f_X12_367_11 hz_a0 hk_a0 rfl rfl (lo := (-2147483648)) (hi := 2147483647) rfl h36 rfl dX12_sets_66 (fun H locs M40 hS k38 f39 => ?_)
      exact tw_endv hx hb hr hlocks hK hT hS hQ (trivial) dX12_sets_69
    · have q41 : a2.toInt = 0 := ti_eq c34
      have h42 : iv 0 0 a2 := ⟨by have := (h_a2).1; have := ((iv_c (c := 0) (n := 0) (by decide))).1; omega, by have := (h_a2).2; have := ((iv_c (c := 0) (n := 0) (by decide))).2; omega⟩
      refine lv_iconst (v := 1) hx hb dX12_sets_58 (by decide) ?_
      refine lv_iload_n hx hb dX12_sets_59 rfl (lv_at hl 1 rfl) ?_
      refine lv_ishl hx hb dX12_sets_60 ?_
      refine tw_top (fun x44 => ?_)
      have h43 := iv_any x44
      refine lv_goto (tgt := 65) hx hb dX12_sets_61 (by decide) ?_
      refine lv_ior hx hb dX12_sets_65 ?_
      refine tw_top (fun x46 => ?_)
      have h45 := iv_any x46
      refine tw_puti hx hb hW hown hK hS f_X12_367_11 hz_a0 hk_a0 rfl rfl (lo := (-2147483648)) (hi := 2147483647) rfl h45 rfl dX12_sets_66 (fun H locs M49 hS k47 f48 => ?_)
      exact tw_endv hx hb hr hlocks hK hT hS hQ (trivial) dX12_sets_69
  · have q50 : a2.toInt = 1 := ti_eq c26
    have h51 : iv 1 1 a2 := ⟨by have := (h_a2).1; have := ((iv_c (c := 1) (n := 1) (by decide))).1; omega, by have := (h_a2).2; have := ((iv_c (c := 1) (n := 1) (by decide))).2; omega⟩
    refine lv_iconst (v := 1) hx hb dX12_sets_38 (by decide) ?_
    refine lv_iload_n hx hb dX12_sets_39 rfl (lv_at hl 1 rfl) ?_
    refine lv_ishl hx hb dX12_sets_40 ?_
    refine tw_top (fun x53 => ?_)
    have h52 := iv_any x53
    refine lv_goto (tgt := 45) hx hb dX12_sets_41 (by decide) ?_
    refine lv_ior hx hb dX12_sets_45 ?_
    refine tw_top (fun x55 => ?_)
    have h54 := iv_any x55
    refine tw_puti hx hb hW hown hK hS f_X12_364_11 hz_a0 hk_a0 rfl rfl (lo := (-2147483648)) (hi := 2147483647) rfl h54 rfl dX12_sets_46 (fun H locs M58 hS k56 f57 => ?_)
    refine lv_aload_n hx hb dX12_sets_49 rfl (lv_at hl 0 rfl) ?_
    refine lv_dup hx hb dX12_sets_50 rfl ?_
    have k59 : M58 a0 32 = x21 := (Fr.kp (k := 32) f57 hk_a0 rfl).trans k22
    refine tw_getk hx hb hW hown hK hS f_X12_367_11 hz_a0 hk_a0 (v := x21) k59 dX12_sets_51 ?_
    refine lv_iload_n hx hb dX12_sets_54 rfl (lv_at hl 2 rfl) ?_
    refine lv_if_ne (tgt := 64) hx hb dX12_sets_55 (by decide) (fun c60 => ?_) (fun c60 => False.elim (by have q : a2.toInt = 0 := ti_eq c60; have := (h51).1; have := (h51).2; omega))
    have q61 : ¬ a2.toInt = 0 := ti_ne c60
    refine lv_iconst (v := 0) hx hb dX12_sets_64 (by decide) ?_
    refine lv_ior hx hb dX12_sets_65 ?_
    refine tw_top (fun x63 => ?_)
    have h62 := iv_any x63
    refine tw_puti hx hb hW hown hK hS f_X12_367_11 hz_a0 hk_a0 rfl rfl (lo := (-2147483648)) (hi := 2147483647) rfl h62 rfl dX12_sets_66 (fun H locs M66 hS k64 f65 => ?_)
    exact tw_endv hx hb hr hlocks hK hT hS hQ (trivial) dX12_sets_69
def Lt_X12_putsSide : WL := [(12, 31, 33)]
def LRt_X12_putsSide : WL := []
set_option maxRecDepth 100000 in
set_option maxHeartbeats 4000000 in
theorem t_X12_putsSide (l : Launch) (D : va_G) (cy : Nat → ClassId) (tx : (Nat → Nat) × (Nat → Nat)) (base Z : Nat) (K N : Nat → Nat) (Ma : MT) (Ra : RT) (Ja : JT) (hTy : Ty Z K N Ma Ra) (a0 : Nat) (hz_a0 : a0 < Z) (hk_a0 : K a0 = 12) (a1 : Int32) (h_a1 : iv (-2147483648) 2147483647 a1) (a2 : Int32) (h_a2 : iv 0 2 a2) : Met l yX12_putsSide [Cond.code yX12_putsSide cX12_putsSide 4 none] (md_rm 2 0 0) (va_Pc [.ref (base + a0), .int a1, .int a2] (md_U D cy tx base Z K N Ma Ra Ja)) (mQv D cy tx base (fun u => TP Z K N Lt_X12_putsSide LRt_X12_putsSide Ma Ra u ∧ (True))) 0 0 (fun q => base ≤ q) := by
  refine tw_ofW (L := Lt_X12_putsSide) (LR := LRt_X12_putsSide) (by decide) (Nat.le_of_ble_eq_true rfl) hTy ?_
  intro p e s m args below meth c Q ls hx hb hr hlocks hown hml hW hK hT hS hQ hl
  have hl : lv_has ls 4 [(0, .ref (base + a0)), (1, .int a1), (2, .int a2)] := hl
  refine lv_iconst (v := 0) hx hb dX12_putsSide_0 (by decide) ?_
  refine lv_istore_n (lv' := [(3, .int 0), (0, .ref (base + a0)), (1, .int a1), (2, .int a2)]) hx hb dX12_putsSide_1 rfl hl (by decide) rfl (fun ls hl => ?_)
  have W2_2 : ∀ (n_2 : Nat) (x1 : Int32) (M2 : MT) (R3 : RT) (J4 : JT) (H : Heap) (locs : List Loc) (ls : Array Slot) (h_x1 : iv 0 10 x1) (hm_2 : 10 - x1.toInt < (n_2 : Int)) (hS : SB D cy base Z K N Lt_X12_putsSide LRt_X12_putsSide Ma Ra M2 R3 J4 s H locs) (hl : lv_has ls 4 [(3, .int x1), (0, .ref (base + a0)), (1, .int a1), (2, .int a2)]), W p l e (md_rm 2 0 0) s m args below meth c H locs 0 0 Q (F0 m 2 ls []) := by
    intro n_2
    induction n_2 with
    | zero =>
      intro x1 M2 R3 J4 H locs ls h_x1 hm_2 hS hl
      exfalso
      have := (h_a1).1; have := (h_a1).2; have := (h_a2).1; have := (h_a2).2; have := (h_x1).1; have := (h_x1).2; omega
    | succ n_2 ih_2 =>
      intro x1 M2 R3 J4 H locs ls h_x1 hm_2 hS hl
      have f5 := hS.2.2.1
      have g6 := hS.2.2.2
      refine lv_iload_n hx hb dX12_putsSide_2 rfl (lv_at hl 0 rfl) ?_
      refine lv_aload_n hx hb dX12_putsSide_3 rfl (lv_at hl 1 rfl) ?_
      refine tw_getr hx hb hW hown hK hS f_X12_45_11 hz_a0 hk_a0 (t := 23) (n := 226) rfl dX12_putsSide_4 (fun b7 k8 hz_b7 hk_b7 hn_b7 => ?_)
      have hn_b7 := hn_b7 (by decide)
      refine lv_iconst (v := 0) hx hb dX12_putsSide_7 (by decide) ?_
      refine tw_iald hx hb hK hS hz_b7 hk_b7 (Or.inr (by decide)) hn_b7 (lo := 0) (hi := 10) (iv_c (c := 0) (n := 0) (by decide)) ⟨by decide, by decide⟩ (rg_c (k0 := 0) rfl rfl rfl) dX12_putsSide_8 (fun x11 k10 h9 => ?_)
      refine lv_icmp_ge (tgt := 49) hx hb dX12_putsSide_9 (by decide) (fun c12 => ?_) (fun c12 => ?_)
      · have q13 : x11.toInt ≤ x1.toInt := ti_le c12
        exact tw_endv hx hb hr hlocks hK hT hS hQ (trivial) dX12_putsSide_49
      · have q14 : x1.toInt < x11.toInt := ti_nle c12
        have h15 : iv 0 9 x1 := iv_ltL (y := x11) h_x1 h9 q14 (by decide)
        have h16 : iv 1 10 x11 := iv_gtL (y := x1) h9 h_x1 q14 (by decide)
        refine lv_iload_n hx hb dX12_putsSide_12 rfl (lv_at hl 2 rfl) ?_
        refine lv_iload_n hx hb dX12_putsSide_13 rfl (lv_at hl 0 rfl) ?_
        refine tw_goi hS (md_runS (As := [.int a1, .int x1]) (rest := []) hx hb hml hown hW hK hT hS.1 (t_X12_isOf l D cy tx base Z K N M2 R3 J4 hS.2.1 a1 h_a1 x1 h15) s_X12_322 ⟨rfl, rfl, ⟨Nat.le_of_ble_eq_true rfl, Nat.le_of_ble_eq_true rfl⟩, ⟨Nat.le_of_ble_eq_true rfl, Nat.le_of_ble_eq_true rfl⟩⟩ rfl hl.1 rfl (Nat.le_of_ble_eq_true rfl) dX12_putsSide_14) rfl rfl (fun x23 H locs M19 R20 J21 hS f17 g18 E22 => ?_)
        have h_x23 := E22
        refine lv_if_eq (tgt := 43) hx hb dX12_putsSide_17 (by decide) (fun c24 => ?_) (fun c24 => ?_)
        · have q25 : x23.toInt = 0 := ti_eq c24
          have h26 : iv 0 0 x23 := ⟨by have := (h_x23).1; have := ((iv_c (c := 0) (n := 0) (by decide))).1; omega, by have := (h_x23).2; have := ((iv_c (c := 0) (n := 0) (by decide))).2; omega⟩
          refine tw_iinc (lv' := fun x29 => [(3, .int x29), (0, .ref (base + a0)), (1, .int a1), (2, .int a2)]) (lo := 1) (hi := 10) hx hb dX12_putsSide_43 hl (k := 0) rfl h15 (by decide) ⟨by decide, by decide⟩ ⟨by decide, by decide⟩ (by decide) (fun _ => rfl) (fun x29 ls e28 h27 hl => ?_)
          refine lv_goto (tgt := 2) hx hb dX12_putsSide_46 (by decide) ?_
          have hm30 : 10 - x29.toInt < (n_2 : Int) := by
            have := (h_a1).1; have := (h_a1).2; have := (h_a2).1; have := (h_a2).2; have := (h15).1; have := (h15).2; have := (h27).1; have := (h27).2; omega
          exact ih_2 x29 M19 R20 J21 H locs _ (iv_mono h27 (by decide) (by decide)) hm30 hS hl
        · have q31 : ¬ x23.toInt = 0 := ti_ne c24
          have h32 : iv 1 1 x23 := ⟨by have := (h_x23).1; have := ((iv_c (c := 0) (n := 0) (by decide))).1; have := ((iv_c (c := 0) (n := 0) (by decide))).2; omega, by have := (h_x23).2; have := ((iv_c (c := 0) (n := 0) (by decide))).1; have := ((iv_c (c := 0) (n := 0) (by decide))).2; omega⟩
          refine lv_aload_n hx hb dX12_putsSide_20 rfl (lv_at hl 1 rfl) ?_
          refine lv_iload_n hx hb dX12_putsSide_21 rfl (lv_at hl 0 rfl) ?_
          refine lv_iload_n hx hb dX12_putsSide_22 rfl (lv_at hl 3 rfl) ?_
          refine lv_if_ne (tgt := 30) hx hb dX12_putsSide_23 (by decide) (fun c33 => ?_) (fun c33 => ?_)
          · have q34 : ¬ a2.toInt = 0 := ti_ne c33
            have h35 : iv 1 2 a2 := ⟨by have := (h_a2).1; have := ((iv_c (c := 0) (n := 0) (by decide))).1; have := ((iv_c (c := 0) (n := 0) (by decide))).2; omega, by have := (h_a2).2; have := ((iv_c (c := 0) (n := 0) (by decide))).1; have := ((iv_c (c := 0) (n := 0) (by decide))).2; omega⟩
            refine lv_iload_n hx hb dX12_putsSide_30 rfl (lv_at hl 3 rfl) ?_
            refine lv_iconst (v := 1) hx hb dX12_putsSide_31 (by decide) ?_
            refine lv_icmp_ne (tgt := 39) hx hb dX12_putsSide_32 (by decide) (fun c36 => ?_) (fun c36 => ?_)
            · have q37 : ¬ a2.toInt = 1 := ti_ne c36
              have h38 : iv 2 2 a2 := ⟨by have := (h35).1; have := ((iv_c (c := 1) (n := 1) (by decide))).1; have := ((iv_c (c := 1) (n := 1) (by decide))).2; omega, by have := (h35).2; have := ((iv_c (c := 1) (n := 1) (by decide))).1; have := ((iv_c (c := 1) (n := 1) (by decide))).2; omega⟩
              refine lv_iconst (v := 2) hx hb dX12_putsSide_39 (by decide) ?_
              refine tw_gov hS (md_runV (As := [.int x1, .int 2]) (rest := []) hx hb hml hown hW hK hT hS.1 (t_X12_sets l D cy tx base Z K N M19 R20 J21 hS.2.1 a0 hz_a0 hk_a0 x1 h15 2 (iv_mono (iv_c (c := 2) (n := 2) (by decide)) (by decide) (by decide))) s_X12_377 ⟨rfl, rfl, ⟨Nat.le_of_ble_eq_true rfl, Nat.le_of_ble_eq_true rfl⟩, ⟨Nat.le_of_ble_eq_true rfl, Nat.le_of_ble_eq_true rfl⟩⟩ hz_a0 hk_a0 (by decide) rfl rfl hl.1 rfl (Nat.le_of_ble_eq_true rfl) dX12_putsSide_40) rfl rfl (fun H locs M41 R42 J43 hS f39 g40 E44 => ?_)
              refine tw_iinc (lv' := fun x47 => [(3, .int x47), (0, .ref (base + a0)), (1, .int a1), (2, .int a2)]) (lo := 1) (hi := 10) hx hb dX12_putsSide_43 hl (k := 0) rfl h15 (by decide) ⟨by decide, by decide⟩ ⟨by decide, by decide⟩ (by decide) (fun _ => rfl) (fun x47 ls e46 h45 hl => ?_)
              refine lv_goto (tgt := 2) hx hb dX12_putsSide_46 (by decide) ?_
              have hm48 : 10 - x47.toInt < (n_2 : Int) := by
                have := (h_a1).1; have := (h_a1).2; have := (h38).1; have := (h38).2; have := (h15).1; have := (h15).2; have := (h45).1; have := (h45).2; omega
              exact ih_2 x47 M41 R42 J43 H locs _ (iv_mono h45 (by decide) (by decide)) hm48 hS hl
            · have q49 : a2.toInt = 1 := ti_eq c36
              have h50 : iv 1 1 a2 := ⟨by have := (h35).1; have := ((iv_c (c := 1) (n := 1) (by decide))).1; omega, by have := (h35).2; have := ((iv_c (c := 1) (n := 1) (by decide))).2; omega⟩
              refine lv_iconst (v := 0) hx hb dX12_putsSide_35 (by decide) ?_
              refine lv_goto (tgt := 40) hx hb dX12_putsSide_36 (by decide) ?_
              refine tw_gov hS (md_runV (As := [.int x1, .int 0]) (rest := []) hx hb hml hown hW hK hT hS.1 (t_X12_sets l D cy tx base Z K N M19 R20 J21 hS.2.1 a0 hz_a0 hk_a0 x1 h15 0 (iv_mono (iv_c (c := 0) (n := 0) (by decide)) (by decide) (by decide))) s_X12_377 ⟨rfl, rfl, ⟨Nat.le_of_ble_eq_true rfl, Nat.le_of_ble_eq_true rfl⟩, ⟨Nat.le_of_ble_eq_true rfl, Nat.le_of_ble_eq_true rfl⟩⟩ hz_a0 hk_a0 (by decide) rfl rfl hl.1 rfl (Nat.le_of_ble_eq_true rfl) dX12_putsSide_40) rfl rfl (fun H locs M53 R54 J55 hS f51 g52 E56 => ?_)
              refine tw_iinc (lv' := fun x59 => [(3, .int x59), (0, .ref (base + a0)), (1, .int a1), (2, .int a2)]) (lo := 1) (hi := 10) hx hb dX12_putsSide_43 hl (k := 0) rfl h15 (by decide) ⟨by decide, by decide⟩ ⟨by decide, by decide⟩ (by decide) (fun _ => rfl) (fun x59 ls e58 h57 hl => ?_)
              refine lv_goto (tgt := 2) hx hb dX12_putsSide_46 (by decide) ?_
              have hm60 : 10 - x59.toInt < (n_2 : Int) := by
                have := (h_a1).1; have := (h_a1).2; have := (h50).1; have := (h50).2; have := (h15).1; have := (h15).2; have := (h57).1; have := (h57).2; omega
              exact ih_2 x59 M53 R54 J55 H locs _ (iv_mono h57 (by decide) (by decide)) hm60 hS hl
          · have q61 : a2.toInt = 0 := ti_eq c33
            have h62 : iv 0 0 a2 := ⟨by have := (h_a2).1; have := ((iv_c (c := 0) (n := 0) (by decide))).1; omega, by have := (h_a2).2; have := ((iv_c (c := 0) (n := 0) (by decide))).2; omega⟩
            refine lv_iconst (v := 1) hx hb dX12_putsSide_26 (by decide) ?_
            refine lv_goto (tgt := 40) hx hb dX12_putsSide_27 (by decide) ?_
            refine tw_gov hS (md_runV (As := [.int x1, .int 1]) (rest := []) hx hb hml hown hW hK hT hS.1 (t_X12_sets l D cy tx base Z K N M19 R20 J21 hS.2.1 a0 hz_a0 hk_a0 x1 h15 1 (iv_mono (iv_c (c := 1) (n := 1) (by decide)) (by decide) (by decide))) s_X12_377 ⟨rfl, rfl, ⟨Nat.le_of_ble_eq_true rfl, Nat.le_of_ble_eq_true rfl⟩, ⟨Nat.le_of_ble_eq_true rfl, Nat.le_of_ble_eq_true rfl⟩⟩ hz_a0 hk_a0 (by decide) rfl rfl hl.1 rfl (Nat.le_of_ble_eq_true rfl) dX12_putsSide_40) rfl rfl (fun H locs M65 R66 J67 hS f63 g64 E68 => ?_)
            refine tw_iinc (lv' := fun x71 => [(3, .int x71), (0, .ref (base + a0)), (1, .int a1), (2, .int a2)]) (lo := 1) (hi := 10) hx hb dX12_putsSide_43 hl (k := 0) rfl h15 (by decide) ⟨by decide, by decide⟩ ⟨by decide, by decide⟩ (by decide) (fun _ => rfl) (fun x71 ls e70 h69 hl => ?_)
            refine lv_goto (tgt := 2) hx hb dX12_putsSide_46 (by decide) ?_
            have hm72 : 10 - x71.toInt < (n_2 : Int) := by
              have := (h_a1).1; have := (h_a1).2; have := (h62).1; have := (h62).2; have := (h15).1; have := (h15).2; have := (h69).1; have := (h69).2; omega
            exact ih_2 x71 M65 R66 J67 H locs _ (iv_mono h69 (by decide) (by decide)) hm72 hS hl
  have hm73 : 10 - (0 : Int32).toInt < (((11 : Nat) : Int) : Int) := by
    have := (h_a1).1; have := (h_a1).2; have := (h_a2).1; have := (h_a2).2; have : (0 : Int32).toInt = 0 := (by decide); omega
  exact W2_2 11 0 Ma Ra Ja s.heap [] _ (iv_mono (iv_c (c := 0) (n := 0) (by decide)) (by decide) (by decide)) hm73 hS hl
