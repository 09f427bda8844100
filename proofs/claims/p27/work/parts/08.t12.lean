def Lt_X12_count : WL := []
def LRt_X12_count : WL := []
set_option maxRecDepth 100000 in
set_option maxHeartbeats 4000000 in
theorem t_X12_count (l : Launch) (D : va_G) (cy : Nat → ClassId) (tx : (Nat → Nat) × (Nat → Nat)) (base Z : Nat) (K N : Nat → Nat) (Ma : MT) (Ra : RT) (Ja : JT) (hTy : Ty Z K N Ma Ra) (a0 : Nat) (hz_a0 : a0 < Z) (hk_a0 : K a0 = 12) (a1 : Int32) (h_a1 : iv (-2147483648) 2147483647 a1) : Met l yX12_count [Cond.code yX12_count cX12_count 4 (some .int)] (md_rm 2 0 0) (va_Pc [.ref (base + a0), .int a1] (md_U D cy tx base Z K N Ma Ra Ja)) (mQi D cy tx base (fun r u => TP Z K N Lt_X12_count LRt_X12_count Ma Ra u ∧ (iv (-2147483648) 2147483647 r))) 0 0 (fun q => base ≤ q) := by
  refine tw_ofW (L := Lt_X12_count) (LR := LRt_X12_count) (by decide) (Nat.le_of_ble_eq_true rfl) hTy ?_
  intro p e s m args below meth c Q ls hx hb hr hlocks hown hml hW hK hT hS hQ hl
  have hl : lv_has ls 4 [(0, .ref (base + a0)), (1, .int a1)] := hl
  refine lv_iconst (v := 0) hx hb dX12_count_0 (by decide) ?_
  refine lv_istore_n (lv' := [(2, .int 0), (0, .ref (base + a0)), (1, .int a1)]) hx hb dX12_count_1 rfl hl (by decide) rfl (fun ls hl => ?_)
  refine lv_iload_n hx hb dX12_count_2 rfl (lv_at hl 2 rfl) ?_
  by_cases c1 : a1 = 0
  · subst c1
    refine lv_tableIn (off := 61) (tgt := 64) hx hb dX12_count_3 (by decide) (by decide) rfl (by decide) ?_
    refine lv_aload_n hx hb dX12_count_64 rfl (lv_at hl 1 rfl) ?_
    refine tw_getr hx hb hW hown hK hS f_X12_45_11 hz_a0 hk_a0 (t := 23) (n := 226) rfl dX12_count_65 (fun b2 k3 hz_b2 hk_b2 hn_b2 => ?_)
    have hn_b2 := hn_b2 (by decide)
    refine lv_iload_n hx hb dX12_count_68 rfl (lv_at hl 2 rfl) ?_
    refine tw_iald hx hb hK hS hz_b2 hk_b2 (Or.inr (by decide)) hn_b2 (lo := 0) (hi := 10) (iv_c (c := 0) (n := 0) (by decide)) ⟨by decide, by decide⟩ (rg_c (k0 := 0) rfl rfl rfl) dX12_count_69 (fun x6 k5 h4 => ?_)
    exact tw_endi hx hb hr hlocks hK hT hS hQ ((iv_mono h4 (by decide) (by decide))) dX12_count_70
  have q7 : ¬ a1.toInt = 0 := ti_ne c1
  by_cases c8 : a1 = 1
  · subst c8
    refine lv_tableIn (off := 61) (tgt := 64) hx hb dX12_count_3 (by decide) (by decide) rfl (by decide) ?_
    refine lv_aload_n hx hb dX12_count_64 rfl (lv_at hl 1 rfl) ?_
    refine tw_getr hx hb hW hown hK hS f_X12_45_11 hz_a0 hk_a0 (t := 23) (n := 226) rfl dX12_count_65 (fun b9 k10 hz_b9 hk_b9 hn_b9 => ?_)
    have hn_b9 := hn_b9 (by decide)
    refine lv_iload_n hx hb dX12_count_68 rfl (lv_at hl 2 rfl) ?_
    refine tw_iald hx hb hK hS hz_b9 hk_b9 (Or.inr (by decide)) hn_b9 (lo := 0) (hi := 12) (iv_c (c := 1) (n := 1) (by decide)) ⟨by decide, by decide⟩ (rg_c (k0 := 1) rfl rfl rfl) dX12_count_69 (fun x13 k12 h11 => ?_)
    exact tw_endi hx hb hr hlocks hK hT hS hQ ((iv_mono h11 (by decide) (by decide))) dX12_count_70
  have q14 : ¬ a1.toInt = 1 := ti_ne c8
  by_cases c15 : a1 = 2
  · subst c15
    refine lv_tableIn (off := 68) (tgt := 71) hx hb dX12_count_3 (by decide) (by decide) rfl (by decide) ?_
    refine lv_aload_n hx hb dX12_count_71 rfl (lv_at hl 1 rfl) ?_
    refine tw_geti hx hb hW hown hK hS f_X12_298_11 hz_a0 hk_a0 (lo := 0) (hi := 6) rfl dX12_count_72 (fun x18 k17 h16 => ?_)
    exact tw_endi hx hb hr hlocks hK hT hS hQ ((iv_mono h16 (by decide) (by decide))) dX12_count_75
  have q19 : ¬ a1.toInt = 2 := ti_ne c15
  by_cases c20 : a1 = 3
  · subst c20
    refine lv_tableIn (off := 73) (tgt := 76) hx hb dX12_count_3 (by decide) (by decide) rfl (by decide) ?_
    refine lv_aload_n hx hb dX12_count_76 rfl (lv_at hl 1 rfl) ?_
    refine tw_getr hx hb hW hown hK hS f_X12_45_11 hz_a0 hk_a0 (t := 23) (n := 226) rfl dX12_count_77 (fun b21 k22 hz_b21 hk_b21 hn_b21 => ?_)
    have hn_b21 := hn_b21 (by decide)
    refine lv_iconst (v := 2) hx hb dX12_count_80 (by decide) ?_
    refine tw_iald hx hb hK hS hz_b21 hk_b21 (Or.inr (by decide)) hn_b21 (lo := (-2147483648)) (hi := 2147483647) (iv_c (c := 2) (n := 2) (by decide)) ⟨by decide, by decide⟩ (rg_c (k0 := 2) rfl rfl rfl) dX12_count_81 (fun x25 k24 h23 => ?_)
    refine tw_goi hS (md_runS (As := [.int x25]) (rest := []) hx hb hml hown hW hK hT hS.1 (t_X12_bits l D cy tx base Z K N Ma Ra Ja hS.2.1 x25 h23) s_X12_341 ⟨rfl, rfl, ⟨Nat.le_of_ble_eq_true rfl, Nat.le_of_ble_eq_true rfl⟩, ⟨Nat.le_of_ble_eq_true rfl, Nat.le_of_ble_eq_true rfl⟩⟩ rfl hl.1 rfl (Nat.le_of_ble_eq_true rfl) dX12_count_82) rfl rfl (fun x32 H locs M29 R30 J28 hS f26 g27 E31 => ?_)
    have eM29 := Fr.nil f26 rfl
    subst eM29
    have eR30 := Fr.nil g27 rfl
    subst eR30
    have h_x32 := E31
    exact tw_endi hx hb hr hlocks hK hT hS hQ (h_x32) dX12_count_85
  have q33 : ¬ a1.toInt = 3 := ti_ne c20
  by_cases c34 : a1 = 4
  · subst c34
    refine lv_tableIn (off := 83) (tgt := 86) hx hb dX12_count_3 (by decide) (by decide) rfl (by decide) ?_
    refine lv_iconst (v := 0) hx hb dX12_count_86 (by decide) ?_
    refine lv_istore_n (lv' := [(3, .int 0), (2, .int 0), (0, .ref (base + a0)), (1, .int 4)]) hx hb dX12_count_87 rfl hl (by decide) rfl (fun ls hl => ?_)
    have W88_37 : ∀ (n_37 : Nat) (x35 : Int32) (x36 : Int32) (M37 : MT) (R38 : RT) (J39 : JT) (H : Heap) (locs : List Loc) (ls : Array Slot) (h_x35 : iv (-2147483648) 2147483647 x35) (h_x36 : iv 0 10 x36) (hm_37 : 10 - x36.toInt < (n_37 : Int)) (hS : SB D cy base Z K N Lt_X12_count LRt_X12_count Ma Ra M37 R38 J39 s H locs) (hl : lv_has ls 4 [(2, .int x35), (3, .int x36), (0, .ref (base + a0)), (1, .int 4)]), W p l e (md_rm 2 0 0) s m args below meth c H locs 0 0 Q (F0 m 88 ls []) := by
      intro n_37
      induction n_37 with
      | zero =>
        intro x35 x36 M37 R38 J39 H locs ls h_x35 h_x36 hm_37 hS hl
        exfalso
        have := (h_x36).1; have := (h_x36).2; omega
      | succ n_37 ih_37 =>
        intro x35 x36 M37 R38 J39 H locs ls h_x35 h_x36 hm_37 hS hl
        have f40 := hS.2.2.1
        have g41 := hS.2.2.2
        refine lv_iload_n hx hb dX12_count_88 rfl (lv_at hl 1 rfl) ?_
        refine lv_aload_n hx hb dX12_count_89 rfl (lv_at hl 2 rfl) ?_
        refine tw_getr hx hb hW hown hK hS f_X12_45_11 hz_a0 hk_a0 (t := 23) (n := 226) rfl dX12_count_90 (fun b42 k43 hz_b42 hk_b42 hn_b42 => ?_)
        have hn_b42 := hn_b42 (by decide)
        refine lv_iconst (v := 0) hx hb dX12_count_93 (by decide) ?_
        refine tw_iald hx hb hK hS hz_b42 hk_b42 (Or.inr (by decide)) hn_b42 (lo := 0) (hi := 10) (iv_c (c := 0) (n := 0) (by decide)) ⟨by decide, by decide⟩ (rg_c (k0 := 0) rfl rfl rfl) dX12_count_94 (fun x46 k45 h44 => ?_)
        refine lv_icmp_ge (tgt := 133) hx hb dX12_count_95 (by decide) (fun c47 => ?_) (fun c47 => ?_)
        · have q48 : x46.toInt ≤ x36.toInt := ti_le c47
          refine lv_iload_n hx hb dX12_count_133 rfl (lv_at hl 0 rfl) ?_
          exact tw_endi hx hb hr hlocks hK hT hS hQ (h_x35) dX12_count_134
        · have q49 : x36.toInt < x46.toInt := ti_nle c47
          have h50 : iv 0 9 x36 := iv_ltL (y := x46) h_x36 h44 q49 (by decide)
          have h51 : iv 1 10 x46 := iv_gtL (y := x36) h44 h_x36 q49 (by decide)
          refine lv_iload_n hx hb dX12_count_98 rfl (lv_at hl 0 rfl) ?_
          refine lv_aload_n hx hb dX12_count_99 rfl (lv_at hl 2 rfl) ?_
          refine tw_getrk hx hb hW hown hK hS f_X12_45_11 hz_a0 hk_a0 (b := b42) k43 dX12_count_100 ?_
          refine lv_iconst (v := 2) hx hb dX12_count_103 (by decide) ?_
          refine tw_iald hx hb hK hS hz_b42 hk_b42 (Or.inr (by decide)) hn_b42 (lo := (-2147483648)) (hi := 2147483647) (iv_c (c := 2) (n := 2) (by decide)) ⟨by decide, by decide⟩ (rg_c (k0 := 2) rfl rfl rfl) dX12_count_104 (fun x54 k53 h52 => ?_)
          refine lv_iload_n hx hb dX12_count_105 rfl (lv_at hl 1 rfl) ?_
          refine tw_goi hS (md_runS (As := [.int x54, .int x36]) (rest := [.int x35]) hx hb hml hown hW hK hT hS.1 (t_X12_isOf l D cy tx base Z K N M37 R38 J39 hS.2.1 x54 h52 x36 h50) s_X12_322 ⟨rfl, rfl, ⟨Nat.le_of_ble_eq_true rfl, Nat.le_of_ble_eq_true rfl⟩, ⟨Nat.le_of_ble_eq_true rfl, Nat.le_of_ble_eq_true rfl⟩⟩ rfl hl.1 rfl (Nat.le_of_ble_eq_true rfl) dX12_count_106) rfl rfl (fun x61 H locs M58 R59 J57 hS f55 g56 E60 => ?_)
          have eM58 := Fr.nil f55 rfl
          subst eM58
          have eR59 := Fr.nil g56 rfl
          subst eR59
          have h_x61 := E60
          refine lv_if_eq (tgt := 124) hx hb dX12_count_109 (by decide) (fun c62 => ?_) (fun c62 => ?_)
          · have q63 : x61.toInt = 0 := ti_eq c62
            have h64 : iv 0 0 x61 := ⟨by have := (h_x61).1; have := ((iv_c (c := 0) (n := 0) (by decide))).1; omega, by have := (h_x61).2; have := ((iv_c (c := 0) (n := 0) (by decide))).2; omega⟩
            refine lv_iconst (v := 0) hx hb dX12_count_124 (by decide) ?_
            refine tw_iadd (lo := (-2147483648)) (hi := 2147483647) hx hb h_x35 (iv_c (c := 0) (n := 0) (by decide)) ⟨by decide, by decide⟩ ⟨by decide, by decide⟩ dX12_count_125 (fun x67 e66 h65 => ?_)
            have e66 : x67.toInt = x35.toInt + 0 := e66
            refine lv_istore_n (lv' := [(2, .int x67), (3, .int x36), (0, .ref (base + a0)), (1, .int 4)]) hx hb dX12_count_126 rfl hl (by decide) rfl (fun ls hl => ?_)
            refine tw_iinc (lv' := fun x70 => [(3, .int x70), (2, .int x67), (0, .ref (base + a0)), (1, .int 4)]) (lo := 1) (hi := 10) hx hb dX12_count_127 hl (k := 1) rfl h50 (by decide) ⟨by decide, by decide⟩ ⟨by decide, by decide⟩ (by decide) (fun _ => rfl) (fun x70 ls e69 h68 hl => ?_)
            refine lv_goto (tgt := 88) hx hb dX12_count_130 (by decide) ?_
            have hm71 : 10 - x70.toInt < (n_37 : Int) := by
              have := (h50).1; have := (h50).2; have := (h68).1; have := (h68).2; omega
            exact ih_37 x67 x70 M37 R38 J57 H locs _ h65 (iv_mono h68 (by decide) (by decide)) hm71 hS (lv_sub hl [1, 0, 2, 3] rfl)
          · have q72 : ¬ x61.toInt = 0 := ti_ne c62
            have h73 : iv 1 1 x61 := ⟨by have := (h_x61).1; have := ((iv_c (c := 0) (n := 0) (by decide))).1; have := ((iv_c (c := 0) (n := 0) (by decide))).2; omega, by have := (h_x61).2; have := ((iv_c (c := 0) (n := 0) (by decide))).1; have := ((iv_c (c := 0) (n := 0) (by decide))).2; omega⟩
            refine lv_aload_n hx hb dX12_count_112 rfl (lv_at hl 2 rfl) ?_
            refine tw_getrk hx hb hW hown hK hS f_X12_45_11 hz_a0 hk_a0 (b := b42) k43 dX12_count_113 ?_
            refine lv_bipush (v := 10) hx hb dX12_count_116 (by decide) ?_
            refine lv_iload_n hx hb dX12_count_118 rfl (lv_at hl 1 rfl) ?_
            refine tw_iadd (lo := 10) (hi := 19) hx hb (iv_c (c := 10) (n := 10) (by decide)) h50 ⟨by decide, by decide⟩ ⟨by decide, by decide⟩ dX12_count_119 (fun x76 e75 h74 => ?_)
            have e75 : x76.toInt = 10 + x36.toInt := e75
            refine tw_iald hx hb hK hS hz_b42 hk_b42 (Or.inr (by decide)) hn_b42 (lo := 0) (hi := 9999) h74 ⟨by decide, by decide⟩ (rg_sv ⟨by decide, by decide⟩) dX12_count_120 (fun x79 k78 h77 => ?_)
            refine lv_goto (tgt := 125) hx hb dX12_count_121 (by decide) ?_
            refine lv_iadd hx hb dX12_count_125 ?_
            refine tw_top (fun x81 => ?_)
            have h80 := iv_any x81
            refine lv_istore_n (lv' := [(2, .int x81), (3, .int x36), (0, .ref (base + a0)), (1, .int 4)]) hx hb dX12_count_126 rfl hl (by decide) rfl (fun ls hl => ?_)
            refine tw_iinc (lv' := fun x84 => [(3, .int x84), (2, .int x81), (0, .ref (base + a0)), (1, .int 4)]) (lo := 1) (hi := 10) hx hb dX12_count_127 hl (k := 1) rfl h50 (by decide) ⟨by decide, by decide⟩ ⟨by decide, by decide⟩ (by decide) (fun _ => rfl) (fun x84 ls e83 h82 hl => ?_)
            refine lv_goto (tgt := 88) hx hb dX12_count_130 (by decide) ?_
            have hm85 : 10 - x84.toInt < (n_37 : Int) := by
              have := (h50).1; have := (h50).2; have := (h74).1; have := (h74).2; have := (h82).1; have := (h82).2; omega
            exact ih_37 x81 x84 M37 R38 J57 H locs _ h80 (iv_mono h82 (by decide) (by decide)) hm85 hS (lv_sub hl [1, 0, 2, 3] rfl)
    have hm86 : 10 - (0 : Int32).toInt < (((11 : Nat) : Int) : Int) := by
      have : (0 : Int32).toInt = 0 := (by decide); omega
    exact W88_37 11 0 0 Ma Ra Ja s.heap [] _ (iv_mono (iv_c (c := 0) (n := 0) (by decide)) (by decide) (by decide)) (iv_mono (iv_c (c := 0) (n := 0) (by decide)) (by decide) (by decide)) hm86 hS (lv_sub hl [1, 0, 2, 3] rfl)
  have q87 : ¬ a1.toInt = 4 := ti_ne c34
  by_cases c88 : a1 = 5
  · subst c88
    refine lv_tableIn (off := 132) (tgt := 135) hx hb dX12_count_3 (by decide) (by decide) rfl (by decide) ?_
    refine lv_aload_n hx hb dX12_count_135 rfl (lv_at hl 1 rfl) ?_
    refine tw_getr hx hb hW hown hK hS f_X12_45_11 hz_a0 hk_a0 (t := 23) (n := 226) rfl dX12_count_136 (fun b89 k90 hz_b89 hk_b89 hn_b89 => ?_)
    have hn_b89 := hn_b89 (by decide)
    refine lv_iconst (v := 3) hx hb dX12_count_139 (by decide) ?_
    refine tw_iald hx hb hK hS hz_b89 hk_b89 (Or.inr (by decide)) hn_b89 (lo := (-2147483648)) (hi := 2147483647) (iv_c (c := 3) (n := 3) (by decide)) ⟨by decide, by decide⟩ (rg_c (k0 := 3) rfl rfl rfl) dX12_count_140 (fun x93 k92 h91 => ?_)
    exact tw_endi hx hb hr hlocks hK hT hS hQ (h91) dX12_count_141
  have q94 : ¬ a1.toInt = 5 := ti_ne c88
  by_cases c95 : a1 = 6
  · subst c95
    refine lv_tableIn (off := 139) (tgt := 142) hx hb dX12_count_3 (by decide) (by decide) rfl (by decide) ?_
    refine lv_aload_n hx hb dX12_count_142 rfl (lv_at hl 1 rfl) ?_
    refine tw_getr hx hb hW hown hK hS f_X12_45_11 hz_a0 hk_a0 (t := 23) (n := 226) rfl dX12_count_143 (fun b96 k97 hz_b96 hk_b96 hn_b96 => ?_)
    have hn_b96 := hn_b96 (by decide)
    refine lv_iconst (v := 4) hx hb dX12_count_146 (by decide) ?_
    refine tw_iald hx hb hK hS hz_b96 hk_b96 (Or.inr (by decide)) hn_b96 (lo := 0) (hi := 8) (iv_c (c := 4) (n := 4) (by decide)) ⟨by decide, by decide⟩ (rg_c (k0 := 4) rfl rfl rfl) dX12_count_147 (fun x100 k99 h98 => ?_)
    exact tw_endi hx hb hr hlocks hK hT hS hQ ((iv_mono h98 (by decide) (by decide))) dX12_count_148
  have q101 : ¬ a1.toInt = 6 := ti_ne c95
  by_cases c102 : a1 = 7
  · subst c102
    refine lv_tableIn (off := 146) (tgt := 149) hx hb dX12_count_3 (by decide) (by decide) rfl (by decide) ?_
    refine lv_aload_n hx hb dX12_count_149 rfl (lv_at hl 1 rfl) ?_
    refine tw_getr hx hb hW hown hK hS f_X12_45_11 hz_a0 hk_a0 (t := 23) (n := 226) rfl dX12_count_150 (fun b103 k104 hz_b103 hk_b103 hn_b103 => ?_)
    have hn_b103 := hn_b103 (by decide)
    refine lv_iconst (v := 5) hx hb dX12_count_153 (by decide) ?_
    refine tw_iald hx hb hK hS hz_b103 hk_b103 (Or.inr (by decide)) hn_b103 (lo := 0) (hi := 12) (iv_c (c := 5) (n := 5) (by decide)) ⟨by decide, by decide⟩ (rg_c (k0 := 5) rfl rfl rfl) dX12_count_154 (fun x107 k106 h105 => ?_)
    exact tw_endi hx hb hr hlocks hK hT hS hQ ((iv_mono h105 (by decide) (by decide))) dX12_count_155
  have q108 : ¬ a1.toInt = 7 := ti_ne c102
  by_cases c109 : a1 = 8
  · subst c109
    refine lv_tableIn (off := 153) (tgt := 156) hx hb dX12_count_3 (by decide) (by decide) rfl (by decide) ?_
    refine lv_aload_n hx hb dX12_count_156 rfl (lv_at hl 1 rfl) ?_
    refine tw_getr hx hb hW hown hK hS f_X12_45_11 hz_a0 hk_a0 (t := 23) (n := 226) rfl dX12_count_157 (fun b110 k111 hz_b110 hk_b110 hn_b110 => ?_)
    have hn_b110 := hn_b110 (by decide)
    refine lv_bipush (v := 6) hx hb dX12_count_160 (by decide) ?_
    refine tw_iald hx hb hK hS hz_b110 hk_b110 (Or.inr (by decide)) hn_b110 (lo := 0) (hi := 2147483647) (iv_c (c := 6) (n := 6) (by decide)) ⟨by decide, by decide⟩ (rg_c (k0 := 6) rfl rfl rfl) dX12_count_162 (fun x114 k113 h112 => ?_)
    exact tw_endi hx hb hr hlocks hK hT hS hQ ((iv_mono h112 (by decide) (by decide))) dX12_count_163
  have q115 : ¬ a1.toInt = 8 := ti_ne c109
  by_cases c116 : a1 = 9
  · subst c116
    refine lv_tableIn (off := 161) (tgt := 164) hx hb dX12_count_3 (by decide) (by decide) rfl (by decide) ?_
    refine lv_aload_n hx hb dX12_count_164 rfl (lv_at hl 1 rfl) ?_
    refine tw_geti hx hb hW hown hK hS f_X12_116_11 hz_a0 hk_a0 (lo := 0) (hi := 400) rfl dX12_count_165 (fun x119 k118 h117 => ?_)
    exact tw_endi hx hb hr hlocks hK hT hS hQ ((iv_mono h117 (by decide) (by decide))) dX12_count_168
  have q120 : ¬ a1.toInt = 9 := ti_ne c116
  by_cases c121 : a1 = 10
  · subst c121
    refine lv_tableIn (off := 166) (tgt := 169) hx hb dX12_count_3 (by decide) (by decide) rfl (by decide) ?_
    refine lv_aload_n hx hb dX12_count_169 rfl (lv_at hl 1 rfl) ?_
    refine tw_getr hx hb hW hown hK hS f_X12_45_11 hz_a0 hk_a0 (t := 23) (n := 226) rfl dX12_count_170 (fun b122 k123 hz_b122 hk_b122 hn_b122 => ?_)
    have hn_b122 := hn_b122 (by decide)
    refine lv_iload_n hx hb dX12_count_173 rfl (lv_at hl 2 rfl) ?_
    refine lv_iconst (v := 3) hx hb dX12_count_174 (by decide) ?_
    refine lv_isub hx hb dX12_count_175 ?_
    refine md_top (y := 7) (by decide) ?_
    refine tw_iald hx hb hK hS hz_b122 hk_b122 (Or.inr (by decide)) hn_b122 (lo := (-2147483648)) (hi := 2147483647) (iv_c (c := 7) (n := 7) (by decide)) ⟨by decide, by decide⟩ (rg_c (k0 := 7) rfl rfl rfl) dX12_count_176 (fun x126 k125 h124 => ?_)
    exact tw_endi hx hb hr hlocks hK hT hS hQ (h124) dX12_count_177
  have q127 : ¬ a1.toInt = 10 := ti_ne c121
  by_cases c128 : a1 = 11
  · subst c128
    refine lv_tableIn (off := 166) (tgt := 169) hx hb dX12_count_3 (by decide) (by decide) rfl (by decide) ?_
    refine lv_aload_n hx hb dX12_count_169 rfl (lv_at hl 1 rfl) ?_
    refine tw_getr hx hb hW hown hK hS f_X12_45_11 hz_a0 hk_a0 (t := 23) (n := 226) rfl dX12_count_170 (fun b129 k130 hz_b129 hk_b129 hn_b129 => ?_)
    have hn_b129 := hn_b129 (by decide)
    refine lv_iload_n hx hb dX12_count_173 rfl (lv_at hl 2 rfl) ?_
    refine lv_iconst (v := 3) hx hb dX12_count_174 (by decide) ?_
    refine lv_isub hx hb dX12_count_175 ?_
    refine md_top (y := 8) (by decide) ?_
    refine tw_iald hx hb hK hS hz_b129 hk_b129 (Or.inr (by decide)) hn_b129 (lo := 0) (hi := 9999) (iv_c (c := 8) (n := 8) (by decide)) ⟨by decide, by decide⟩ (rg_c (k0 := 8) rfl rfl rfl) dX12_count_176 (fun x133 k132 h131 => ?_)
    exact tw_endi hx hb hr hlocks hK hT hS hQ ((iv_mono h131 (by decide) (by decide))) dX12_count_177
  have q134 : ¬ a1.toInt = 11 := ti_ne c128
  refine lv_tableOut (tgt := 178) hx hb dX12_count_3 (by have := (h_a1).1; have := (h_a1).2; omega) (by decide) ?_
  refine lv_iconst (v := (-1)) hx hb dX12_count_178 (by decide) ?_
  exact tw_endi hx hb hr hlocks hK hT hS hQ ((iv_mono (iv_c (c := (-1)) (n := (-1)) (by decide)) (by decide) (by decide))) dX12_count_179
def Lt_X12_day : WL := [(12, 23, 24), (12, 28, 29), (12, 30, 33), (12, 35, 37), (14, 0, 2000000), (23, 3, 4), (23, 10, 20), (23, 30, 50), (30, 0, 2000000), (31, 0, 2000000)]
def LRt_X12_day : WL := []
set_option maxRecDepth 100000 in
set_option maxHeartbeats 4000000 in
theorem t_X12_day (l : Launch) (D : va_G) (cy : Nat → ClassId) (tx : (Nat → Nat) × (Nat → Nat)) (base Z : Nat) (K N : Nat → Nat) (Ma : MT) (Ra : RT) (Ja : JT) (hTy : Ty Z K N Ma Ra) (a0 : Nat) (hz_a0 : a0 < Z) (hk_a0 : K a0 = 12) (co_a0 : Codes Ma Ra a0) : Met l yX12_day [Cond.code yX12_day cX12_day 1 (some .int)] (md_rm 6 0 0) (va_Pc [.ref (base + a0)] (md_U D cy tx base Z K N Ma Ra Ja)) (mQi D cy tx base (fun r u => TP Z K N Lt_X12_day LRt_X12_day Ma Ra u ∧ (iv (-2147483648) 2147483647 r))) 0 0 (fun q => base ≤ q) := by
  refine tw_ofW (L := Lt_X12_day) (LR := LRt_X12_day) (by decide) (Nat.le_of_ble_eq_true rfl) hTy ?_
  intro p e s m args below meth c Q ls hx hb hr hlocks hown hml hW hK hT hS hQ hl
  have hl : lv_has ls 1 [(0, .ref (base + a0))] := hl
  refine lv_aload_n hx hb dX12_day_0 rfl (lv_at hl 0 rfl) ?_
  refine tw_getr hx hb hW hown hK hS f_X12_45_11 hz_a0 hk_a0 (t := 23) (n := 226) rfl dX12_day_1 (fun b1 k2 hz_b1 hk_b1 hn_b1 => ?_)
  have hn_b1 := hn_b1 (by decide)
  refine lv_iconst (v := 0) hx hb dX12_day_4 (by decide) ?_
  refine tw_iald hx hb hK hS hz_b1 hk_b1 (Or.inr (by decide)) hn_b1 (lo := 0) (hi := 10) (iv_c (c := 0) (n := 0) (by decide)) ⟨by decide, by decide⟩ (rg_c (k0 := 0) rfl rfl rfl) dX12_day_5 (fun x5 k4 h3 => ?_)
  refine lv_if_ne (tgt := 15) hx hb dX12_day_6 (by decide) (fun c6 => ?_) (fun c6 => ?_)
  · have q7 : ¬ x5.toInt = 0 := ti_ne c6
    have h8 : iv 1 10 x5 := ⟨by have := (h3).1; have := ((iv_c (c := 0) (n := 0) (by decide))).1; have := ((iv_c (c := 0) (n := 0) (by decide))).2; omega, by have := (h3).2; have := ((iv_c (c := 0) (n := 0) (by decide))).1; have := ((iv_c (c := 0) (n := 0) (by decide))).2; omega⟩
    refine lv_aload_n hx hb dX12_day_15 rfl (lv_at hl 0 rfl) ?_
    obtain ⟨x11, k9⟩ : ∃ x, Ma b1 (4 : Int32).toNatClampNeg = x := ⟨_, rfl⟩
    have h10 : iv 0 8 x11 := by rw [← k9]; exact hS.2.1.int hz_b1 hk_b1 (show rgI 23 (4 : Int32).toNatClampNeg = (0, 8) from rfl)
    refine tw_gov hS (md_runV (As := []) (rest := []) hx hb hml hown hW hK hT hS.1 (t_X12_begins l D cy tx base Z K N Ma Ra Ja hS.2.1 a0 hz_a0 hk_a0 b1 k2 x11 k9 (iv_mono h10 (by decide) (by decide))) s_X12_393 ⟨rfl, rfl, ⟨Nat.le_of_ble_eq_true rfl, Nat.le_of_ble_eq_true rfl⟩, ⟨Nat.le_of_ble_eq_true rfl, Nat.le_of_ble_eq_true rfl⟩⟩ hz_a0 hk_a0 (by decide) rfl rfl hl.1 rfl (Nat.le_of_ble_eq_true rfl) dX12_day_16) rfl rfl (fun H locs M15 R16 J14 hS f12 g13 E17 => ?_)
    have eR16 := Fr.nil g13 rfl
    subst eR16
    have p18 := E17
    have k19 : M15 a0 30 = x11 := p18
    refine lv_aload_n hx hb dX12_day_19 rfl (lv_at hl 0 rfl) ?_
    refine lv_iconst (v := 0) hx hb dX12_day_20 (by decide) ?_
    refine tw_puti hx hb hW hown hK hS f_X12_407_11 hz_a0 hk_a0 rfl rfl (lo := (-2147483648)) (hi := 2147483647) rfl (iv_mono (iv_c (c := 0) (n := 0) (by decide)) (by decide) (by decide)) rfl dX12_day_21 (fun H locs M22 hS k20 f21 => ?_)
    refine lv_aload_n hx hb dX12_day_24 rfl (lv_at hl 0 rfl) ?_
    refine lv_iconst (v := 0) hx hb dX12_day_25 (by decide) ?_
    refine tw_gov hS (md_runV (As := [.int 0]) (rest := []) hx hb hml hown hW hK hT hS.1 (t_X12_passes l D cy tx base Z K N M22 Ra J14 hS.2.1 a0 hz_a0 hk_a0 0 (iv_mono (iv_c (c := 0) (n := 0) (by decide)) (by decide) (by decide)) (Codes.fr co_a0 hTy hz_a0 hk_a0 hS.2.2.1 hS.2.2.2 rfl)) s_X12_417 ⟨rfl, rfl, ⟨Nat.le_of_ble_eq_true rfl, Nat.le_of_ble_eq_true rfl⟩, ⟨Nat.le_of_ble_eq_true rfl, Nat.le_of_ble_eq_true rfl⟩⟩ hz_a0 hk_a0 (by decide) rfl rfl hl.1 rfl (Nat.le_of_ble_eq_true rfl) dX12_day_26) rfl rfl (fun H locs M26 R27 J25 hS f23 g24 E28 => ?_)
    have eR27 := Fr.nil g24 rfl
    subst eR27
    refine lv_aload_n hx hb dX12_day_29 rfl (lv_at hl 0 rfl) ?_
    refine tw_gov hS (md_runV (As := []) (rest := []) hx hb hml hown hW hK hT hS.1 (t_X12_stays l D cy tx base Z K N M26 Ra J25 hS.2.1 a0 hz_a0 hk_a0) s_X12_401 ⟨rfl, rfl, ⟨Nat.le_of_ble_eq_true rfl, Nat.le_of_ble_eq_true rfl⟩, ⟨Nat.le_of_ble_eq_true rfl, Nat.le_of_ble_eq_true rfl⟩⟩ hz_a0 hk_a0 (by decide) rfl rfl hl.1 rfl (Nat.le_of_ble_eq_true rfl) dX12_day_30) rfl rfl (fun H locs M32 R33 J31 hS f29 g30 E34 => ?_)
    have eR33 := Fr.nil g30 rfl
    subst eR33
    refine lv_aload_n hx hb dX12_day_33 rfl (lv_at hl 0 rfl) ?_
    refine tw_geti hx hb hW hown hK hS f_X12_407_11 hz_a0 hk_a0 (lo := (-2147483648)) (hi := 2147483647) rfl dX12_day_34 (fun x37 k36 h35 => ?_)
    exact tw_endi hx hb hr hlocks hK hT hS hQ (h35) dX12_day_37
  · have q38 : x5.toInt = 0 := ti_eq c6
    have h39 : iv 0 0 x5 := ⟨by have := (h3).1; have := ((iv_c (c := 0) (n := 0) (by decide))).1; omega, by have := (h3).2; have := ((iv_c (c := 0) (n := 0) (by decide))).2; omega⟩
    refine lv_aload_n hx hb dX12_day_9 rfl (lv_at hl 0 rfl) ?_
    refine lv_iconst (v := 0) hx hb dX12_day_10 (by decide) ?_
    refine tw_goi hS (md_runV (As := [.int 0]) (rest := []) hx hb hml hown hW hK hT hS.1 (t_X12_refuses l D cy tx base Z K N Ma Ra Ja hS.2.1 a0 hz_a0 hk_a0 0 (iv_mono (iv_c (c := 0) (n := 0) (by decide)) (by decide) (by decide))) s_X12_338 ⟨rfl, rfl, ⟨Nat.le_of_ble_eq_true rfl, Nat.le_of_ble_eq_true rfl⟩, ⟨Nat.le_of_ble_eq_true rfl, Nat.le_of_ble_eq_true rfl⟩⟩ hz_a0 hk_a0 (by decide) rfl rfl hl.1 rfl (Nat.le_of_ble_eq_true rfl) dX12_day_11) rfl rfl (fun x46 H locs M43 R44 J42 hS f40 g41 E45 => ?_)
    have eR44 := Fr.nil g41 rfl
    subst eR44
    have h_x46 := E45
    exact tw_endi hx hb hr hlocks hK hT hS hQ ((iv_mono h_x46 (by decide) (by decide))) dX12_day_14
def Lt_X12_end : WL := [(12, 1, 2)]
def LRt_X12_end : WL := []
set_option maxRecDepth 100000 in
set_option maxHeartbeats 4000000 in
theorem t_X12_end (l : Launch) (D : va_G) (cy : Nat → ClassId) (tx : (Nat → Nat) × (Nat → Nat)) (base Z : Nat) (K N : Nat → Nat) (Ma : MT) (Ra : RT) (Ja : JT) (hTy : Ty Z K N Ma Ra) (a0 : Nat) (hz_a0 : a0 < Z) (hk_a0 : K a0 = 12) (a1 : Int32) (h_a1 : iv (-2147483648) 2147483647 a1) : Met l yX12_end [Cond.code yX12_end cX12_end 2 (some .int)] (md_rm 1 0 0) (va_Pc [.ref (base + a0), .int a1] (md_U D cy tx base Z K N Ma Ra Ja)) (mQi D cy tx base (fun r u => TP Z K N Lt_X12_end LRt_X12_end Ma Ra u ∧ (iv (-1) 400 r))) 0 0 (fun q => base ≤ q) := by
  refine tw_ofW (L := Lt_X12_end) (LR := LRt_X12_end) (by decide) (Nat.le_of_ble_eq_true rfl) hTy ?_
  intro p e s m args below meth c Q ls hx hb hr hlocks hown hml hW hK hT hS hQ hl
  have hl : lv_has ls 2 [(0, .ref (base + a0)), (1, .int a1)] := hl
  refine lv_iload_n hx hb dX12_end_0 rfl (lv_at hl 1 rfl) ?_
  refine lv_if_lt (tgt := 12) hx hb dX12_end_1 (by decide) (fun c1 => ?_) (fun c1 => ?_)
  · have q2 : a1.toInt < 0 := ti_lt c1
    have h3 : iv (-2147483648) (-1) a1 := iv_ltL (y := 0) h_a1 (iv_c (c := 0) (n := 0) (by decide)) q2 (by decide)
    refine lv_iconst (v := (-1)) hx hb dX12_end_12 (by decide) ?_
    exact tw_endi hx hb hr hlocks hK hT hS hQ ((iv_mono (iv_c (c := (-1)) (n := (-1)) (by decide)) (by decide) (by decide))) dX12_end_13
  · have q4 : 0 ≤ a1.toInt := ti_nlt c1
    have h5 : iv 0 2147483647 a1 := iv_geL (y := 0) h_a1 (iv_c (c := 0) (n := 0) (by decide)) q4 (by decide)
    refine lv_iload_n hx hb dX12_end_4 rfl (lv_at hl 1 rfl) ?_
    refine lv_aload_n hx hb dX12_end_5 rfl (lv_at hl 0 rfl) ?_
    refine tw_geti hx hb hW hown hK hS f_X12_116_11 hz_a0 hk_a0 (lo := 0) (hi := 400) rfl dX12_end_6 (fun x8 k7 h6 => ?_)
    refine lv_icmp_le (tgt := 14) hx hb dX12_end_9 (by decide) (fun c9 => ?_) (fun c9 => ?_)
    · have q10 : a1.toInt ≤ x8.toInt := ti_le c9
      have h11 : iv 0 400 a1 := iv_leL (y := x8) h5 h6 q10 (by decide)
      refine lv_aload_n hx hb dX12_end_14 rfl (lv_at hl 0 rfl) ?_
      refine lv_iload_n hx hb dX12_end_15 rfl (lv_at hl 1 rfl) ?_
      refine tw_puti hx hb hW hown hK hS f_X12_116_11 hz_a0 hk_a0 rfl rfl (lo := 0) (hi := 400) rfl h11 rfl dX12_end_16 (fun H locs M14 hS k12 f13 => ?_)
      refine lv_iload_n hx hb dX12_end_19 rfl (lv_at hl 1 rfl) ?_
      exact tw_endi hx hb hr hlocks hK hT hS hQ ((iv_mono h11 (by decide) (by decide))) dX12_end_20
    · have q15 : x8.toInt < a1.toInt := ti_nle c9
      have h16 : iv 1 2147483647 a1 := iv_gtL (y := x8) h5 h6 q15 (by decide)
      refine lv_iconst (v := (-1)) hx hb dX12_end_12 (by decide) ?_
      exact tw_endi hx hb hr hlocks hK hT hS hQ ((iv_mono (iv_c (c := (-1)) (n := (-1)) (by decide)) (by decide) (by decide))) dX12_end_13
def Lt_X12_entry : WL := [(14, 0, 2000000), (23, 5, 6), (23, 178, 226)]
def LRt_X12_entry : WL := []
set_option maxRecDepth 100000 in
set_option maxHeartbeats 4000000 in
theorem t_X12_entry (l : Launch) (D : va_G) (cy : Nat → ClassId) (tx : (Nat → Nat) × (Nat → Nat)) (base Z : Nat) (K N : Nat → Nat) (Ma : MT) (Ra : RT) (Ja : JT) (hTy : Ty Z K N Ma Ra) (a0 : Nat) (hz_a0 : a0 < Z) (hk_a0 : K a0 = 12) (a1 : Int32) (h_a1 : iv (-2147483648) 2147483647 a1) (a2 : Int32) (h_a2 : iv (-2147483648) 2147483647 a2) (a3 : Int32) (h_a3 : iv (-2147483648) 2147483647 a3) (a4 : Int32) (h_a4 : iv (-2147483648) 2147483647 a4) : Met l yX12_entry [Cond.code yX12_entry cX12_entry 6 (some .int)] (md_rm 2 0 0) (va_Pc [.ref (base + a0), .int a1, .int a2, .int a3, .int a4] (md_U D cy tx base Z K N Ma Ra Ja)) (mQi D cy tx base (fun r u => TP Z K N Lt_X12_entry LRt_X12_entry Ma Ra u ∧ (iv (-2) 12 r))) 0 0 (fun q => base ≤ q) := by
  refine tw_ofW (L := Lt_X12_entry) (LR := LRt_X12_entry) (by decide) (Nat.le_of_ble_eq_true rfl) hTy ?_
  intro p e s m args below meth c Q ls hx hb hr hlocks hown hml hW hK hT hS hQ hl
  have hl : lv_has ls 6 [(0, .ref (base + a0)), (1, .int a1), (2, .int a2), (3, .int a3), (4, .int a4)] := hl
  refine lv_iload_n hx hb dX12_entry_0 rfl (lv_at hl 1 rfl) ?_
  refine lv_iconst (v := (-1)) hx hb dX12_entry_1 (by decide) ?_
  refine lv_icmp_ne (tgt := 14) hx hb dX12_entry_2 (by decide) (fun c1 => ?_) (fun c1 => ?_)
  · have q2 : ¬ a1.toInt = (-1) := ti_ne c1
    refine lv_aload_n hx hb dX12_entry_14 rfl (lv_at hl 0 rfl) ?_
    refine tw_getr hx hb hW hown hK hS f_X12_45_11 hz_a0 hk_a0 (t := 23) (n := 226) rfl dX12_entry_15 (fun b3 k4 hz_b3 hk_b3 hn_b3 => ?_)
    have hn_b3 := hn_b3 (by decide)
    refine lv_iconst (v := 0) hx hb dX12_entry_18 (by decide) ?_
    refine tw_iald hx hb hK hS hz_b3 hk_b3 (Or.inr (by decide)) hn_b3 (lo := 0) (hi := 10) (iv_c (c := 0) (n := 0) (by decide)) ⟨by decide, by decide⟩ (rg_c (k0 := 0) rfl rfl rfl) dX12_entry_19 (fun x7 k6 h5 => ?_)
    refine lv_if_eq (tgt := 70) hx hb dX12_entry_20 (by decide) (fun c8 => ?_) (fun c8 => ?_)
    · have q9 : x7.toInt = 0 := ti_eq c8
      have h10 : iv 0 0 x7 := ⟨by have := (h5).1; have := ((iv_c (c := 0) (n := 0) (by decide))).1; omega, by have := (h5).2; have := ((iv_c (c := 0) (n := 0) (by decide))).2; omega⟩
      refine lv_aload_n hx hb dX12_entry_70 rfl (lv_at hl 0 rfl) ?_
      refine lv_iconst (v := 0) hx hb dX12_entry_71 (by decide) ?_
      refine tw_goi hS (md_runV (As := [.int 0]) (rest := []) hx hb hml hown hW hK hT hS.1 (t_X12_refuses l D cy tx base Z K N Ma Ra Ja hS.2.1 a0 hz_a0 hk_a0 0 (iv_mono (iv_c (c := 0) (n := 0) (by decide)) (by decide) (by decide))) s_X12_338 ⟨rfl, rfl, ⟨Nat.le_of_ble_eq_true rfl, Nat.le_of_ble_eq_true rfl⟩, ⟨Nat.le_of_ble_eq_true rfl, Nat.le_of_ble_eq_true rfl⟩⟩ hz_a0 hk_a0 (by decide) rfl rfl hl.1 rfl (Nat.le_of_ble_eq_true rfl) dX12_entry_72) rfl rfl (fun x17 H locs M14 R15 J13 hS f11 g12 E16 => ?_)
      have eR15 := Fr.nil g12 rfl
      subst eR15
      have h_x17 := E16
      exact tw_endi hx hb hr hlocks hK hT hS hQ ((iv_mono h_x17 (by decide) (by decide))) dX12_entry_75
    · have q18 : ¬ x7.toInt = 0 := ti_ne c8
      have h19 : iv 1 10 x7 := ⟨by have := (h5).1; have := ((iv_c (c := 0) (n := 0) (by decide))).1; have := ((iv_c (c := 0) (n := 0) (by decide))).2; omega, by have := (h5).2; have := ((iv_c (c := 0) (n := 0) (by decide))).1; have := ((iv_c (c := 0) (n := 0) (by decide))).2; omega⟩
      refine lv_aload_n hx hb dX12_entry_23 rfl (lv_at hl 0 rfl) ?_
      refine lv_iload_n hx hb dX12_entry_24 rfl (lv_at hl 1 rfl) ?_
      refine tw_goi hS (md_runV (As := [.int a1]) (rest := []) hx hb hml hown hW hK hT hS.1 (t_X12_isSet l D cy tx base Z K N Ma Ra Ja hS.2.1 a0 hz_a0 hk_a0 a1 h_a1) s_X12_404 ⟨rfl, rfl, ⟨Nat.le_of_ble_eq_true rfl, Nat.le_of_ble_eq_true rfl⟩, ⟨Nat.le_of_ble_eq_true rfl, Nat.le_of_ble_eq_true rfl⟩⟩ hz_a0 hk_a0 (by decide) rfl rfl hl.1 rfl (Nat.le_of_ble_eq_true rfl) dX12_entry_25) rfl rfl (fun x26 H locs M23 R24 J22 hS f20 g21 E25 => ?_)
      have eM23 := Fr.nil f20 rfl
      subst eM23
      have eR24 := Fr.nil g21 rfl
      subst eR24
      have h_x26 := E25
      refine lv_if_eq (tgt := 70) hx hb dX12_entry_28 (by decide) (fun c27 => ?_) (fun c27 => ?_)
      · have q28 : x26.toInt = 0 := ti_eq c27
        have h29 : iv 0 0 x26 := ⟨by have := (h_x26).1; have := ((iv_c (c := 0) (n := 0) (by decide))).1; omega, by have := (h_x26).2; have := ((iv_c (c := 0) (n := 0) (by decide))).2; omega⟩
        refine lv_aload_n hx hb dX12_entry_70 rfl (lv_at hl 0 rfl) ?_
        refine lv_iconst (v := 0) hx hb dX12_entry_71 (by decide) ?_
        refine tw_goi hS (md_runV (As := [.int 0]) (rest := []) hx hb hml hown hW hK hT hS.1 (t_X12_refuses l D cy tx base Z K N Ma Ra J22 hS.2.1 a0 hz_a0 hk_a0 0 (iv_mono (iv_c (c := 0) (n := 0) (by decide)) (by decide) (by decide))) s_X12_338 ⟨rfl, rfl, ⟨Nat.le_of_ble_eq_true rfl, Nat.le_of_ble_eq_true rfl⟩, ⟨Nat.le_of_ble_eq_true rfl, Nat.le_of_ble_eq_true rfl⟩⟩ hz_a0 hk_a0 (by decide) rfl rfl hl.1 rfl (Nat.le_of_ble_eq_true rfl) dX12_entry_72) rfl rfl (fun x36 H locs M33 R34 J32 hS f30 g31 E35 => ?_)
        have eR34 := Fr.nil g31 rfl
        subst eR34
        have h_x36 := E35
        exact tw_endi hx hb hr hlocks hK hT hS hQ ((iv_mono h_x36 (by decide) (by decide))) dX12_entry_75
      · have q37 : ¬ x26.toInt = 0 := ti_ne c27
        have h38 : iv 1 1 x26 := ⟨by have := (h_x26).1; have := ((iv_c (c := 0) (n := 0) (by decide))).1; have := ((iv_c (c := 0) (n := 0) (by decide))).2; omega, by have := (h_x26).2; have := ((iv_c (c := 0) (n := 0) (by decide))).1; have := ((iv_c (c := 0) (n := 0) (by decide))).2; omega⟩
        refine lv_aload_n hx hb dX12_entry_31 rfl (lv_at hl 0 rfl) ?_
        refine lv_iload_n hx hb dX12_entry_32 rfl (lv_at hl 2 rfl) ?_
        refine tw_goi hS (md_runV (As := [.int a2]) (rest := []) hx hb hml hown hW hK hT hS.1 (t_X12_isSet l D cy tx base Z K N Ma Ra J22 hS.2.1 a0 hz_a0 hk_a0 a2 h_a2) s_X12_404 ⟨rfl, rfl, ⟨Nat.le_of_ble_eq_true rfl, Nat.le_of_ble_eq_true rfl⟩, ⟨Nat.le_of_ble_eq_true rfl, Nat.le_of_ble_eq_true rfl⟩⟩ hz_a0 hk_a0 (by decide) rfl rfl hl.1 rfl (Nat.le_of_ble_eq_true rfl) dX12_entry_33) rfl rfl (fun x45 H locs M42 R43 J41 hS f39 g40 E44 => ?_)
        have eM42 := Fr.nil f39 rfl
        subst eM42
        have eR43 := Fr.nil g40 rfl
        subst eR43
        have h_x45 := E44
        refine lv_if_eq (tgt := 70) hx hb dX12_entry_36 (by decide) (fun c46 => ?_) (fun c46 => ?_)
        · have q47 : x45.toInt = 0 := ti_eq c46
          have h48 : iv 0 0 x45 := ⟨by have := (h_x45).1; have := ((iv_c (c := 0) (n := 0) (by decide))).1; omega, by have := (h_x45).2; have := ((iv_c (c := 0) (n := 0) (by decide))).2; omega⟩
          refine lv_aload_n hx hb dX12_entry_70 rfl (lv_at hl 0 rfl) ?_
          refine lv_iconst (v := 0) hx hb dX12_entry_71 (by decide) ?_
          refine tw_goi hS (md_runV (As := [.int 0]) (rest := []) hx hb hml hown hW hK hT hS.1 (t_X12_refuses l D cy tx base Z K N Ma Ra J41 hS.2.1 a0 hz_a0 hk_a0 0 (iv_mono (iv_c (c := 0) (n := 0) (by decide)) (by decide) (by decide))) s_X12_338 ⟨rfl, rfl, ⟨Nat.le_of_ble_eq_true rfl, Nat.le_of_ble_eq_true rfl⟩, ⟨Nat.le_of_ble_eq_true rfl, Nat.le_of_ble_eq_true rfl⟩⟩ hz_a0 hk_a0 (by decide) rfl rfl hl.1 rfl (Nat.le_of_ble_eq_true rfl) dX12_entry_72) rfl rfl (fun x55 H locs M52 R53 J51 hS f49 g50 E54 => ?_)
          have eR53 := Fr.nil g50 rfl
          subst eR53
          have h_x55 := E54
          exact tw_endi hx hb hr hlocks hK hT hS hQ ((iv_mono h_x55 (by decide) (by decide))) dX12_entry_75
        · have q56 : ¬ x45.toInt = 0 := ti_ne c46
          have h57 : iv 1 1 x45 := ⟨by have := (h_x45).1; have := ((iv_c (c := 0) (n := 0) (by decide))).1; have := ((iv_c (c := 0) (n := 0) (by decide))).2; omega, by have := (h_x45).2; have := ((iv_c (c := 0) (n := 0) (by decide))).1; have := ((iv_c (c := 0) (n := 0) (by decide))).2; omega⟩
          refine lv_iload_n hx hb dX12_entry_39 rfl (lv_at hl 1 rfl) ?_
          refine lv_iload_n hx hb dX12_entry_40 rfl (lv_at hl 2 rfl) ?_
          refine lv_iand hx hb dX12_entry_41 ?_
          refine tw_top (fun x59 => ?_)
          have h58 := iv_any x59
          refine lv_if_ne (tgt := 70) hx hb dX12_entry_42 (by decide) (fun c60 => ?_) (fun c60 => ?_)
          · have q61 : ¬ x59.toInt = 0 := ti_ne c60
            refine lv_aload_n hx hb dX12_entry_70 rfl (lv_at hl 0 rfl) ?_
            refine lv_iconst (v := 0) hx hb dX12_entry_71 (by decide) ?_
            refine tw_goi hS (md_runV (As := [.int 0]) (rest := []) hx hb hml hown hW hK hT hS.1 (t_X12_refuses l D cy tx base Z K N Ma Ra J41 hS.2.1 a0 hz_a0 hk_a0 0 (iv_mono (iv_c (c := 0) (n := 0) (by decide)) (by decide) (by decide))) s_X12_338 ⟨rfl, rfl, ⟨Nat.le_of_ble_eq_true rfl, Nat.le_of_ble_eq_true rfl⟩, ⟨Nat.le_of_ble_eq_true rfl, Nat.le_of_ble_eq_true rfl⟩⟩ hz_a0 hk_a0 (by decide) rfl rfl hl.1 rfl (Nat.le_of_ble_eq_true rfl) dX12_entry_72) rfl rfl (fun x68 H locs M65 R66 J64 hS f62 g63 E67 => ?_)
            have eR66 := Fr.nil g63 rfl
            subst eR66
            have h_x68 := E67
            exact tw_endi hx hb hr hlocks hK hT hS hQ ((iv_mono h_x68 (by decide) (by decide))) dX12_entry_75
          · have q69 : x59.toInt = 0 := ti_eq c60
            have h70 : iv 0 0 x59 := ⟨by have := (h58).1; have := ((iv_c (c := 0) (n := 0) (by decide))).1; omega, by have := (h58).2; have := ((iv_c (c := 0) (n := 0) (by decide))).2; omega⟩
            refine lv_iload_n hx hb dX12_entry_45 rfl (lv_at hl 3 rfl) ?_
            refine lv_i2l hx hb dX12_entry_46 rfl ?_
            refine lv_lconst (v := 0) hx hb dX12_entry_47 (by decide) ?_
            refine lv_ldc2 hx hb hown (hW _ w_8_145 rfl) dX12_entry_48 ?_
            refine tw_goi hS (md_runS (As := [.long a3.toInt64, .long 0, .long 99999]) (rest := []) hx hb hml hown hW hK hT hS.1 (t_X12_in l D cy tx base Z K N Ma Ra J41 hS.2.1 (a3.toInt64) (0) (99999)) s_X12_155 ⟨rfl, rfl, ⟨Nat.le_of_ble_eq_true rfl, Nat.le_of_ble_eq_true rfl⟩, ⟨Nat.le_of_ble_eq_true rfl, Nat.le_of_ble_eq_true rfl⟩⟩ rfl hl.1 rfl (Nat.le_of_ble_eq_true rfl) dX12_entry_51) rfl rfl (fun x77 H locs M74 R75 J73 hS f71 g72 E76 => ?_)
            have eM74 := Fr.nil f71 rfl
            subst eM74
            have eR75 := Fr.nil g72 rfl
            subst eR75
            obtain ⟨h_x77, p78⟩ := E76
            refine lv_if_eq (tgt := 70) hx hb dX12_entry_54 (by decide) (fun c79 => ?_) (fun c79 => ?_)
            · have q80 : x77.toInt = 0 := ti_eq c79
              have h81 : iv 0 0 x77 := ⟨by have := (h_x77).1; have := ((iv_c (c := 0) (n := 0) (by decide))).1; omega, by have := (h_x77).2; have := ((iv_c (c := 0) (n := 0) (by decide))).2; omega⟩
              refine lv_aload_n hx hb dX12_entry_70 rfl (lv_at hl 0 rfl) ?_
              refine lv_iconst (v := 0) hx hb dX12_entry_71 (by decide) ?_
              refine tw_goi hS (md_runV (As := [.int 0]) (rest := []) hx hb hml hown hW hK hT hS.1 (t_X12_refuses l D cy tx base Z K N Ma Ra J73 hS.2.1 a0 hz_a0 hk_a0 0 (iv_mono (iv_c (c := 0) (n := 0) (by decide)) (by decide) (by decide))) s_X12_338 ⟨rfl, rfl, ⟨Nat.le_of_ble_eq_true rfl, Nat.le_of_ble_eq_true rfl⟩, ⟨Nat.le_of_ble_eq_true rfl, Nat.le_of_ble_eq_true rfl⟩⟩ hz_a0 hk_a0 (by decide) rfl rfl hl.1 rfl (Nat.le_of_ble_eq_true rfl) dX12_entry_72) rfl rfl (fun x88 H locs M85 R86 J84 hS f82 g83 E87 => ?_)
              have eR86 := Fr.nil g83 rfl
              subst eR86
              have h_x88 := E87
              exact tw_endi hx hb hr hlocks hK hT hS hQ ((iv_mono h_x88 (by decide) (by decide))) dX12_entry_75
            · have q89 : ¬ x77.toInt = 0 := ti_ne c79
              have h90 : iv 1 1 x77 := ⟨by have := (h_x77).1; have := ((iv_c (c := 0) (n := 0) (by decide))).1; have := ((iv_c (c := 0) (n := 0) (by decide))).2; omega, by have := (h_x77).2; have := ((iv_c (c := 0) (n := 0) (by decide))).1; have := ((iv_c (c := 0) (n := 0) (by decide))).2; omega⟩
              have h91 : iv 0 99999 a3 := in2iv (p78 c79) ((jv_c (x := 0) (n := 0) (by decide))).1 ((jv_c (x := 99999) (n := 99999) (by decide))).2
              refine lv_iload hx hb dX12_entry_57 (lv_at hl 4 rfl) ?_
              refine lv_i2l hx hb dX12_entry_59 rfl ?_
              refine lv_lconst (v := 0) hx hb dX12_entry_60 (by decide) ?_
              refine lv_ldc2 hx hb hown (hW _ w_8_145 rfl) dX12_entry_61 ?_
              refine tw_goi hS (md_runS (As := [.long a4.toInt64, .long 0, .long 99999]) (rest := []) hx hb hml hown hW hK hT hS.1 (t_X12_in l D cy tx base Z K N Ma Ra J73 hS.2.1 (a4.toInt64) (0) (99999)) s_X12_155 ⟨rfl, rfl, ⟨Nat.le_of_ble_eq_true rfl, Nat.le_of_ble_eq_true rfl⟩, ⟨Nat.le_of_ble_eq_true rfl, Nat.le_of_ble_eq_true rfl⟩⟩ rfl hl.1 rfl (Nat.le_of_ble_eq_true rfl) dX12_entry_64) rfl rfl (fun x98 H locs M95 R96 J94 hS f92 g93 E97 => ?_)
              have eM95 := Fr.nil f92 rfl
              subst eM95
              have eR96 := Fr.nil g93 rfl
              subst eR96
              obtain ⟨h_x98, p99⟩ := E97
              refine lv_if_ne (tgt := 76) hx hb dX12_entry_67 (by decide) (fun c100 => ?_) (fun c100 => ?_)
              · have q101 : ¬ x98.toInt = 0 := ti_ne c100
                have h102 : iv 1 1 x98 := ⟨by have := (h_x98).1; have := ((iv_c (c := 0) (n := 0) (by decide))).1; have := ((iv_c (c := 0) (n := 0) (by decide))).2; omega, by have := (h_x98).2; have := ((iv_c (c := 0) (n := 0) (by decide))).1; have := ((iv_c (c := 0) (n := 0) (by decide))).2; omega⟩
                have h103 : iv 0 99999 a4 := in2iv (p99 c100) ((jv_c (x := 0) (n := 0) (by decide))).1 ((jv_c (x := 99999) (n := 99999) (by decide))).2
                refine lv_aload_n hx hb dX12_entry_76 rfl (lv_at hl 0 rfl) ?_
                refine tw_getrk hx hb hW hown hK hS f_X12_45_11 hz_a0 hk_a0 (b := b3) k4 dX12_entry_77 ?_
                refine lv_iconst (v := 5) hx hb dX12_entry_80 (by decide) ?_
                refine tw_iald hx hb hK hS hz_b3 hk_b3 (Or.inr (by decide)) hn_b3 (lo := 0) (hi := 12) (iv_c (c := 5) (n := 5) (by decide)) ⟨by decide, by decide⟩ (rg_c (k0 := 5) rfl rfl rfl) dX12_entry_81 (fun x106 k105 h104 => ?_)
                refine lv_bipush (v := 12) hx hb dX12_entry_82 (by decide) ?_
                refine lv_icmp_ne (tgt := 93) hx hb dX12_entry_84 (by decide) (fun c107 => ?_) (fun c107 => ?_)
                · have q108 : ¬ x106.toInt = 12 := ti_ne c107
                  have h109 : iv 0 11 x106 := ⟨by have := (h104).1; have := ((iv_c (c := 12) (n := 12) (by decide))).1; have := ((iv_c (c := 12) (n := 12) (by decide))).2; omega, by have := (h104).2; have := ((iv_c (c := 12) (n := 12) (by decide))).1; have := ((iv_c (c := 12) (n := 12) (by decide))).2; omega⟩
                  refine lv_sipush (v := 178) hx hb dX12_entry_93 (by decide) ?_
                  refine lv_iconst (v := 4) hx hb dX12_entry_96 (by decide) ?_
                  refine lv_aload_n hx hb dX12_entry_97 rfl (lv_at hl 0 rfl) ?_
                  refine tw_getrk hx hb hW hown hK hS f_X12_45_11 hz_a0 hk_a0 (b := b3) k4 dX12_entry_98 ?_
                  refine lv_iconst (v := 5) hx hb dX12_entry_101 (by decide) ?_
                  refine tw_ialk hx hb hK hS hz_b3 hk_b3 (Or.inr (by decide)) hn_b3 (iv_c (c := 5) (n := 5) (by decide)) ⟨by decide, by decide⟩ (v := x106) k105 dX12_entry_102 ?_
                  refine tw_icmul (k := 4) (lo := 0) (hi := 44) hx hb (by decide) h109 (by decide) ⟨by decide, by decide⟩ ⟨by decide, by decide⟩ dX12_entry_103 (fun x112 e111 h110 => ?_)
                  refine tw_iadd (lo := 178) (hi := 222) hx hb (iv_c (c := 178) (n := 178) (by decide)) h110 ⟨by decide, by decide⟩ ⟨by decide, by decide⟩ dX12_entry_104 (fun x115 e114 h113 => ?_)
                  have e114 : x115.toInt = 178 + x112.toInt := e114
                  refine lv_istore (lv' := [(5, .int x115), (0, .ref (base + a0)), (1, .int a1), (2, .int a2), (3, .int a3), (4, .int a4)]) hx hb dX12_entry_105 hl (by decide) rfl (fun ls hl => ?_)
                  refine lv_aload_n hx hb dX12_entry_107 rfl (lv_at hl 1 rfl) ?_
                  refine tw_getrk hx hb hW hown hK hS f_X12_45_11 hz_a0 hk_a0 (b := b3) k4 dX12_entry_108 ?_
                  refine lv_iload hx hb dX12_entry_111 (lv_at hl 0 rfl) ?_
                  refine lv_iload_n hx hb dX12_entry_113 rfl (lv_at hl 2 rfl) ?_
                  refine tw_iast hx hb hK hS hz_b3 hk_b3 (Or.inr (by decide)) hn_b3 h113 ⟨by decide, by decide⟩ h_a1 (rg_sas (Or.inr (by decide)) ⟨by decide, by decide⟩) (jl := 178) (jh := 222) ⟨by decide, by decide⟩ rfl dX12_entry_114 (fun H locs M118 hS k116 f117 => ?_)
                  refine lv_aload_n hx hb dX12_entry_115 rfl (lv_at hl 1 rfl) ?_
                  refine tw_getrk hx hb hW hown hK hS f_X12_45_11 hz_a0 hk_a0 (b := b3) k4 dX12_entry_116 ?_
                  refine lv_iload hx hb dX12_entry_119 (lv_at hl 0 rfl) ?_
                  refine lv_iconst (v := 1) hx hb dX12_entry_121 (by decide) ?_
                  refine tw_iadd (lo := 179) (hi := 223) hx hb h113 (iv_c (c := 1) (n := 1) (by decide)) ⟨by decide, by decide⟩ ⟨by decide, by decide⟩ dX12_entry_122 (fun x121 e120 h119 => ?_)
                  have e120 : x121.toInt = x115.toInt + 1 := e120
                  refine lv_iload_n hx hb dX12_entry_123 rfl (lv_at hl 3 rfl) ?_
                  refine tw_iast hx hb hK hS hz_b3 hk_b3 (Or.inr (by decide)) hn_b3 h119 ⟨by decide, by decide⟩ h_a2 (rg_sas (Or.inr (by decide)) ⟨by decide, by decide⟩) (jl := 179) (jh := 223) ⟨by decide, by decide⟩ rfl dX12_entry_124 (fun H locs M124 hS k122 f123 => ?_)
                  refine lv_aload_n hx hb dX12_entry_125 rfl (lv_at hl 1 rfl) ?_
                  refine tw_getrk hx hb hW hown hK hS f_X12_45_11 hz_a0 hk_a0 (b := b3) k4 dX12_entry_126 ?_
                  refine lv_iload hx hb dX12_entry_129 (lv_at hl 0 rfl) ?_
                  refine lv_iconst (v := 2) hx hb dX12_entry_131 (by decide) ?_
                  refine tw_iadd (lo := 180) (hi := 224) hx hb h113 (iv_c (c := 2) (n := 2) (by decide)) ⟨by decide, by decide⟩ ⟨by decide, by decide⟩ dX12_entry_132 (fun x127 e126 h125 => ?_)
                  have e126 : x127.toInt = x115.toInt + 2 := e126
                  refine lv_iload_n hx hb dX12_entry_133 rfl (lv_at hl 4 rfl) ?_
                  refine tw_iast hx hb hK hS hz_b3 hk_b3 (Or.inr (by decide)) hn_b3 h125 ⟨by decide, by decide⟩ h91 (rg_sas (Or.inr (by decide)) ⟨by decide, by decide⟩) (jl := 180) (jh := 224) ⟨by decide, by decide⟩ rfl dX12_entry_134 (fun H locs M130 hS k128 f129 => ?_)
                  refine lv_aload_n hx hb dX12_entry_135 rfl (lv_at hl 1 rfl) ?_
                  refine tw_getrk hx hb hW hown hK hS f_X12_45_11 hz_a0 hk_a0 (b := b3) k4 dX12_entry_136 ?_
                  refine lv_iload hx hb dX12_entry_139 (lv_at hl 0 rfl) ?_
                  refine lv_iconst (v := 3) hx hb dX12_entry_141 (by decide) ?_
                  refine tw_iadd (lo := 181) (hi := 225) hx hb h113 (iv_c (c := 3) (n := 3) (by decide)) ⟨by decide, by decide⟩ ⟨by decide, by decide⟩ dX12_entry_142 (fun x133 e132 h131 => ?_)
                  have e132 : x133.toInt = x115.toInt + 3 := e132
                  refine lv_iload hx hb dX12_entry_143 (lv_at hl 5 rfl) ?_
                  refine tw_iast hx hb hK hS hz_b3 hk_b3 (Or.inr (by decide)) hn_b3 h131 ⟨by decide, by decide⟩ h103 (rg_sas (Or.inr (by decide)) ⟨by decide, by decide⟩) (jl := 181) (jh := 225) ⟨by decide, by decide⟩ rfl dX12_entry_145 (fun H locs M136 hS k134 f135 => ?_)
                  refine lv_aload_n hx hb dX12_entry_146 rfl (lv_at hl 1 rfl) ?_
                  refine tw_getrk hx hb hW hown hK hS f_X12_45_11 hz_a0 hk_a0 (b := b3) k4 dX12_entry_147 ?_
                  refine lv_iconst (v := 5) hx hb dX12_entry_150 (by decide) ?_
                  refine lv_dup2_11 hx hb dX12_entry_151 rfl rfl ?_
                  have k137 : M136 b3 (5 : Int32).toNatClampNeg = x106 := ((Fr.kp (k := (5 : Int32).toNatClampNeg) f135 hk_b3 rfl).trans ((Fr.kp (k := (5 : Int32).toNatClampNeg) f129 hk_b3 rfl).trans ((Fr.kp (k := (5 : Int32).toNatClampNeg) f123 hk_b3 rfl).trans (Fr.kp (k := (5 : Int32).toNatClampNeg) f117 hk_b3 rfl)))).trans k105
                  refine tw_ialk hx hb hK hS hz_b3 hk_b3 (Or.inr (by decide)) hn_b3 (iv_c (c := 5) (n := 5) (by decide)) ⟨by decide, by decide⟩ (v := x106) k137 dX12_entry_152 ?_
                  refine lv_iconst (v := 1) hx hb dX12_entry_153 (by decide) ?_
                  refine tw_iadd (lo := 1) (hi := 12) hx hb h109 (iv_c (c := 1) (n := 1) (by decide)) ⟨by decide, by decide⟩ ⟨by decide, by decide⟩ dX12_entry_154 (fun x140 e139 h138 => ?_)
                  have e139 : x140.toInt = x106.toInt + 1 := e139
                  refine tw_iast hx hb hK hS hz_b3 hk_b3 (Or.inr (by decide)) hn_b3 (iv_c (c := 5) (n := 5) (by decide)) ⟨by decide, by decide⟩ h138 (rg_cs (k0 := 5) rfl rfl rfl ⟨by decide, by decide⟩) (jl := 5) (jh := 5) ⟨by decide, by decide⟩ rfl dX12_entry_155 (fun H locs M143 hS k141 f142 => ?_)
                  refine lv_aload_n hx hb dX12_entry_156 rfl (lv_at hl 1 rfl) ?_
                  refine tw_getrk hx hb hW hown hK hS f_X12_45_11 hz_a0 hk_a0 (b := b3) k4 dX12_entry_157 ?_
                  refine lv_iconst (v := 5) hx hb dX12_entry_160 (by decide) ?_
                  refine tw_ialk hx hb hK hS hz_b3 hk_b3 (Or.inr (by decide)) hn_b3 (iv_c (c := 5) (n := 5) (by decide)) ⟨by decide, by decide⟩ (v := x140) k141 dX12_entry_161 ?_
                  exact tw_endi hx hb hr hlocks hK hT hS hQ ((iv_mono h138 (by decide) (by decide))) dX12_entry_162
                · have q144 : x106.toInt = 12 := ti_eq c107
                  have h145 : iv 12 12 x106 := ⟨by have := (h104).1; have := ((iv_c (c := 12) (n := 12) (by decide))).1; omega, by have := (h104).2; have := ((iv_c (c := 12) (n := 12) (by decide))).2; omega⟩
                  refine lv_aload_n hx hb dX12_entry_87 rfl (lv_at hl 0 rfl) ?_
                  refine lv_iconst (v := 1) hx hb dX12_entry_88 (by decide) ?_
                  refine tw_goi hS (md_runV (As := [.int 1]) (rest := []) hx hb hml hown hW hK hT hS.1 (t_X12_refuses l D cy tx base Z K N Ma Ra J94 hS.2.1 a0 hz_a0 hk_a0 1 (iv_mono (iv_c (c := 1) (n := 1) (by decide)) (by decide) (by decide))) s_X12_338 ⟨rfl, rfl, ⟨Nat.le_of_ble_eq_true rfl, Nat.le_of_ble_eq_true rfl⟩, ⟨Nat.le_of_ble_eq_true rfl, Nat.le_of_ble_eq_true rfl⟩⟩ hz_a0 hk_a0 (by decide) rfl rfl hl.1 rfl (Nat.le_of_ble_eq_true rfl) dX12_entry_89) rfl rfl (fun x152 H locs M149 R150 J148 hS f146 g147 E151 => ?_)
                  have eR150 := Fr.nil g147 rfl
                  subst eR150
                  have h_x152 := E151
                  exact tw_endi hx hb hr hlocks hK hT hS hQ ((iv_mono h_x152 (by decide) (by decide))) dX12_entry_92
              · have q153 : x98.toInt = 0 := ti_eq c100
                have h154 : iv 0 0 x98 := ⟨by have := (h_x98).1; have := ((iv_c (c := 0) (n := 0) (by decide))).1; omega, by have := (h_x98).2; have := ((iv_c (c := 0) (n := 0) (by decide))).2; omega⟩
                refine lv_aload_n hx hb dX12_entry_70 rfl (lv_at hl 0 rfl) ?_
                refine lv_iconst (v := 0) hx hb dX12_entry_71 (by decide) ?_
                refine tw_goi hS (md_runV (As := [.int 0]) (rest := []) hx hb hml hown hW hK hT hS.1 (t_X12_refuses l D cy tx base Z K N Ma Ra J94 hS.2.1 a0 hz_a0 hk_a0 0 (iv_mono (iv_c (c := 0) (n := 0) (by decide)) (by decide) (by decide))) s_X12_338 ⟨rfl, rfl, ⟨Nat.le_of_ble_eq_true rfl, Nat.le_of_ble_eq_true rfl⟩, ⟨Nat.le_of_ble_eq_true rfl, Nat.le_of_ble_eq_true rfl⟩⟩ hz_a0 hk_a0 (by decide) rfl rfl hl.1 rfl (Nat.le_of_ble_eq_true rfl) dX12_entry_72) rfl rfl (fun x161 H locs M158 R159 J157 hS f155 g156 E160 => ?_)
                have eR159 := Fr.nil g156 rfl
                subst eR159
                have h_x161 := E160
                exact tw_endi hx hb hr hlocks hK hT hS hQ ((iv_mono h_x161 (by decide) (by decide))) dX12_entry_75
  · have q162 : a1.toInt = (-1) := ti_eq c1
    have h163 : iv (-1) (-1) a1 := ⟨by have := (h_a1).1; have := ((iv_c (c := (-1)) (n := (-1)) (by decide))).1; omega, by have := (h_a1).2; have := ((iv_c (c := (-1)) (n := (-1)) (by decide))).2; omega⟩
    refine lv_aload_n hx hb dX12_entry_5 rfl (lv_at hl 0 rfl) ?_
    refine tw_getr hx hb hW hown hK hS f_X12_45_11 hz_a0 hk_a0 (t := 23) (n := 226) rfl dX12_entry_6 (fun b164 k165 hz_b164 hk_b164 hn_b164 => ?_)
    have hn_b164 := hn_b164 (by decide)
    refine lv_iconst (v := 5) hx hb dX12_entry_9 (by decide) ?_
    refine lv_iconst (v := 0) hx hb dX12_entry_10 (by decide) ?_
    refine tw_iast hx hb hK hS hz_b164 hk_b164 (Or.inr (by decide)) hn_b164 (iv_c (c := 5) (n := 5) (by decide)) ⟨by decide, by decide⟩ (iv_c (c := 0) (n := 0) (by decide)) (rg_0 ⟨rfl, rfl⟩) (jl := 5) (jh := 5) ⟨by decide, by decide⟩ rfl dX12_entry_11 (fun H locs M168 hS k166 f167 => ?_)
    refine lv_iconst (v := 0) hx hb dX12_entry_12 (by decide) ?_
    exact tw_endi hx hb hr hlocks hK hT hS hQ ((iv_mono (iv_c (c := 0) (n := 0) (by decide)) (by decide) (by decide))) dX12_entry_13
def Lt_X12_four : WL := [(12, 1, 2), (13, 0, 2000000)]
def LRt_X12_four : WL := []
set_option maxRecDepth 100000 in
set_option maxHeartbeats 4000000 in
theorem t_X12_four (l : Launch) (D : va_G) (cy : Nat → ClassId) (tx : (Nat → Nat) × (Nat → Nat)) (base Z : Nat) (K N : Nat → Nat) (Ma : MT) (Ra : RT) (Ja : JT) (hTy : Ty Z K N Ma Ra) (a0 : Nat) (hz_a0 : a0 < Z) (hk_a0 : K a0 = 12) (a1 : Int32) (h_a1 : iv (-2147483648) 2147483647 a1) (t0 : Int32) (k_t0 : Ma a0 1 = t0) (h_t0 : iv 0 396 t0) : Met l yX12_four [Cond.code yX12_four cX12_four 3 none] (md_rm 1 0 0) (va_Pc [.ref (base + a0), .int a1] (md_U D cy tx base Z K N Ma Ra Ja)) (mQv D cy tx base (fun u => TP Z K N Lt_X12_four LRt_X12_four Ma Ra u ∧ ((∃ x : Int32, u.2.2.2.1 a0 1 = x ∧ iv 4 400 x ∧ (x.toInt = t0.toInt + 4))))) 0 0 (fun q => base ≤ q) := by
  refine tw_ofW (L := Lt_X12_four) (LR := LRt_X12_four) (by decide) (Nat.le_of_ble_eq_true rfl) hTy ?_
  intro p e s m args below meth c Q ls hx hb hr hlocks hown hml hW hK hT hS hQ hl
  have hl : lv_has ls 3 [(0, .ref (base + a0)), (1, .int a1)] := hl
  refine lv_bipush (v := 24) hx hb dX12_four_0 (by decide) ?_
  refine lv_istore_n (lv' := [(2, .int 24), (0, .ref (base + a0)), (1, .int a1)]) hx hb dX12_four_2 rfl hl (by decide) rfl (fun ls hl => ?_)
  have W3_2 : ∀ (n_2 : Nat) (x1 : Int32) (x7 : Int32) (M2 : MT) (R3 : RT) (J4 : JT) (H : Heap) (locs : List Loc) (ls : Array Slot) (h_x1 : iv (-8) 24 x1) (h_x7 : iv 0 400 x7) (k8 : M2 a0 1 = x7) (w0_2 : 8 * x7.toInt + x1.toInt = 8 * t0.toInt + 24) (hm_2 : x1.toInt - (-8) < (n_2 : Int)) (hS : SB D cy base Z K N Lt_X12_four LRt_X12_four Ma Ra M2 R3 J4 s H locs) (hl : lv_has ls 3 [(2, .int x1), (0, .ref (base + a0)), (1, .int a1)]), W p l e (md_rm 1 0 0) s m args below meth c H locs 0 0 Q (F0 m 3 ls []) := by
    intro n_2
    induction n_2 with
    | zero =>
      intro x1 x7 M2 R3 J4 H locs ls h_x1 h_x7 k8 w0_2 hm_2 hS hl
      exfalso
      have := (h_a1).1; have := (h_a1).2; have := (h_t0).1; have := (h_t0).2; have := (h_x1).1; have := (h_x1).2; have := (h_x7).1; have := (h_x7).2; omega
    | succ n_2 ih_2 =>
      intro x1 x7 M2 R3 J4 H locs ls h_x1 h_x7 k8 w0_2 hm_2 hS hl
      have f5 := hS.2.2.1
      have g6 := hS.2.2.2
      refine lv_iload_n hx hb dX12_four_3 rfl (lv_at hl 0 rfl) ?_
      refine lv_if_lt (tgt := 36) hx hb dX12_four_4 (by decide) (fun c9 => ?_) (fun c9 => ?_)
      · have q10 : x1.toInt < 0 := ti_lt c9
        have h11 : iv (-8) (-1) x1 := iv_ltL (y := 0) h_x1 (iv_c (c := 0) (n := 0) (by decide)) q10 (by decide)
        have h12 : iv 4 400 x7 := by
          have := (h_a1).1; have := (h_a1).2; have := (h_t0).1; have := (h_t0).2; have := (h11).1; have := (h11).2; have := (h_x7).1; have := (h_x7).2; exact ⟨by omega, by omega⟩
        have q13 : x7.toInt = t0.toInt + 4 := by
          have := (h_a1).1; have := (h_a1).2; have := (h_t0).1; have := (h_t0).2; have := (h11).1; have := (h11).2; have := (h_x7).1; have := (h_x7).2; omega
        exact tw_endv hx hb hr hlocks hK hT hS hQ (⟨x7, k8, h12, q13⟩) dX12_four_36
      · have q14 : 0 ≤ x1.toInt := ti_nlt c9
        have h15 : iv 0 24 x1 := iv_geL (y := 0) h_x1 (iv_c (c := 0) (n := 0) (by decide)) q14 (by decide)
        refine lv_aload_n hx hb dX12_four_7 rfl (lv_at hl 1 rfl) ?_
        refine tw_getr hx hb hW hown hK hS f_X12_7_11 hz_a0 hk_a0 (t := 13) (n := 400) rfl dX12_four_8 (fun b16 k17 hz_b16 hk_b16 hn_b16 => ?_)
        have hn_b16 := hn_b16 (by decide)
        refine lv_aload_n hx hb dX12_four_11 rfl (lv_at hl 1 rfl) ?_
        refine tw_getk hx hb hW hown hK hS f_X12_116_11 hz_a0 hk_a0 (v := x7) k8 dX12_four_12 ?_
        refine lv_iload_n hx hb dX12_four_15 rfl (lv_at hl 2 rfl) ?_
        refine lv_iload_n hx hb dX12_four_16 rfl (lv_at hl 0 rfl) ?_
        refine lv_ishr hx hb dX12_four_17 ?_
        refine tw_top (fun x19 => ?_)
        have h18 := iv_any x19
        refine lv_i2b hx hb dX12_four_18 rfl ?_
        refine tw_top (fun x21 => ?_)
        have h20 := iv_any x21
        have h22 : iv 0 399 x7 := by
          have := (h_a1).1; have := (h_a1).2; have := (h_t0).1; have := (h_t0).2; have := (h15).1; have := (h15).2; have := (h_x7).1; have := (h_x7).2; exact ⟨by omega, by omega⟩
        refine tw_bast hx hb hK hS hz_b16 hk_b16 hn_b16 h22 ⟨by decide, by decide⟩ (jl := 0) (jh := 1999999) ⟨by decide, by decide⟩ rfl dX12_four_19 (fun H locs M24 hS f23 => ?_)
        refine lv_aload_n hx hb dX12_four_20 rfl (lv_at hl 1 rfl) ?_
        refine lv_dup hx hb dX12_four_21 rfl ?_
        have k25 : M24 a0 1 = x7 := (Fr.kp (k := 1) f23 hk_a0 rfl).trans k8
        refine tw_getk hx hb hW hown hK hS f_X12_116_11 hz_a0 hk_a0 (v := x7) k25 dX12_four_22 ?_
        refine lv_iconst (v := 1) hx hb dX12_four_25 (by decide) ?_
        refine tw_iadd (lo := 1) (hi := 400) hx hb h22 (iv_c (c := 1) (n := 1) (by decide)) ⟨by decide, by decide⟩ ⟨by decide, by decide⟩ dX12_four_26 (fun x28 e27 h26 => ?_)
        have e27 : x28.toInt = x7.toInt + 1 := e27
        refine tw_puti hx hb hW hown hK hS f_X12_116_11 hz_a0 hk_a0 rfl rfl (lo := 0) (hi := 400) rfl (iv_mono h26 (by decide) (by decide)) rfl dX12_four_27 (fun H locs M31 hS k29 f30 => ?_)
        refine tw_iinc (lv' := fun x34 => [(2, .int x34), (0, .ref (base + a0)), (1, .int a1)]) (lo := (-8)) (hi := 16) hx hb dX12_four_30 hl (k := 0) rfl h15 (by decide) ⟨by decide, by decide⟩ ⟨by decide, by decide⟩ (by decide) (fun _ => rfl) (fun x34 ls e33 h32 hl => ?_)
        refine lv_goto (tgt := 3) hx hb dX12_four_33 (by decide) ?_
        have w35 : 8 * x28.toInt + x34.toInt = 8 * t0.toInt + 24 := by
          have := (h_a1).1; have := (h_a1).2; have := (h_t0).1; have := (h_t0).2; have := (h15).1; have := (h15).2; have := (h26).1; have := (h26).2; have := (h32).1; have := (h32).2; have := (h22).1; have := (h22).2; omega
        have hm36 : x34.toInt - (-8) < (n_2 : Int) := by
          have := (h_a1).1; have := (h_a1).2; have := (h_t0).1; have := (h_t0).2; have := (h15).1; have := (h15).2; have := (h26).1; have := (h26).2; have := (h32).1; have := (h32).2; have := (h22).1; have := (h22).2; omega
        exact ih_2 x34 x28 M31 R3 J4 H locs _ (iv_mono h32 (by decide) (by decide)) (iv_mono h26 (by decide) (by decide)) k29 w35 hm36 hS hl
  have w37 : 8 * t0.toInt + (24 : Int32).toInt = 8 * t0.toInt + 24 := by
    have := (h_a1).1; have := (h_a1).2; have := (h_t0).1; have := (h_t0).2; have : (24 : Int32).toInt = 24 := (by decide); omega
  have hm38 : (24 : Int32).toInt - (-8) < (((33 : Nat) : Int) : Int) := by
    have := (h_a1).1; have := (h_a1).2; have := (h_t0).1; have := (h_t0).2; have : (24 : Int32).toInt = 24 := (by decide); omega
  exact W3_2 33 24 t0 Ma Ra Ja s.heap [] _ (iv_mono (iv_c (c := 24) (n := 24) (by decide)) (by decide) (by decide)) (iv_mono h_t0 (by decide) (by decide)) k_t0 w37 hm38 hS hl
def Lt_X12_feed : WL := [(12, 1, 2), (13, 0, 2000000)]
def LRt_X12_feed : WL := []
set_option maxRecDepth 100000 in
set_option maxHeartbeats 4000000 in
theorem t_X12_feed (l : Launch) (D : va_G) (cy : Nat → ClassId) (tx : (Nat → Nat) × (Nat → Nat)) (base Z : Nat) (K N : Nat → Nat) (Ma : MT) (Ra : RT) (Ja : JT) (hTy : Ty Z K N Ma Ra) (a0 : Nat) (hz_a0 : a0 < Z) (hk_a0 : K a0 = 12) (a1 : Int32) (h_a1 : iv (-2147483648) 2147483647 a1) (a2 : Int32) (h_a2 : iv (-2147483648) 2147483647 a2) (a3 : Int32) (h_a3 : iv (-2147483648) 2147483647 a3) (a4 : Int32) (h_a4 : iv (-2147483648) 2147483647 a4) (a5 : Int32) (h_a5 : iv (-2147483648) 2147483647 a5) : Met l yX12_feed [Cond.code yX12_feed cX12_feed 6 (some .int)] (md_rm 2 0 0) (va_Pc [.ref (base + a0), .int a1, .int a2, .int a3, .int a4, .int a5] (md_U D cy tx base Z K N Ma Ra Ja)) (mQi D cy tx base (fun r u => TP Z K N Lt_X12_feed LRt_X12_feed Ma Ra u ∧ (iv (-1) 400 r))) 0 0 (fun q => base ≤ q) := by
  refine tw_ofW (L := Lt_X12_feed) (LR := LRt_X12_feed) (by decide) (Nat.le_of_ble_eq_true rfl) hTy ?_
  intro p e s m args below meth c Q ls hx hb hr hlocks hown hml hW hK hT hS hQ hl
  have hl : lv_has ls 6 [(0, .ref (base + a0)), (1, .int a1), (2, .int a2), (3, .int a3), (4, .int a4), (5, .int a5)] := hl
  refine lv_aload_n hx hb dX12_feed_0 rfl (lv_at hl 0 rfl) ?_
  refine tw_geti hx hb hW hown hK hS f_X12_116_11 hz_a0 hk_a0 (lo := 0) (hi := 400) rfl dX12_feed_1 (fun x3 k2 h1 => ?_)
  refine lv_bipush (v := 20) hx hb dX12_feed_4 (by decide) ?_
  refine tw_iadd (lo := 20) (hi := 420) hx hb h1 (iv_c (c := 20) (n := 20) (by decide)) ⟨by decide, by decide⟩ ⟨by decide, by decide⟩ dX12_feed_6 (fun x6 e5 h4 => ?_)
  have e5 : x6.toInt = x3.toInt + 20 := e5
  refine lv_sipush (v := 400) hx hb dX12_feed_7 (by decide) ?_
  refine lv_icmp_le (tgt := 15) hx hb dX12_feed_10 (by decide) (fun c7 => ?_) (fun c7 => ?_)
  · have q8 : x6.toInt ≤ 400 := ti_le c7
    have h9 : iv 20 400 x6 := iv_leL (y := 400) h4 (iv_c (c := 400) (n := 400) (by decide)) q8 (by decide)
    refine lv_aload_n hx hb dX12_feed_15 rfl (lv_at hl 0 rfl) ?_
    refine lv_iload_n hx hb dX12_feed_16 rfl (lv_at hl 1 rfl) ?_
    have h10 : iv 0 396 x3 := by
      have := (h_a1).1; have := (h_a1).2; have := (h_a2).1; have := (h_a2).2; have := (h_a3).1; have := (h_a3).2; have := (h_a4).1; have := (h_a4).2; have := (h_a5).1; have := (h_a5).2; have := (h1).1; have := (h1).2; have := (h9).1; have := (h9).2; exact ⟨by omega, by omega⟩
    refine tw_gov hS (md_runV (As := [.int a1]) (rest := []) hx hb hml hown hW hK hT hS.1 (t_X12_four l D cy tx base Z K N Ma Ra Ja hS.2.1 a0 hz_a0 hk_a0 a1 h_a1 x3 k2 h10) s_X12_120 ⟨rfl, rfl, ⟨Nat.le_of_ble_eq_true rfl, Nat.le_of_ble_eq_true rfl⟩, ⟨Nat.le_of_ble_eq_true rfl, Nat.le_of_ble_eq_true rfl⟩⟩ hz_a0 hk_a0 (by decide) rfl rfl hl.1 rfl (Nat.le_of_ble_eq_true rfl) dX12_feed_17) rfl rfl (fun H locs M14 R15 J13 hS f11 g12 E16 => ?_)
    have eR15 := Fr.nil g12 rfl
    subst eR15
    have p17 := E16
    obtain ⟨x20, k18, h19, q21⟩ := p17
    have k18 : M14 a0 1 = x20 := k18
    refine lv_aload_n hx hb dX12_feed_20 rfl (lv_at hl 0 rfl) ?_
    refine lv_iload_n hx hb dX12_feed_21 rfl (lv_at hl 2 rfl) ?_
    have h22 : iv 0 396 x20 := by
      have := (h_a1).1; have := (h_a1).2; have := (h_a2).1; have := (h_a2).2; have := (h_a3).1; have := (h_a3).2; have := (h_a4).1; have := (h_a4).2; have := (h_a5).1; have := (h_a5).2; have := (h19).1; have := (h19).2; have := (h1).1; have := (h1).2; have := (h9).1; have := (h9).2; exact ⟨by omega, by omega⟩
    refine tw_gov hS (md_runV (As := [.int a2]) (rest := []) hx hb hml hown hW hK hT hS.1 (t_X12_four l D cy tx base Z K N M14 Ra J13 hS.2.1 a0 hz_a0 hk_a0 a2 h_a2 x20 k18 h22) s_X12_120 ⟨rfl, rfl, ⟨Nat.le_of_ble_eq_true rfl, Nat.le_of_ble_eq_true rfl⟩, ⟨Nat.le_of_ble_eq_true rfl, Nat.le_of_ble_eq_true rfl⟩⟩ hz_a0 hk_a0 (by decide) rfl rfl hl.1 rfl (Nat.le_of_ble_eq_true rfl) dX12_feed_22) rfl rfl (fun H locs M26 R27 J25 hS f23 g24 E28 => ?_)
    have eR27 := Fr.nil g24 rfl
    subst eR27
    have p29 := E28
    obtain ⟨x32, k30, h31, q33⟩ := p29
    have k30 : M26 a0 1 = x32 := k30
    refine lv_aload_n hx hb dX12_feed_25 rfl (lv_at hl 0 rfl) ?_
    refine lv_iload_n hx hb dX12_feed_26 rfl (lv_at hl 3 rfl) ?_
    have h34 : iv 0 396 x32 := by
      have := (h_a1).1; have := (h_a1).2; have := (h_a2).1; have := (h_a2).2; have := (h_a3).1; have := (h_a3).2; have := (h_a4).1; have := (h_a4).2; have := (h_a5).1; have := (h_a5).2; have := (h19).1; have := (h19).2; have := (h1).1; have := (h1).2; have := (h31).1; have := (h31).2; have := (h9).1; have := (h9).2; exact ⟨by omega, by omega⟩
    refine tw_gov hS (md_runV (As := [.int a3]) (rest := []) hx hb hml hown hW hK hT hS.1 (t_X12_four l D cy tx base Z K N M26 Ra J25 hS.2.1 a0 hz_a0 hk_a0 a3 h_a3 x32 k30 h34) s_X12_120 ⟨rfl, rfl, ⟨Nat.le_of_ble_eq_true rfl, Nat.le_of_ble_eq_true rfl⟩, ⟨Nat.le_of_ble_eq_true rfl, Nat.le_of_ble_eq_true rfl⟩⟩ hz_a0 hk_a0 (by decide) rfl rfl hl.1 rfl (Nat.le_of_ble_eq_true rfl) dX12_feed_27) rfl rfl (fun H locs M38 R39 J37 hS f35 g36 E40 => ?_)
    have eR39 := Fr.nil g36 rfl
    subst eR39
    have p41 := E40
    obtain ⟨x44, k42, h43, q45⟩ := p41
    have k42 : M38 a0 1 = x44 := k42
    refine lv_aload_n hx hb dX12_feed_30 rfl (lv_at hl 0 rfl) ?_
    refine lv_iload hx hb dX12_feed_31 (lv_at hl 4 rfl) ?_
    have h46 : iv 0 396 x44 := by
      have := (h_a1).1; have := (h_a1).2; have := (h_a2).1; have := (h_a2).2; have := (h_a3).1; have := (h_a3).2; have := (h_a4).1; have := (h_a4).2; have := (h_a5).1; have := (h_a5).2; have := (h19).1; have := (h19).2; have := (h1).1; have := (h1).2; have := (h31).1; have := (h31).2; have := (h43).1; have := (h43).2; have := (h9).1; have := (h9).2; exact ⟨by omega, by omega⟩
    refine tw_gov hS (md_runV (As := [.int a4]) (rest := []) hx hb hml hown hW hK hT hS.1 (t_X12_four l D cy tx base Z K N M38 Ra J37 hS.2.1 a0 hz_a0 hk_a0 a4 h_a4 x44 k42 h46) s_X12_120 ⟨rfl, rfl, ⟨Nat.le_of_ble_eq_true rfl, Nat.le_of_ble_eq_true rfl⟩, ⟨Nat.le_of_ble_eq_true rfl, Nat.le_of_ble_eq_true rfl⟩⟩ hz_a0 hk_a0 (by decide) rfl rfl hl.1 rfl (Nat.le_of_ble_eq_true rfl) dX12_feed_33) rfl rfl (fun H locs M50 R51 J49 hS f47 g48 E52 => ?_)
    have eR51 := Fr.nil g48 rfl
    subst eR51
    have p53 := E52
    obtain ⟨x56, k54, h55, q57⟩ := p53
    have k54 : M50 a0 1 = x56 := k54
    refine lv_aload_n hx hb dX12_feed_36 rfl (lv_at hl 0 rfl) ?_
    refine lv_iload hx hb dX12_feed_37 (lv_at hl 5 rfl) ?_
    have h58 : iv 0 396 x56 := by
      have := (h_a1).1; have := (h_a1).2; have := (h_a2).1; have := (h_a2).2; have := (h_a3).1; have := (h_a3).2; have := (h_a4).1; have := (h_a4).2; have := (h_a5).1; have := (h_a5).2; have := (h19).1; have := (h19).2; have := (h1).1; have := (h1).2; have := (h31).1; have := (h31).2; have := (h43).1; have := (h43).2; have := (h55).1; have := (h55).2; have := (h9).1; have := (h9).2; exact ⟨by omega, by omega⟩
    refine tw_gov hS (md_runV (As := [.int a5]) (rest := []) hx hb hml hown hW hK hT hS.1 (t_X12_four l D cy tx base Z K N M50 Ra J49 hS.2.1 a0 hz_a0 hk_a0 a5 h_a5 x56 k54 h58) s_X12_120 ⟨rfl, rfl, ⟨Nat.le_of_ble_eq_true rfl, Nat.le_of_ble_eq_true rfl⟩, ⟨Nat.le_of_ble_eq_true rfl, Nat.le_of_ble_eq_true rfl⟩⟩ hz_a0 hk_a0 (by decide) rfl rfl hl.1 rfl (Nat.le_of_ble_eq_true rfl) dX12_feed_39) rfl rfl (fun H locs M62 R63 J61 hS f59 g60 E64 => ?_)
    have eR63 := Fr.nil g60 rfl
    subst eR63
    have p65 := E64
    obtain ⟨x68, k66, h67, q69⟩ := p65
    have k66 : M62 a0 1 = x68 := k66
    refine lv_aload_n hx hb dX12_feed_42 rfl (lv_at hl 0 rfl) ?_
    refine tw_getk hx hb hW hown hK hS f_X12_116_11 hz_a0 hk_a0 (v := x68) k66 dX12_feed_43 ?_
    exact tw_endi hx hb hr hlocks hK hT hS hQ ((iv_mono h67 (by decide) (by decide))) dX12_feed_46
  · have q70 : 400 < x6.toInt := ti_nle c7
    have h71 : iv 401 420 x6 := iv_gtL (y := 400) h4 (iv_c (c := 400) (n := 400) (by decide)) q70 (by decide)
    refine lv_iconst (v := (-1)) hx hb dX12_feed_13 (by decide) ?_
    exact tw_endi hx hb hr hlocks hK hT hS hQ ((iv_mono (iv_c (c := (-1)) (n := (-1)) (by decide)) (by decide) (by decide))) dX12_feed_14
def Lt_X12_holds : WL := [(12, 28, 29), (12, 31, 33), (14, 0, 2000000), (30, 0, 2000000)]
def LRt_X12_holds : WL := []
set_option maxRecDepth 100000 in
set_option maxHeartbeats 4000000 in
theorem t_X12_holds (l : Launch) (D : va_G) (cy : Nat → ClassId) (tx : (Nat → Nat) × (Nat → Nat)) (base Z : Nat) (K N : Nat → Nat) (Ma : MT) (Ra : RT) (Ja : JT) (hTy : Ty Z K N Ma Ra) (a0 : Nat) (hz_a0 : a0 < Z) (hk_a0 : K a0 = 12) (a1 : Int32) (h_a1 : iv 0 2147483647 a1) (a2 : Int32) (h_a2 : iv 1 6 a2) : Met l yX12_holds [Cond.code yX12_holds cX12_holds 6 (some .boolean)] (md_rm 5 0 0) (va_Pc [.ref (base + a0), .int a1, .int a2] (md_U D cy tx base Z K N Ma Ra Ja)) (mQi D cy tx base (fun r u => TP Z K N Lt_X12_holds LRt_X12_holds Ma Ra u ∧ (iv 0 1 r))) 0 0 (fun q => base ≤ q) := by
  refine tw_ofW (L := Lt_X12_holds) (LR := LRt_X12_holds) (by decide) (Nat.le_of_ble_eq_true rfl) hTy ?_
  intro p e s m args below meth c Q ls hx hb hr hlocks hown hml hW hK hT hS hQ hl
  have hl : lv_has ls 6 [(0, .ref (base + a0)), (1, .int a1), (2, .int a2)] := hl
  refine lv_iload_n hx hb dX12_holds_0 rfl (lv_at hl 1 rfl) ?_
  refine lv_istore_n (lv' := [(3, .int a1), (0, .ref (base + a0)), (1, .int a1), (2, .int a2)]) hx hb dX12_holds_1 rfl hl (by decide) rfl (fun ls hl => ?_)
  refine lv_iconst (v := 0) hx hb dX12_holds_2 (by decide) ?_
  refine lv_istore (lv' := [(4, .int 0), (3, .int a1), (0, .ref (base + a0)), (1, .int a1), (2, .int a2)]) hx hb dX12_holds_3 hl (by decide) rfl (fun ls hl => ?_)
  have W5_3 : ∀ (n_3 : Nat) (x1 : Int32) (x2 : Int32) (M3 : MT) (R4 : RT) (J5 : JT) (H : Heap) (locs : List Loc) (ls : Array Slot) (h_x1 : iv 0 2147483647 x1) (h_x2 : iv 0 10 x2) (hm_3 : 10 - x2.toInt < (n_3 : Int)) (hS : SB D cy base Z K N Lt_X12_holds LRt_X12_holds Ma Ra M3 R4 J5 s H locs) (hl : lv_has ls 6 [(3, .int x1), (4, .int x2), (0, .ref (base + a0)), (1, .int a1), (2, .int a2)]), W p l e (md_rm 5 0 0) s m args below meth c H locs 0 0 Q (F0 m 5 ls []) := by
    intro n_3
    induction n_3 with
    | zero =>
      intro x1 x2 M3 R4 J5 H locs ls h_x1 h_x2 hm_3 hS hl
      exfalso
      have := (h_a1).1; have := (h_a1).2; have := (h_a2).1; have := (h_a2).2; have := (h_x2).1; have := (h_x2).2; omega
    | succ n_3 ih_3 =>
      intro x1 x2 M3 R4 J5 H locs ls h_x1 h_x2 hm_3 hS hl
      have f6 := hS.2.2.1
      have g7 := hS.2.2.2
      refine lv_iload hx hb dX12_holds_5 (lv_at hl 1 rfl) ?_
      refine lv_aload_n hx hb dX12_holds_7 rfl (lv_at hl 2 rfl) ?_
      refine tw_getr hx hb hW hown hK hS f_X12_45_11 hz_a0 hk_a0 (t := 23) (n := 226) rfl dX12_holds_8 (fun b8 k9 hz_b8 hk_b8 hn_b8 => ?_)
      have hn_b8 := hn_b8 (by decide)
      refine lv_iconst (v := 0) hx hb dX12_holds_11 (by decide) ?_
      refine tw_iald hx hb hK hS hz_b8 hk_b8 (Or.inr (by decide)) hn_b8 (lo := 0) (hi := 10) (iv_c (c := 0) (n := 0) (by decide)) ⟨by decide, by decide⟩ (rg_c (k0 := 0) rfl rfl rfl) dX12_holds_12 (fun x12 k11 h10 => ?_)
      refine lv_icmp_ge (tgt := 52) hx hb dX12_holds_13 (by decide) (fun c13 => ?_) (fun c13 => ?_)
      · have q14 : x12.toInt ≤ x2.toInt := ti_le c13
        refine lv_iconst (v := 0) hx hb dX12_holds_52 (by decide) ?_
        refine lv_istore (lv' := [(4, .int 0), (3, .int x1), (0, .ref (base + a0)), (1, .int a1), (2, .int a2)]) hx hb dX12_holds_53 hl (by decide) rfl (fun ls hl => ?_)
        have W55_16 : ∀ (n_16 : Nat) (x15 : Int32) (M16 : MT) (R17 : RT) (J18 : JT) (H : Heap) (locs : List Loc) (ls : Array Slot) (h_x15 : iv 0 12 x15) (hm_16 : 12 - x15.toInt < (n_16 : Int)) (hS : SB D cy base Z K N Lt_X12_holds LRt_X12_holds Ma Ra M16 R17 J18 s H locs) (hl : lv_has ls 6 [(4, .int x15), (3, .int x1), (0, .ref (base + a0)), (1, .int a1), (2, .int a2)]), W p l e (md_rm 5 0 0) s m args below meth c H locs 0 0 Q (F0 m 55 ls []) := by
          intro n_16
          induction n_16 with
          | zero =>
            intro x15 M16 R17 J18 H locs ls h_x15 hm_16 hS hl
            exfalso
            have := (h_a1).1; have := (h_a1).2; have := (h_a2).1; have := (h_a2).2; have := (h_x15).1; have := (h_x15).2; omega
          | succ n_16 ih_16 =>
            intro x15 M16 R17 J18 H locs ls h_x15 hm_16 hS hl
            have f19 := hS.2.2.1
            have g20 := hS.2.2.2
            refine lv_iload hx hb dX12_holds_55 (lv_at hl 0 rfl) ?_
            refine lv_aload_n hx hb dX12_holds_57 rfl (lv_at hl 2 rfl) ?_
            refine tw_getr hx hb hW hown hK hS f_X12_45_11 hz_a0 hk_a0 (t := 23) (n := 226) rfl dX12_holds_58 (fun b21 k22 hz_b21 hk_b21 hn_b21 => ?_)
            have hn_b21 := hn_b21 (by decide)
            refine lv_iconst (v := 5) hx hb dX12_holds_61 (by decide) ?_
            refine tw_iald hx hb hK hS hz_b21 hk_b21 (Or.inr (by decide)) hn_b21 (lo := 0) (hi := 12) (iv_c (c := 5) (n := 5) (by decide)) ⟨by decide, by decide⟩ (rg_c (k0 := 5) rfl rfl rfl) dX12_holds_62 (fun x25 k24 h23 => ?_)
            refine lv_icmp_ge (tgt := 153) hx hb dX12_holds_63 (by decide) (fun c26 => ?_) (fun c26 => ?_)
            · have q27 : x25.toInt ≤ x15.toInt := ti_le c26
              refine lv_iconst (v := 1) hx hb dX12_holds_153 (by decide) ?_
              exact tw_endz hx hb hr hlocks hK hT hS hQ rfl ((iv_mono (iv_c (c := 1) (n := 1) (by decide)) (by decide) (by decide))) dX12_holds_154
            · have q28 : x15.toInt < x25.toInt := ti_nle c26
              have h29 : iv 0 11 x15 := iv_ltL (y := x25) h_x15 h23 q28 (by decide)
              have h30 : iv 1 12 x25 := iv_gtL (y := x15) h23 h_x15 q28 (by decide)
              refine lv_sipush (v := 178) hx hb dX12_holds_66 (by decide) ?_
              refine lv_iconst (v := 4) hx hb dX12_holds_69 (by decide) ?_
              refine lv_iload hx hb dX12_holds_70 (lv_at hl 0 rfl) ?_
              refine tw_icmul (k := 4) (lo := 0) (hi := 44) hx hb (by decide) h29 (by decide) ⟨by decide, by decide⟩ ⟨by decide, by decide⟩ dX12_holds_72 (fun x33 e32 h31 => ?_)
              refine tw_iadd (lo := 178) (hi := 222) hx hb (iv_c (c := 178) (n := 178) (by decide)) h31 ⟨by decide, by decide⟩ ⟨by decide, by decide⟩ dX12_holds_73 (fun x36 e35 h34 => ?_)
              have e35 : x36.toInt = 178 + x33.toInt := e35
              refine lv_istore (lv' := [(5, .int x36), (4, .int x15), (3, .int x1), (0, .ref (base + a0)), (1, .int a1), (2, .int a2)]) hx hb dX12_holds_74 hl (by decide) rfl (fun ls hl => ?_)
              refine lv_aload_n hx hb dX12_holds_76 rfl (lv_at hl 3 rfl) ?_
              refine lv_aload_n hx hb dX12_holds_77 rfl (lv_at hl 3 rfl) ?_
              refine tw_getrk hx hb hW hown hK hS f_X12_45_11 hz_a0 hk_a0 (b := b21) k22 dX12_holds_78 ?_
              refine lv_iload hx hb dX12_holds_81 (lv_at hl 0 rfl) ?_
              refine tw_iald hx hb hK hS hz_b21 hk_b21 (Or.inr (by decide)) hn_b21 (lo := (-2147483648)) (hi := 2147483647) h34 ⟨by decide, by decide⟩ rg_full dX12_holds_83 (fun x39 k38 h37 => ?_)
              refine tw_puti hx hb hW hown hK hS f_X12_364_11 hz_a0 hk_a0 rfl rfl (lo := (-2147483648)) (hi := 2147483647) rfl h37 rfl dX12_holds_84 (fun H locs M42 hS k40 f41 => ?_)
              refine lv_aload_n hx hb dX12_holds_87 rfl (lv_at hl 3 rfl) ?_
              refine lv_aload_n hx hb dX12_holds_88 rfl (lv_at hl 3 rfl) ?_
              refine tw_getrk hx hb hW hown hK hS f_X12_45_11 hz_a0 hk_a0 (b := b21) k22 dX12_holds_89 ?_
              refine lv_iload hx hb dX12_holds_92 (lv_at hl 0 rfl) ?_
              refine lv_iconst (v := 1) hx hb dX12_holds_94 (by decide) ?_
              refine tw_iadd (lo := 179) (hi := 223) hx hb h34 (iv_c (c := 1) (n := 1) (by decide)) ⟨by decide, by decide⟩ ⟨by decide, by decide⟩ dX12_holds_95 (fun x45 e44 h43 => ?_)
              have e44 : x45.toInt = x36.toInt + 1 := e44
              refine tw_iald hx hb hK hS hz_b21 hk_b21 (Or.inr (by decide)) hn_b21 (lo := (-2147483648)) (hi := 2147483647) h43 ⟨by decide, by decide⟩ rg_full dX12_holds_96 (fun x48 k47 h46 => ?_)
              refine tw_puti hx hb hW hown hK hS f_X12_367_11 hz_a0 hk_a0 rfl rfl (lo := (-2147483648)) (hi := 2147483647) rfl h46 rfl dX12_holds_97 (fun H locs M51 hS k49 f50 => ?_)
              refine lv_aload_n hx hb dX12_holds_100 rfl (lv_at hl 3 rfl) ?_
              refine lv_aload_n hx hb dX12_holds_101 rfl (lv_at hl 3 rfl) ?_
              have k52 : M51 a0 31 = x39 := (Fr.kp (k := 31) f50 hk_a0 rfl).trans k40
              refine tw_getk hx hb hW hown hK hS f_X12_364_11 hz_a0 hk_a0 (v := x39) k52 dX12_holds_102 ?_
              obtain ⟨x55, k53⟩ : ∃ x, M51 b21 (0 : Int32).toNatClampNeg = x := ⟨_, rfl⟩
              have h54 : iv 0 10 x55 := by rw [← k53]; exact hS.2.1.int hz_b21 hk_b21 (show rgI 23 (0 : Int32).toNatClampNeg = (0, 10) from rfl)
              refine tw_goi hS (md_runV (As := [.int x39]) (rest := []) hx hb hml hown hW hK hT hS.1 (t_X12_voicesOf l D cy tx base Z K N M51 R17 J18 hS.2.1 a0 hz_a0 hk_a0 x39 h37 b21 k22 x55 k53 (iv_mono h54 (by decide) (by decide))) s_X12_380 ⟨rfl, rfl, ⟨Nat.le_of_ble_eq_true rfl, Nat.le_of_ble_eq_true rfl⟩, ⟨Nat.le_of_ble_eq_true rfl, Nat.le_of_ble_eq_true rfl⟩⟩ hz_a0 hk_a0 (by decide) rfl rfl hl.1 rfl (Nat.le_of_ble_eq_true rfl) dX12_holds_105) rfl rfl (fun x62 H locs M59 R60 J58 hS f56 g57 E61 => ?_)
              have eM59 := Fr.nil f56 rfl
              subst eM59
              have eR60 := Fr.nil g57 rfl
              subst eR60
              obtain ⟨h_x62, p63⟩ := E61
              refine lv_aload_n hx hb dX12_holds_108 rfl (lv_at hl 3 rfl) ?_
              refine tw_getrk hx hb hW hown hK hS f_X12_45_11 hz_a0 hk_a0 (b := b21) k22 dX12_holds_109 ?_
              refine lv_iload hx hb dX12_holds_112 (lv_at hl 0 rfl) ?_
              refine lv_iconst (v := 2) hx hb dX12_holds_114 (by decide) ?_
              refine tw_iadd (lo := 180) (hi := 224) hx hb h34 (iv_c (c := 2) (n := 2) (by decide)) ⟨by decide, by decide⟩ ⟨by decide, by decide⟩ dX12_holds_115 (fun x66 e65 h64 => ?_)
              have e65 : x66.toInt = x36.toInt + 2 := e65
              refine tw_iald hx hb hK hS hz_b21 hk_b21 (Or.inr (by decide)) hn_b21 (lo := (-2147483648)) (hi := 2147483647) h64 ⟨by decide, by decide⟩ rg_full dX12_holds_116 (fun x69 k68 h67 => ?_)
              refine lv_icmp_ne (tgt := 140) hx hb dX12_holds_117 (by decide) (fun c70 => ?_) (fun c70 => ?_)
              · have q71 : ¬ x62.toInt = x69.toInt := ti_ne c70
                refine lv_iconst (v := 0) hx hb dX12_holds_140 (by decide) ?_
                exact tw_endz hx hb hr hlocks hK hT hS hQ rfl ((iv_mono (iv_c (c := 0) (n := 0) (by decide)) (by decide) (by decide))) dX12_holds_141
              · have q72 : x62.toInt = x69.toInt := ti_eq c70
                have h73 : iv 0 99990 x69 := ⟨by have := (h_x62).1; have := (h67).1; omega, by have := (h_x62).2; have := (h67).2; omega⟩
                refine lv_aload_n hx hb dX12_holds_120 rfl (lv_at hl 3 rfl) ?_
                refine lv_aload_n hx hb dX12_holds_121 rfl (lv_at hl 3 rfl) ?_
                refine tw_getk hx hb hW hown hK hS f_X12_367_11 hz_a0 hk_a0 (v := x48) k49 dX12_holds_122 ?_
                refine tw_goi hS (md_runV (As := [.int x48]) (rest := []) hx hb hml hown hW hK hT hS.1 (t_X12_voicesOf l D cy tx base Z K N M51 R17 J58 hS.2.1 a0 hz_a0 hk_a0 x48 h46 b21 k22 x55 k53 (iv_mono h54 (by decide) (by decide))) s_X12_380 ⟨rfl, rfl, ⟨Nat.le_of_ble_eq_true rfl, Nat.le_of_ble_eq_true rfl⟩, ⟨Nat.le_of_ble_eq_true rfl, Nat.le_of_ble_eq_true rfl⟩⟩ hz_a0 hk_a0 (by decide) rfl rfl hl.1 rfl (Nat.le_of_ble_eq_true rfl) dX12_holds_125) rfl rfl (fun x80 H locs M77 R78 J76 hS f74 g75 E79 => ?_)
                have eM77 := Fr.nil f74 rfl
                subst eM77
                have eR78 := Fr.nil g75 rfl
                subst eR78
                obtain ⟨h_x80, p81⟩ := E79
                refine lv_aload_n hx hb dX12_holds_128 rfl (lv_at hl 3 rfl) ?_
                refine tw_getrk hx hb hW hown hK hS f_X12_45_11 hz_a0 hk_a0 (b := b21) k22 dX12_holds_129 ?_
                refine lv_iload hx hb dX12_holds_132 (lv_at hl 0 rfl) ?_
                refine lv_iconst (v := 3) hx hb dX12_holds_134 (by decide) ?_
                refine tw_iadd (lo := 181) (hi := 225) hx hb h34 (iv_c (c := 3) (n := 3) (by decide)) ⟨by decide, by decide⟩ ⟨by decide, by decide⟩ dX12_holds_135 (fun x84 e83 h82 => ?_)
                have e83 : x84.toInt = x36.toInt + 3 := e83
                refine tw_iald hx hb hK hS hz_b21 hk_b21 (Or.inr (by decide)) hn_b21 (lo := (-2147483648)) (hi := 2147483647) h82 ⟨by decide, by decide⟩ rg_full dX12_holds_136 (fun x87 k86 h85 => ?_)
                refine lv_icmp_eq (tgt := 142) hx hb dX12_holds_137 (by decide) (fun c88 => ?_) (fun c88 => ?_)
                · have q89 : x80.toInt = x87.toInt := ti_eq c88
                  have h90 : iv 0 99990 x87 := ⟨by have := (h_x80).1; have := (h85).1; omega, by have := (h_x80).2; have := (h85).2; omega⟩
                  refine lv_aload_n hx hb dX12_holds_142 rfl (lv_at hl 3 rfl) ?_
                  refine tw_goi hS (md_runV (As := []) (rest := []) hx hb hml hown hW hK hT hS.1 (t_X12_settles_ l D cy tx base Z K N M51 R17 J76 hS.2.1 a0 hz_a0 hk_a0) s_X12_399 ⟨rfl, rfl, ⟨Nat.le_of_ble_eq_true rfl, Nat.le_of_ble_eq_true rfl⟩, ⟨Nat.le_of_ble_eq_true rfl, Nat.le_of_ble_eq_true rfl⟩⟩ hz_a0 hk_a0 (by decide) rfl rfl hl.1 rfl (Nat.le_of_ble_eq_true rfl) dX12_holds_143) rfl rfl (fun x97 H locs M94 R95 J93 hS f91 g92 E96 => ?_)
                  have eR95 := Fr.nil g92 rfl
                  subst eR95
                  have h_x97 := E96
                  refine lv_pop hx hb dX12_holds_146 rfl ?_
                  refine tw_iinc (lv' := fun x100 => [(4, .int x100), (5, .int x36), (3, .int x1), (0, .ref (base + a0)), (1, .int a1), (2, .int a2)]) (lo := 1) (hi := 12) hx hb dX12_holds_147 hl (k := 1) rfl h29 (by decide) ⟨by decide, by decide⟩ ⟨by decide, by decide⟩ (by decide) (fun _ => rfl) (fun x100 ls e99 h98 hl => ?_)
                  refine lv_goto (tgt := 55) hx hb dX12_holds_150 (by decide) ?_
                  have hm101 : 12 - x100.toInt < (n_16 : Int) := by
                    have := (h_a1).1; have := (h_a1).2; have := (h_a2).1; have := (h_a2).2; have := (h98).1; have := (h98).2; have := (h29).1; have := (h29).2; have := (h31).1; have := (h31).2; omega
                  exact ih_16 x100 M94 R17 J93 H locs _ (iv_mono h98 (by decide) (by decide)) hm101 hS (lv_sub hl [0, 2, 3, 4, 5] rfl)
                · have q102 : ¬ x80.toInt = x87.toInt := ti_ne c88
                  refine lv_iconst (v := 0) hx hb dX12_holds_140 (by decide) ?_
                  exact tw_endz hx hb hr hlocks hK hT hS hQ rfl ((iv_mono (iv_c (c := 0) (n := 0) (by decide)) (by decide) (by decide))) dX12_holds_141
        have hm103 : 12 - (0 : Int32).toInt < (((13 : Nat) : Int) : Int) := by
          have := (h_a1).1; have := (h_a1).2; have := (h_a2).1; have := (h_a2).2; have : (0 : Int32).toInt = 0 := (by decide); omega
        exact W55_16 13 0 M3 R4 J5 H locs _ (iv_mono (iv_c (c := 0) (n := 0) (by decide)) (by decide) (by decide)) hm103 hS hl
      · have q104 : x2.toInt < x12.toInt := ti_nle c13
        have h105 : iv 0 9 x2 := iv_ltL (y := x12) h_x2 h10 q104 (by decide)
        have h106 : iv 1 10 x12 := iv_gtL (y := x2) h10 h_x2 q104 (by decide)
        refine lv_aload_n hx hb dX12_holds_16 rfl (lv_at hl 2 rfl) ?_
        refine tw_getr hx hb hW hown hK hS f_X12_102_11 hz_a0 hk_a0 (t := 14) (n := 10) rfl dX12_holds_17 (fun b107 k108 hz_b107 hk_b107 hn_b107 => ?_)
        have hn_b107 := hn_b107 (by decide)
        refine lv_iload hx hb dX12_holds_20 (lv_at hl 1 rfl) ?_
        refine lv_iconst (v := 1) hx hb dX12_holds_22 (by decide) ?_
        refine lv_iload_n hx hb dX12_holds_23 rfl (lv_at hl 0 rfl) ?_
        refine lv_iload_n hx hb dX12_holds_24 rfl (lv_at hl 4 rfl) ?_
        refine tw_irem (lo := 0) (hi := 5) hx hb h_x1 h_a2 ⟨by decide, by decide⟩ ⟨by decide, by decide⟩ dX12_holds_25 (fun x111 e110 h109 => ?_)
        refine tw_iadd (lo := 1) (hi := 6) hx hb (iv_c (c := 1) (n := 1) (by decide)) h109 ⟨by decide, by decide⟩ ⟨by decide, by decide⟩ dX12_holds_26 (fun x114 e113 h112 => ?_)
        have e113 : x114.toInt = 1 + x111.toInt := e113
        refine tw_iast hx hb hK hS hz_b107 hk_b107 (Or.inl rfl) hn_b107 h105 ⟨by decide, by decide⟩ h112 (rg_s14 ⟨by decide, by decide⟩) (jl := 0) (jh := 1999999) ⟨by decide, by decide⟩ rfl dX12_holds_27 (fun H locs M117 hS k115 f116 => ?_)
        refine lv_aload_n hx hb dX12_holds_28 rfl (lv_at hl 2 rfl) ?_
        refine tw_getr hx hb hW hown hK hS f_X12_51_11 hz_a0 hk_a0 (t := 30) (n := 10) rfl dX12_holds_29 (fun b118 k119 hz_b118 hk_b118 hn_b118 => ?_)
        have hn_b118 := hn_b118 (by decide)
        refine lv_iload hx hb dX12_holds_32 (lv_at hl 1 rfl) ?_
        refine lv_aload_n hx hb dX12_holds_34 rfl (lv_at hl 2 rfl) ?_
        refine tw_getrk hx hb hW hown hK hS f_X12_102_11 hz_a0 hk_a0 (b := b107) k108 dX12_holds_35 ?_
        refine lv_iload hx hb dX12_holds_38 (lv_at hl 1 rfl) ?_
        refine tw_ialk hx hb hK hS hz_b107 hk_b107 (Or.inl rfl) hn_b107 h105 ⟨by decide, by decide⟩ (v := x114) k115 dX12_holds_40 ?_
        refine tw_iast hx hb hK hS hz_b118 hk_b118 (Or.inr (by decide)) hn_b118 h105 ⟨by decide, by decide⟩ h112 (rg_s30 ⟨by decide, by decide⟩) (jl := 0) (jh := 1999999) ⟨by decide, by decide⟩ rfl dX12_holds_41 (fun H locs M122 hS k120 f121 => ?_)
        refine lv_iload_n hx hb dX12_holds_42 rfl (lv_at hl 0 rfl) ?_
        refine lv_iload_n hx hb dX12_holds_43 rfl (lv_at hl 4 rfl) ?_
        refine tw_idiv (lo := 0) (hi := 2147483647) hx hb h_x1 h_a2 ⟨by decide, by decide⟩ ⟨by decide, by decide⟩ dX12_holds_44 (fun x125 e124 h123 => ?_)
        refine lv_istore_n (lv' := [(3, .int x125), (4, .int x2), (0, .ref (base + a0)), (1, .int a1), (2, .int a2)]) hx hb dX12_holds_45 rfl hl (by decide) rfl (fun ls hl => ?_)
        refine tw_iinc (lv' := fun x128 => [(4, .int x128), (3, .int x125), (0, .ref (base + a0)), (1, .int a1), (2, .int a2)]) (lo := 1) (hi := 10) hx hb dX12_holds_46 hl (k := 1) rfl h105 (by decide) ⟨by decide, by decide⟩ ⟨by decide, by decide⟩ (by decide) (fun _ => rfl) (fun x128 ls e127 h126 hl => ?_)
        refine lv_goto (tgt := 5) hx hb dX12_holds_49 (by decide) ?_
        have hm129 : 10 - x128.toInt < (n_3 : Int) := by
          have := (h_a1).1; have := (h_a1).2; have := (h_a2).1; have := (h_a2).2; have := (h126).1; have := (h126).2; have := (h105).1; have := (h105).2; omega
        exact ih_3 x125 x128 M122 R4 J5 H locs _ h123 (iv_mono h126 (by decide) (by decide)) hm129 hS (lv_sub hl [1, 0, 2, 3, 4] rfl)
  have hm130 : 10 - (0 : Int32).toInt < (((11 : Nat) : Int) : Int) := by
    have := (h_a1).1; have := (h_a1).2; have := (h_a2).1; have := (h_a2).2; have : (0 : Int32).toInt = 0 := (by decide); omega
  exact W5_3 11 a1 0 Ma Ra Ja s.heap [] _ h_a1 (iv_mono (iv_c (c := 0) (n := 0) (by decide)) (by decide) (by decide)) hm130 hS (lv_sub hl [1, 0, 2, 3, 4] rfl)
def Lt_X12_waysOf : WL := []
def LRt_X12_waysOf : WL := []
set_option maxRecDepth 100000 in
set_option maxHeartbeats 4000000 in
theorem t_X12_waysOf (l : Launch) (D : va_G) (cy : Nat → ClassId) (tx : (Nat → Nat) × (Nat → Nat)) (base Z : Nat) (K N : Nat → Nat) (Ma : MT) (Ra : RT) (Ja : JT) (hTy : Ty Z K N Ma Ra) (a0 : Nat) (hz_a0 : a0 < Z) (hk_a0 : K a0 = 12) (a1 : Int32) (h_a1 : iv 1 6 a1) : Met l yX12_waysOf [Cond.code yX12_waysOf cX12_waysOf 4 (some .int)] (md_rm 1 0 0) (va_Pc [.ref (base + a0), .int a1] (md_U D cy tx base Z K N Ma Ra Ja)) (mQi D cy tx base (fun r u => TP Z K N Lt_X12_waysOf LRt_X12_waysOf Ma Ra u ∧ (iv (-2147483648) 2147483647 r))) 0 0 (fun q => base ≤ q) := by
  refine tw_ofW (L := Lt_X12_waysOf) (LR := LRt_X12_waysOf) (by decide) (Nat.le_of_ble_eq_true rfl) hTy ?_
  intro p e s m args below meth c Q ls hx hb hr hlocks hown hml hW hK hT hS hQ hl
  have hl : lv_has ls 4 [(0, .ref (base + a0)), (1, .int a1)] := hl
  refine lv_iconst (v := 1) hx hb dX12_waysOf_0 (by decide) ?_
  refine lv_istore_n (lv' := [(2, .int 1), (0, .ref (base + a0)), (1, .int a1)]) hx hb dX12_waysOf_1 rfl hl (by decide) rfl (fun ls hl => ?_)
  refine lv_iconst (v := 0) hx hb dX12_waysOf_2 (by decide) ?_
  refine lv_istore_n (lv' := [(3, .int 0), (2, .int 1), (0, .ref (base + a0)), (1, .int a1)]) hx hb dX12_waysOf_3 rfl hl (by decide) rfl (fun ls hl => ?_)
  have W4_3 : ∀ (n_3 : Nat) (x1 : Int32) (x2 : Int32) (M3 : MT) (R4 : RT) (J5 : JT) (H : Heap) (locs : List Loc) (ls : Array Slot) (h_x1 : iv (-2147483648) 2147483647 x1) (h_x2 : iv 0 10 x2) (hm_3 : 10 - x2.toInt < (n_3 : Int)) (hS : SB D cy base Z K N Lt_X12_waysOf LRt_X12_waysOf Ma Ra M3 R4 J5 s H locs) (hl : lv_has ls 4 [(2, .int x1), (3, .int x2), (0, .ref (base + a0)), (1, .int a1)]), W p l e (md_rm 1 0 0) s m args below meth c H locs 0 0 Q (F0 m 4 ls []) := by
    intro n_3
    induction n_3 with
    | zero =>
      intro x1 x2 M3 R4 J5 H locs ls h_x1 h_x2 hm_3 hS hl
      exfalso
      have := (h_a1).1; have := (h_a1).2; have := (h_x2).1; have := (h_x2).2; omega
    | succ n_3 ih_3 =>
      intro x1 x2 M3 R4 J5 H locs ls h_x1 h_x2 hm_3 hS hl
      have f6 := hS.2.2.1
      have g7 := hS.2.2.2
      refine lv_iload_n hx hb dX12_waysOf_4 rfl (lv_at hl 1 rfl) ?_
      refine lv_aload_n hx hb dX12_waysOf_5 rfl (lv_at hl 2 rfl) ?_
      refine tw_getr hx hb hW hown hK hS f_X12_45_11 hz_a0 hk_a0 (t := 23) (n := 226) rfl dX12_waysOf_6 (fun b8 k9 hz_b8 hk_b8 hn_b8 => ?_)
      have hn_b8 := hn_b8 (by decide)
      refine lv_iconst (v := 0) hx hb dX12_waysOf_9 (by decide) ?_
      refine tw_iald hx hb hK hS hz_b8 hk_b8 (Or.inr (by decide)) hn_b8 (lo := 0) (hi := 10) (iv_c (c := 0) (n := 0) (by decide)) ⟨by decide, by decide⟩ (rg_c (k0 := 0) rfl rfl rfl) dX12_waysOf_10 (fun x12 k11 h10 => ?_)
      refine lv_icmp_ge (tgt := 24) hx hb dX12_waysOf_11 (by decide) (fun c13 => ?_) (fun c13 => ?_)
      · have q14 : x12.toInt ≤ x2.toInt := ti_le c13
        refine lv_iload_n hx hb dX12_waysOf_24 rfl (lv_at hl 0 rfl) ?_
        exact tw_endi hx hb hr hlocks hK hT hS hQ (h_x1) dX12_waysOf_25
      · have q15 : x2.toInt < x12.toInt := ti_nle c13
        have h16 : iv 0 9 x2 := iv_ltL (y := x12) h_x2 h10 q15 (by decide)
        have h17 : iv 1 10 x12 := iv_gtL (y := x2) h10 h_x2 q15 (by decide)
        refine lv_iload_n hx hb dX12_waysOf_14 rfl (lv_at hl 0 rfl) ?_
        refine lv_iload_n hx hb dX12_waysOf_15 rfl (lv_at hl 3 rfl) ?_
        refine lv_imul hx hb dX12_waysOf_16 ?_
        refine tw_top (fun x19 => ?_)
        have h18 := iv_any x19
        refine lv_istore_n (lv' := [(2, .int x19), (3, .int x2), (0, .ref (base + a0)), (1, .int a1)]) hx hb dX12_waysOf_17 rfl hl (by decide) rfl (fun ls hl => ?_)
        refine tw_iinc (lv' := fun x22 => [(3, .int x22), (2, .int x19), (0, .ref (base + a0)), (1, .int a1)]) (lo := 1) (hi := 10) hx hb dX12_waysOf_18 hl (k := 1) rfl h16 (by decide) ⟨by decide, by decide⟩ ⟨by decide, by decide⟩ (by decide) (fun _ => rfl) (fun x22 ls e21 h20 hl => ?_)
        refine lv_goto (tgt := 4) hx hb dX12_waysOf_21 (by decide) ?_
        have hm23 : 10 - x22.toInt < (n_3 : Int) := by
          have := (h_a1).1; have := (h_a1).2; have := (h16).1; have := (h16).2; have := (h20).1; have := (h20).2; omega
        exact ih_3 x19 x22 M3 R4 J5 H locs _ h18 (iv_mono h20 (by decide) (by decide)) hm23 hS (lv_sub hl [1, 0, 2, 3] rfl)
  have hm24 : 10 - (0 : Int32).toInt < (((11 : Nat) : Int) : Int) := by
    have := (h_a1).1; have := (h_a1).2; have : (0 : Int32).toInt = 0 := (by decide); omega
  exact W4_3 11 1 0 Ma Ra Ja s.heap [] _ (iv_mono (iv_c (c := 1) (n := 1) (by decide)) (by decide) (by decide)) (iv_mono (iv_c (c := 0) (n := 0) (by decide)) (by decide) (by decide)) hm24 hS (lv_sub hl [1, 0, 2, 3] rfl)
def Lt_X12_fits : WL := [(12, 28, 29), (12, 31, 33), (14, 0, 2000000), (30, 0, 2000000)]
def LRt_X12_fits : WL := []
set_option maxRecDepth 100000 in
set_option maxHeartbeats 4000000 in
theorem t_X12_fits (l : Launch) (D : va_G) (cy : Nat → ClassId) (tx : (Nat → Nat) × (Nat → Nat)) (base Z : Nat) (K N : Nat → Nat) (Ma : MT) (Ra : RT) (Ja : JT) (hTy : Ty Z K N Ma Ra) (a0 : Nat) (hz_a0 : a0 < Z) (hk_a0 : K a0 = 12) (a1 : Int32) (h_a1 : iv (-2147483648) 2147483647 a1) (a2 : Int32) (h_a2 : iv (-2147483648) 2147483647 a2) (a3 : Int32) (h_a3 : iv (-2147483648) 2147483647 a3) : Met l yX12_fits [Cond.code yX12_fits cX12_fits 9 (some .int)] (md_rm 6 0 0) (va_Pc [.ref (base + a0), .int a1, .int a2, .int a3] (md_U D cy tx base Z K N Ma Ra Ja)) (mQi D cy tx base (fun r u => TP Z K N Lt_X12_fits LRt_X12_fits Ma Ra u ∧ (iv (-2147483648) 2147483647 r))) 0 0 (fun q => base ≤ q) := by
  refine tw_ofW (L := Lt_X12_fits) (LR := LRt_X12_fits) (by decide) (Nat.le_of_ble_eq_true rfl) hTy ?_
  intro p e s m args below meth c Q ls hx hb hr hlocks hown hml hW hK hT hS hQ hl
  have hl : lv_has ls 9 [(0, .ref (base + a0)), (1, .int a1), (2, .int a2), (3, .int a3)] := hl
  refine lv_aload_n hx hb dX12_fits_0 rfl (lv_at hl 0 rfl) ?_
  refine lv_iload_n hx hb dX12_fits_1 rfl (lv_at hl 1 rfl) ?_
  obtain ⟨b1, k2, hz_b1, hk_b1, hn_b1⟩ := hS.2.1.ref hz_a0 hk_a0 (show rtR 12 25 = (23, 226, 0) from rfl)
  have hn_b1 := hn_b1 (by decide)
  obtain ⟨x5, k3⟩ : ∃ x, Ma b1 (0 : Int32).toNatClampNeg = x := ⟨_, rfl⟩
  have h4 : iv 0 10 x5 := by rw [← k3]; exact hS.2.1.int hz_b1 hk_b1 (show rgI 23 (0 : Int32).toNatClampNeg = (0, 10) from rfl)
  refine tw_goi hS (md_runV (As := [.int a1]) (rest := []) hx hb hml hown hW hK hT hS.1 (t_X12_canFit l D cy tx base Z K N Ma Ra Ja hS.2.1 a0 hz_a0 hk_a0 a1 h_a1 b1 k2 x5 k3 (iv_mono h4 (by decide) (by decide))) s_X12_486 ⟨rfl, rfl, ⟨Nat.le_of_ble_eq_true rfl, Nat.le_of_ble_eq_true rfl⟩, ⟨Nat.le_of_ble_eq_true rfl, Nat.le_of_ble_eq_true rfl⟩⟩ hz_a0 hk_a0 (by decide) rfl rfl hl.1 rfl (Nat.le_of_ble_eq_true rfl) dX12_fits_2) rfl rfl (fun x12 H locs M9 R10 J8 hS f6 g7 E11 => ?_)
  have eM9 := Fr.nil f6 rfl
  subst eM9
  have eR10 := Fr.nil g7 rfl
  subst eR10
  obtain ⟨h_x12, p13, p14⟩ := E11
  refine lv_if_eq (tgt := 28) hx hb dX12_fits_5 (by decide) (fun c15 => ?_) (fun c15 => ?_)
  · have q16 : x12.toInt = 0 := ti_eq c15
    have h17 : iv 0 0 x12 := ⟨by have := (h_x12).1; have := ((iv_c (c := 0) (n := 0) (by decide))).1; omega, by have := (h_x12).2; have := ((iv_c (c := 0) (n := 0) (by decide))).2; omega⟩
    refine lv_iconst (v := (-1)) hx hb dX12_fits_28 (by decide) ?_
    exact tw_endi hx hb hr hlocks hK hT hS hQ ((iv_mono (iv_c (c := (-1)) (n := (-1)) (by decide)) (by decide) (by decide))) dX12_fits_29
  · have q18 : ¬ x12.toInt = 0 := ti_ne c15
    have h19 : iv 1 1 x12 := ⟨by have := (h_x12).1; have := ((iv_c (c := 0) (n := 0) (by decide))).1; have := ((iv_c (c := 0) (n := 0) (by decide))).2; omega, by have := (h_x12).2; have := ((iv_c (c := 0) (n := 0) (by decide))).1; have := ((iv_c (c := 0) (n := 0) (by decide))).2; omega⟩
    have h20 : iv 1 5 x5 := ⟨by have := (p13 c15).1; have := (h4).1; omega, by have := (p13 c15).2; have := (h4).2; omega⟩
    have h21 : iv 1 6 a1 := ⟨by have := (p14 c15).1; have := (h_a1).1; omega, by have := (p14 c15).2; have := (h_a1).2; omega⟩
    refine lv_aload_n hx hb dX12_fits_8 rfl (lv_at hl 0 rfl) ?_
    refine lv_iload_n hx hb dX12_fits_9 rfl (lv_at hl 2 rfl) ?_
    refine tw_goi hS (md_runV (As := [.int a2]) (rest := []) hx hb hml hown hW hK hT hS.1 (t_X12_isMember l D cy tx base Z K N Ma Ra J8 hS.2.1 a0 hz_a0 hk_a0 a2 h_a2) s_X12_319 ⟨rfl, rfl, ⟨Nat.le_of_ble_eq_true rfl, Nat.le_of_ble_eq_true rfl⟩, ⟨Nat.le_of_ble_eq_true rfl, Nat.le_of_ble_eq_true rfl⟩⟩ hz_a0 hk_a0 (by decide) rfl rfl hl.1 rfl (Nat.le_of_ble_eq_true rfl) dX12_fits_10) rfl rfl (fun x28 H locs M25 R26 J24 hS f22 g23 E27 => ?_)
    have eM25 := Fr.nil f22 rfl
    subst eM25
    have eR26 := Fr.nil g23 rfl
    subst eR26
    obtain ⟨h_x28, p29⟩ := E27
    refine lv_if_eq (tgt := 28) hx hb dX12_fits_13 (by decide) (fun c30 => ?_) (fun c30 => ?_)
    · have q31 : x28.toInt = 0 := ti_eq c30
      have h32 : iv 0 0 x28 := ⟨by have := (h_x28).1; have := ((iv_c (c := 0) (n := 0) (by decide))).1; omega, by have := (h_x28).2; have := ((iv_c (c := 0) (n := 0) (by decide))).2; omega⟩
      refine lv_iconst (v := (-1)) hx hb dX12_fits_28 (by decide) ?_
      exact tw_endi hx hb hr hlocks hK hT hS hQ ((iv_mono (iv_c (c := (-1)) (n := (-1)) (by decide)) (by decide) (by decide))) dX12_fits_29
    · have q33 : ¬ x28.toInt = 0 := ti_ne c30
      have h34 : iv 1 1 x28 := ⟨by have := (h_x28).1; have := ((iv_c (c := 0) (n := 0) (by decide))).1; have := ((iv_c (c := 0) (n := 0) (by decide))).2; omega, by have := (h_x28).2; have := ((iv_c (c := 0) (n := 0) (by decide))).1; have := ((iv_c (c := 0) (n := 0) (by decide))).2; omega⟩
      have h35 : iv 0 9 a2 := ⟨by have := (p29 c30).1; have := (h_a2).1; omega, by have := (p29 c30).2; have := (h_a2).2; omega⟩
      refine lv_iload_n hx hb dX12_fits_16 rfl (lv_at hl 3 rfl) ?_
      refine lv_i2l hx hb dX12_fits_17 rfl ?_
      refine lv_lconst (v := 0) hx hb dX12_fits_18 (by decide) ?_
      refine lv_ldc2 hx hb hown (hW _ w_7_178 rfl) dX12_fits_19 ?_
      refine tw_goi hS (md_runS (As := [.long a3.toInt64, .long 0, .long 2]) (rest := []) hx hb hml hown hW hK hT hS.1 (t_X12_in l D cy tx base Z K N Ma Ra J24 hS.2.1 (a3.toInt64) (0) (2)) s_X12_155 ⟨rfl, rfl, ⟨Nat.le_of_ble_eq_true rfl, Nat.le_of_ble_eq_true rfl⟩, ⟨Nat.le_of_ble_eq_true rfl, Nat.le_of_ble_eq_true rfl⟩⟩ rfl hl.1 rfl (Nat.le_of_ble_eq_true rfl) dX12_fits_22) rfl rfl (fun x42 H locs M39 R40 J38 hS f36 g37 E41 => ?_)
      have eM39 := Fr.nil f36 rfl
      subst eM39
      have eR40 := Fr.nil g37 rfl
      subst eR40
      obtain ⟨h_x42, p43⟩ := E41
      refine lv_if_ne (tgt := 30) hx hb dX12_fits_25 (by decide) (fun c44 => ?_) (fun c44 => ?_)
      · have q45 : ¬ x42.toInt = 0 := ti_ne c44
        have h46 : iv 1 1 x42 := ⟨by have := (h_x42).1; have := ((iv_c (c := 0) (n := 0) (by decide))).1; have := ((iv_c (c := 0) (n := 0) (by decide))).2; omega, by have := (h_x42).2; have := ((iv_c (c := 0) (n := 0) (by decide))).1; have := ((iv_c (c := 0) (n := 0) (by decide))).2; omega⟩
        have h47 : iv 0 2 a3 := in2iv (p43 c44) ((jv_c (x := 0) (n := 0) (by decide))).1 ((jv_c (x := 2) (n := 2) (by decide))).2
        refine lv_iconst (v := 0) hx hb dX12_fits_30 (by decide) ?_
        refine lv_istore (lv' := [(4, .int 0), (0, .ref (base + a0)), (1, .int a1), (2, .int a2), (3, .int a3)]) hx hb dX12_fits_31 hl (by decide) rfl (fun ls hl => ?_)
        refine lv_iconst (v := 0) hx hb dX12_fits_33 (by decide) ?_
        refine lv_istore (lv' := [(5, .int 0), (4, .int 0), (0, .ref (base + a0)), (1, .int a1), (2, .int a2), (3, .int a3)]) hx hb dX12_fits_34 hl (by decide) rfl (fun ls hl => ?_)
        refine lv_iconst (v := 0) hx hb dX12_fits_36 (by decide) ?_
        refine lv_istore (lv' := [(6, .int 0), (5, .int 0), (4, .int 0), (0, .ref (base + a0)), (1, .int a1), (2, .int a2), (3, .int a3)]) hx hb dX12_fits_37 hl (by decide) rfl (fun ls hl => ?_)
        refine lv_iconst (v := 0) hx hb dX12_fits_39 (by decide) ?_
        refine lv_istore (lv' := [(7, .int 0), (6, .int 0), (5, .int 0), (4, .int 0), (0, .ref (base + a0)), (1, .int a1), (2, .int a2), (3, .int a3)]) hx hb dX12_fits_40 hl (by decide) rfl (fun ls hl => ?_)
        have W42_52 : ∀ (n_52 : Nat) (x48 : Int32) (x49 : Int32) (x50 : Int32) (x51 : Int32) (M52 : MT) (R53 : RT) (J54 : JT) (H : Heap) (locs : List Loc) (ls : Array Slot) (h_x48 : iv (-2147483648) 2147483647 x48) (h_x49 : iv (-2147483648) 2147483647 x49) (h_x50 : iv 0 2147483647 x50) (h_x51 : iv 0 2147483647 x51) (hm_52 : 2147483647 - x51.toInt < (n_52 : Int)) (hS : SB D cy base Z K N Lt_X12_fits LRt_X12_fits Ma Ra M52 R53 J54 s H locs) (hl : lv_has ls 9 [(4, .int x48), (5, .int x49), (6, .int x50), (7, .int x51), (0, .ref (base + a0)), (1, .int a1), (2, .int a2), (3, .int a3)]), W p l e (md_rm 6 0 0) s m args below meth c H locs 0 0 Q (F0 m 42 ls []) := by
          intro n_52
          induction n_52 with
          | zero =>
            intro x48 x49 x50 x51 M52 R53 J54 H locs ls h_x48 h_x49 h_x50 h_x51 hm_52 hS hl
            exfalso
            have := (h21).1; have := (h21).2; have := (h35).1; have := (h35).2; have := (h47).1; have := (h47).2; have := (h_x51).1; have := (h_x51).2; omega
          | succ n_52 ih_52 =>
            intro x48 x49 x50 x51 M52 R53 J54 H locs ls h_x48 h_x49 h_x50 h_x51 hm_52 hS hl
            have f55 := hS.2.2.1
            have g56 := hS.2.2.2
            refine lv_iload hx hb dX12_fits_42 (lv_at hl 3 rfl) ?_
            refine lv_aload_n hx hb dX12_fits_44 rfl (lv_at hl 4 rfl) ?_
            refine lv_iload_n hx hb dX12_fits_45 rfl (lv_at hl 5 rfl) ?_
            refine tw_goi hS (md_runV (As := [.int a1]) (rest := [.int x51]) hx hb hml hown hW hK hT hS.1 (t_X12_waysOf l D cy tx base Z K N M52 R53 J54 hS.2.1 a0 hz_a0 hk_a0 a1 h21) s_X12_489 ⟨rfl, rfl, ⟨Nat.le_of_ble_eq_true rfl, Nat.le_of_ble_eq_true rfl⟩, ⟨Nat.le_of_ble_eq_true rfl, Nat.le_of_ble_eq_true rfl⟩⟩ hz_a0 hk_a0 (by decide) rfl rfl hl.1 rfl (Nat.le_of_ble_eq_true rfl) dX12_fits_46) rfl rfl (fun x63 H locs M60 R61 J59 hS f57 g58 E62 => ?_)
            have eM60 := Fr.nil f57 rfl
            subst eM60
            have eR61 := Fr.nil g58 rfl
            subst eR61
            have h_x63 := E62
            refine lv_icmp_ge (tgt := 119) hx hb dX12_fits_49 (by decide) (fun c64 => ?_) (fun c64 => ?_)
            · have q65 : x63.toInt ≤ x51.toInt := ti_le c64
              refine lv_iload_n hx hb dX12_fits_119 rfl (lv_at hl 7 rfl) ?_
              refine lv_if_ne (tgt := 128) hx hb dX12_fits_120 (by decide) (fun c66 => ?_) (fun c66 => ?_)
              · have q67 : ¬ a3.toInt = 0 := ti_ne c66
                have h68 : iv 1 2 a3 := ⟨by have := (h47).1; have := ((iv_c (c := 0) (n := 0) (by decide))).1; have := ((iv_c (c := 0) (n := 0) (by decide))).2; omega, by have := (h47).2; have := ((iv_c (c := 0) (n := 0) (by decide))).1; have := ((iv_c (c := 0) (n := 0) (by decide))).2; omega⟩
                refine lv_iload hx hb dX12_fits_128 (lv_at hl 0 rfl) ?_
                refine lv_if_ne (tgt := 138) hx hb dX12_fits_130 (by decide) (fun c69 => ?_) (fun c69 => ?_)
                · have q70 : ¬ x48.toInt = 0 := ti_ne c69
                  refine lv_iload_n hx hb dX12_fits_138 rfl (lv_at hl 7 rfl) ?_
                  refine lv_iconst (v := 1) hx hb dX12_fits_139 (by decide) ?_
                  refine lv_icmp_ne (tgt := 148) hx hb dX12_fits_140 (by decide) (fun c71 => ?_) (fun c71 => ?_)
                  · have q72 : ¬ a3.toInt = 1 := ti_ne c71
                    have h73 : iv 2 2 a3 := ⟨by have := (h68).1; have := ((iv_c (c := 1) (n := 1) (by decide))).1; have := ((iv_c (c := 1) (n := 1) (by decide))).2; omega, by have := (h68).2; have := ((iv_c (c := 1) (n := 1) (by decide))).1; have := ((iv_c (c := 1) (n := 1) (by decide))).2; omega⟩
                    refine lv_iload hx hb dX12_fits_148 (lv_at hl 2 rfl) ?_
                    exact tw_endi hx hb hr hlocks hK hT hS hQ ((iv_mono h_x50 (by decide) (by decide))) dX12_fits_150
                  · have q74 : a3.toInt = 1 := ti_eq c71
                    have h75 : iv 1 1 a3 := ⟨by have := (h68).1; have := ((iv_c (c := 1) (n := 1) (by decide))).1; omega, by have := (h68).2; have := ((iv_c (c := 1) (n := 1) (by decide))).2; omega⟩
                    refine lv_iload hx hb dX12_fits_143 (lv_at hl 1 rfl) ?_
                    refine lv_goto (tgt := 150) hx hb dX12_fits_145 (by decide) ?_
                    exact tw_endi hx hb hr hlocks hK hT hS hQ (h_x49) dX12_fits_150
                · have q76 : x48.toInt = 0 := ti_eq c69
                  have h77 : iv 0 0 x48 := ⟨by have := (h_x48).1; have := ((iv_c (c := 0) (n := 0) (by decide))).1; omega, by have := (h_x48).2; have := ((iv_c (c := 0) (n := 0) (by decide))).2; omega⟩
                  refine lv_bipush (v := (-2)) hx hb dX12_fits_133 (by decide) ?_
                  refine lv_goto (tgt := 150) hx hb dX12_fits_135 (by decide) ?_
                  exact tw_endi hx hb hr hlocks hK hT hS hQ ((iv_mono (iv_c (c := (-2)) (n := (-2)) (by decide)) (by decide) (by decide))) dX12_fits_150
              · have q78 : a3.toInt = 0 := ti_eq c66
                have h79 : iv 0 0 a3 := ⟨by have := (h47).1; have := ((iv_c (c := 0) (n := 0) (by decide))).1; omega, by have := (h47).2; have := ((iv_c (c := 0) (n := 0) (by decide))).2; omega⟩
                refine lv_iload hx hb dX12_fits_123 (lv_at hl 0 rfl) ?_
                refine lv_goto (tgt := 150) hx hb dX12_fits_125 (by decide) ?_
                exact tw_endi hx hb hr hlocks hK hT hS hQ (h_x48) dX12_fits_150
            · have q80 : x51.toInt < x63.toInt := ti_nle c64
              have h81 : iv 0 2147483646 x51 := iv_ltL (y := x63) h_x51 h_x63 q80 (by decide)
              have h82 : iv 1 2147483647 x63 := iv_gtL (y := x51) h_x63 h_x51 q80 (by decide)
              refine lv_aload_n hx hb dX12_fits_52 rfl (lv_at hl 4 rfl) ?_
              refine lv_iload hx hb dX12_fits_53 (lv_at hl 3 rfl) ?_
              refine lv_iload_n hx hb dX12_fits_55 rfl (lv_at hl 5 rfl) ?_
              refine tw_goi hS (md_runV (As := [.int x51, .int a1]) (rest := []) hx hb hml hown hW hK hT hS.1 (t_X12_holds l D cy tx base Z K N M52 R53 J59 hS.2.1 a0 hz_a0 hk_a0 x51 (iv_mono h81 (by decide) (by decide)) a1 h21) s_X12_492 ⟨rfl, rfl, ⟨Nat.le_of_ble_eq_true rfl, Nat.le_of_ble_eq_true rfl⟩, ⟨Nat.le_of_ble_eq_true rfl, Nat.le_of_ble_eq_true rfl⟩⟩ hz_a0 hk_a0 (by decide) rfl rfl hl.1 rfl (Nat.le_of_ble_eq_true rfl) dX12_fits_56) rfl rfl (fun x89 H locs M86 R87 J85 hS f83 g84 E88 => ?_)
              have eR87 := Fr.nil g84 rfl
              subst eR87
              have h_x89 := E88
              refine lv_if_ne (tgt := 65) hx hb dX12_fits_59 (by decide) (fun c90 => ?_) (fun c90 => ?_)
              · have q91 : ¬ x89.toInt = 0 := ti_ne c90
                have h92 : iv 1 1 x89 := ⟨by have := (h_x89).1; have := ((iv_c (c := 0) (n := 0) (by decide))).1; have := ((iv_c (c := 0) (n := 0) (by decide))).2; omega, by have := (h_x89).2; have := ((iv_c (c := 0) (n := 0) (by decide))).1; have := ((iv_c (c := 0) (n := 0) (by decide))).2; omega⟩
                refine lv_aload_n hx hb dX12_fits_65 rfl (lv_at hl 4 rfl) ?_
                refine tw_getr hx hb hW hown hK hS f_X12_102_11 hz_a0 hk_a0 (t := 14) (n := 10) rfl dX12_fits_66 (fun b93 k94 hz_b93 hk_b93 hn_b93 => ?_)
                have hn_b93 := hn_b93 (by decide)
                refine lv_iload_n hx hb dX12_fits_69 rfl (lv_at hl 6 rfl) ?_
                refine tw_iald hx hb hK hS hz_b93 hk_b93 (Or.inl rfl) hn_b93 (lo := (-2147483648)) (hi := 2147483647) h35 ⟨by decide, by decide⟩ rg_u14 dX12_fits_70 (fun x97 k96 h95 => ?_)
                refine lv_istore (lv' := [(8, .int x97), (4, .int x48), (5, .int x49), (6, .int x50), (7, .int x51), (0, .ref (base + a0)), (1, .int a1), (2, .int a2), (3, .int a3)]) hx hb dX12_fits_71 hl (by decide) rfl (fun ls hl => ?_)
                refine lv_iload hx hb dX12_fits_73 (lv_at hl 1 rfl) ?_
                have J85_98 : ∀  (M98 : MT) (R99 : RT) (J100 : JT) (H : Heap) (locs : List Loc) (ls : Array Slot) (hS : SB D cy base Z K N Lt_X12_fits LRt_X12_fits Ma Ra M98 R99 J100 s H locs) (hl : lv_has ls 9 [(8, .int x97), (4, .int x48), (5, .int x49), (6, .int x50), (7, .int x51), (0, .ref (base + a0)), (1, .int a1), (2, .int a2), (3, .int a3)]), W p l e (md_rm 6 0 0) s m args below meth c H locs 0 0 Q (F0 m 85 ls []) := by
                  intro  M98 R99 J100 H locs ls  hS hl
                  have f101 := hS.2.2.1
                  have g102 := hS.2.2.2
                  refine lv_iload hx hb dX12_fits_85 (lv_at hl 0 rfl) ?_
                  refine lv_goto (tgt := 92) hx hb dX12_fits_87 (by decide) ?_
                  refine lv_istore (lv' := [(5, .int x97), (8, .int x97), (4, .int x48), (6, .int x50), (7, .int x51), (0, .ref (base + a0)), (1, .int a1), (2, .int a2), (3, .int a3)]) hx hb dX12_fits_92 hl (by decide) rfl (fun ls hl => ?_)
                  refine lv_iload hx hb dX12_fits_94 (lv_at hl 1 rfl) ?_
                  refine lv_iload hx hb dX12_fits_96 (lv_at hl 3 rfl) ?_
                  refine lv_icmp_le (tgt := 106) hx hb dX12_fits_98 (by decide) (fun c103 => ?_) (fun c103 => ?_)
                  · have q104 : x97.toInt ≤ x50.toInt := ti_le c103
                    refine lv_iload hx hb dX12_fits_106 (lv_at hl 3 rfl) ?_
                    refine lv_istore (lv' := [(6, .int x50), (5, .int x97), (8, .int x97), (4, .int x48), (7, .int x51), (0, .ref (base + a0)), (1, .int a1), (2, .int a2), (3, .int a3)]) hx hb dX12_fits_108 hl (by decide) rfl (fun ls hl => ?_)
                    refine tw_iincw (lv' := fun x106 => [(4, .int x106), (6, .int x50), (5, .int x97), (8, .int x97), (7, .int x51), (0, .ref (base + a0)), (1, .int a1), (2, .int a2), (3, .int a3)]) hx hb dX12_fits_110 hl (k := 3) rfl (by decide) (fun _ => rfl) (fun x106 ls hl => ?_)
                    have h105 := iv_any x106
                    refine tw_iinc (lv' := fun x109 => [(7, .int x109), (4, .int x106), (6, .int x50), (5, .int x97), (8, .int x97), (0, .ref (base + a0)), (1, .int a1), (2, .int a2), (3, .int a3)]) (lo := 1) (hi := 2147483647) hx hb dX12_fits_113 hl (k := 4) rfl h81 (by decide) ⟨by decide, by decide⟩ ⟨by decide, by decide⟩ (by decide) (fun _ => rfl) (fun x109 ls e108 h107 hl => ?_)
                    refine lv_goto (tgt := 42) hx hb dX12_fits_116 (by decide) ?_
                    have hm110 : 2147483647 - x109.toInt < (n_52 : Int) := by
                      have := (h21).1; have := (h21).2; have := (h35).1; have := (h35).2; have := (h47).1; have := (h47).2; have := (h107).1; have := (h107).2; have := (h81).1; have := (h81).2; omega
                    exact ih_52 x106 x97 x50 x109 M98 R99 J100 H locs _ h105 h95 h_x50 (iv_mono h107 (by decide) (by decide)) hm110 hS (lv_sub hl [1, 3, 2, 0, 5, 6, 7, 8] rfl)
                  · have q111 : x50.toInt < x97.toInt := ti_nle c103
                    have h112 : iv 1 2147483647 x97 := iv_gtL (y := x50) h95 h_x50 q111 (by decide)
                    have h113 : iv 0 2147483646 x50 := iv_ltL (y := x97) h_x50 h95 q111 (by decide)
                    refine lv_iload hx hb dX12_fits_101 (lv_at hl 1 rfl) ?_
                    refine lv_goto (tgt := 108) hx hb dX12_fits_103 (by decide) ?_
                    refine lv_istore (lv' := [(6, .int x97), (5, .int x97), (8, .int x97), (4, .int x48), (7, .int x51), (0, .ref (base + a0)), (1, .int a1), (2, .int a2), (3, .int a3)]) hx hb dX12_fits_108 hl (by decide) rfl (fun ls hl => ?_)
                    refine tw_iincw (lv' := fun x115 => [(4, .int x115), (6, .int x97), (5, .int x97), (8, .int x97), (7, .int x51), (0, .ref (base + a0)), (1, .int a1), (2, .int a2), (3, .int a3)]) hx hb dX12_fits_110 hl (k := 3) rfl (by decide) (fun _ => rfl) (fun x115 ls hl => ?_)
                    have h114 := iv_any x115
                    refine tw_iinc (lv' := fun x118 => [(7, .int x118), (4, .int x115), (6, .int x97), (5, .int x97), (8, .int x97), (0, .ref (base + a0)), (1, .int a1), (2, .int a2), (3, .int a3)]) (lo := 1) (hi := 2147483647) hx hb dX12_fits_113 hl (k := 4) rfl h81 (by decide) ⟨by decide, by decide⟩ ⟨by decide, by decide⟩ (by decide) (fun _ => rfl) (fun x118 ls e117 h116 hl => ?_)
                    refine lv_goto (tgt := 42) hx hb dX12_fits_116 (by decide) ?_
                    have hm119 : 2147483647 - x118.toInt < (n_52 : Int) := by
                      have := (h21).1; have := (h21).2; have := (h35).1; have := (h35).2; have := (h47).1; have := (h47).2; have := (h116).1; have := (h116).2; have := (h81).1; have := (h81).2; omega
                    exact ih_52 x115 x97 x97 x118 M98 R99 J100 H locs _ h114 (iv_mono h112 (by decide) (by decide)) (iv_mono h112 (by decide) (by decide)) (iv_mono h116 (by decide) (by decide)) hm119 hS (lv_sub hl [1, 3, 2, 0, 5, 6, 7, 8] rfl)
                refine lv_if_eq (tgt := 85) hx hb dX12_fits_75 (by decide) (fun c120 => ?_) (fun c120 => ?_)
                · have q121 : x48.toInt = 0 := ti_eq c120
                  have h122 : iv 0 0 x48 := ⟨by have := (h_x48).1; have := ((iv_c (c := 0) (n := 0) (by decide))).1; omega, by have := (h_x48).2; have := ((iv_c (c := 0) (n := 0) (by decide))).2; omega⟩
                  exact J85_98  M86 R53 J85 H locs _  hS hl
                · have q123 : ¬ x48.toInt = 0 := ti_ne c120
                  refine lv_iload hx hb dX12_fits_78 (lv_at hl 0 rfl) ?_
                  refine lv_iload hx hb dX12_fits_80 (lv_at hl 2 rfl) ?_
                  refine lv_icmp_ge (tgt := 90) hx hb dX12_fits_82 (by decide) (fun c124 => ?_) (fun c124 => ?_)
                  · have q125 : x49.toInt ≤ x97.toInt := ti_le c124
                    refine lv_iload hx hb dX12_fits_90 (lv_at hl 2 rfl) ?_
                    refine lv_istore (lv' := [(5, .int x49), (8, .int x97), (4, .int x48), (6, .int x50), (7, .int x51), (0, .ref (base + a0)), (1, .int a1), (2, .int a2), (3, .int a3)]) hx hb dX12_fits_92 hl (by decide) rfl (fun ls hl => ?_)
                    refine lv_iload hx hb dX12_fits_94 (lv_at hl 1 rfl) ?_
                    refine lv_iload hx hb dX12_fits_96 (lv_at hl 3 rfl) ?_
                    refine lv_icmp_le (tgt := 106) hx hb dX12_fits_98 (by decide) (fun c126 => ?_) (fun c126 => ?_)
                    · have q127 : x97.toInt ≤ x50.toInt := ti_le c126
                      refine lv_iload hx hb dX12_fits_106 (lv_at hl 3 rfl) ?_
                      refine lv_istore (lv' := [(6, .int x50), (5, .int x49), (8, .int x97), (4, .int x48), (7, .int x51), (0, .ref (base + a0)), (1, .int a1), (2, .int a2), (3, .int a3)]) hx hb dX12_fits_108 hl (by decide) rfl (fun ls hl => ?_)
                      refine tw_iincw (lv' := fun x129 => [(4, .int x129), (6, .int x50), (5, .int x49), (8, .int x97), (7, .int x51), (0, .ref (base + a0)), (1, .int a1), (2, .int a2), (3, .int a3)]) hx hb dX12_fits_110 hl (k := 3) rfl (by decide) (fun _ => rfl) (fun x129 ls hl => ?_)
                      have h128 := iv_any x129
                      refine tw_iinc (lv' := fun x132 => [(7, .int x132), (4, .int x129), (6, .int x50), (5, .int x49), (8, .int x97), (0, .ref (base + a0)), (1, .int a1), (2, .int a2), (3, .int a3)]) (lo := 1) (hi := 2147483647) hx hb dX12_fits_113 hl (k := 4) rfl h81 (by decide) ⟨by decide, by decide⟩ ⟨by decide, by decide⟩ (by decide) (fun _ => rfl) (fun x132 ls e131 h130 hl => ?_)
                      refine lv_goto (tgt := 42) hx hb dX12_fits_116 (by decide) ?_
                      have hm133 : 2147483647 - x132.toInt < (n_52 : Int) := by
                        have := (h21).1; have := (h21).2; have := (h35).1; have := (h35).2; have := (h47).1; have := (h47).2; have := (h130).1; have := (h130).2; have := (h81).1; have := (h81).2; omega
                      exact ih_52 x129 x49 x50 x132 M86 R53 J85 H locs _ h128 h_x49 h_x50 (iv_mono h130 (by decide) (by decide)) hm133 hS (lv_sub hl [1, 3, 2, 0, 5, 6, 7, 8] rfl)
                    · have q134 : x50.toInt < x97.toInt := ti_nle c126
                      have h135 : iv 1 2147483647 x97 := iv_gtL (y := x50) h95 h_x50 q134 (by decide)
                      have h136 : iv 0 2147483646 x50 := iv_ltL (y := x97) h_x50 h95 q134 (by decide)
                      refine lv_iload hx hb dX12_fits_101 (lv_at hl 1 rfl) ?_
                      refine lv_goto (tgt := 108) hx hb dX12_fits_103 (by decide) ?_
                      refine lv_istore (lv' := [(6, .int x97), (5, .int x49), (8, .int x97), (4, .int x48), (7, .int x51), (0, .ref (base + a0)), (1, .int a1), (2, .int a2), (3, .int a3)]) hx hb dX12_fits_108 hl (by decide) rfl (fun ls hl => ?_)
                      refine tw_iincw (lv' := fun x138 => [(4, .int x138), (6, .int x97), (5, .int x49), (8, .int x97), (7, .int x51), (0, .ref (base + a0)), (1, .int a1), (2, .int a2), (3, .int a3)]) hx hb dX12_fits_110 hl (k := 3) rfl (by decide) (fun _ => rfl) (fun x138 ls hl => ?_)
                      have h137 := iv_any x138
                      refine tw_iinc (lv' := fun x141 => [(7, .int x141), (4, .int x138), (6, .int x97), (5, .int x49), (8, .int x97), (0, .ref (base + a0)), (1, .int a1), (2, .int a2), (3, .int a3)]) (lo := 1) (hi := 2147483647) hx hb dX12_fits_113 hl (k := 4) rfl h81 (by decide) ⟨by decide, by decide⟩ ⟨by decide, by decide⟩ (by decide) (fun _ => rfl) (fun x141 ls e140 h139 hl => ?_)
                      refine lv_goto (tgt := 42) hx hb dX12_fits_116 (by decide) ?_
                      have hm142 : 2147483647 - x141.toInt < (n_52 : Int) := by
                        have := (h21).1; have := (h21).2; have := (h35).1; have := (h35).2; have := (h47).1; have := (h47).2; have := (h139).1; have := (h139).2; have := (h81).1; have := (h81).2; omega
                      exact ih_52 x138 x49 x97 x141 M86 R53 J85 H locs _ h137 h_x49 (iv_mono h135 (by decide) (by decide)) (iv_mono h139 (by decide) (by decide)) hm142 hS (lv_sub hl [1, 3, 2, 0, 5, 6, 7, 8] rfl)
                  · have q143 : x97.toInt < x49.toInt := ti_nle c124
                    have h144 : iv (-2147483648) 2147483646 x97 := iv_ltL (y := x49) h95 h_x49 q143 (by decide)
                    have h145 : iv (-2147483647) 2147483647 x49 := iv_gtL (y := x97) h_x49 h95 q143 (by decide)
                    exact J85_98  M86 R53 J85 H locs _  hS hl
              · have q146 : x89.toInt = 0 := ti_eq c90
                have h147 : iv 0 0 x89 := ⟨by have := (h_x89).1; have := ((iv_c (c := 0) (n := 0) (by decide))).1; omega, by have := (h_x89).2; have := ((iv_c (c := 0) (n := 0) (by decide))).2; omega⟩
                refine lv_goto (tgt := 113) hx hb dX12_fits_62 (by decide) ?_
                refine tw_iinc (lv' := fun x150 => [(7, .int x150), (4, .int x48), (5, .int x49), (6, .int x50), (0, .ref (base + a0)), (1, .int a1), (2, .int a2), (3, .int a3)]) (lo := 1) (hi := 2147483647) hx hb dX12_fits_113 hl (k := 3) rfl h81 (by decide) ⟨by decide, by decide⟩ ⟨by decide, by decide⟩ (by decide) (fun _ => rfl) (fun x150 ls e149 h148 hl => ?_)
                refine lv_goto (tgt := 42) hx hb dX12_fits_116 (by decide) ?_
                have hm151 : 2147483647 - x150.toInt < (n_52 : Int) := by
                  have := (h21).1; have := (h21).2; have := (h35).1; have := (h35).2; have := (h47).1; have := (h47).2; have := (h148).1; have := (h148).2; have := (h81).1; have := (h81).2; omega
                exact ih_52 x48 x49 x50 x150 M86 R53 J85 H locs _ h_x48 h_x49 h_x50 (iv_mono h148 (by decide) (by decide)) hm151 hS (lv_sub hl [1, 2, 3, 0, 4, 5, 6, 7] rfl)
        have hm152 : 2147483647 - (0 : Int32).toInt < (((2147483648 : Nat) : Int) : Int) := by
          have := (h21).1; have := (h21).2; have := (h35).1; have := (h35).2; have := (h47).1; have := (h47).2; have : (0 : Int32).toInt = 0 := (by decide); omega
        exact W42_52 2147483648 0 0 0 0 Ma Ra J38 H locs _ (iv_mono (iv_c (c := 0) (n := 0) (by decide)) (by decide) (by decide)) (iv_mono (iv_c (c := 0) (n := 0) (by decide)) (by decide) (by decide)) (iv_mono (iv_c (c := 0) (n := 0) (by decide)) (by decide) (by decide)) (iv_mono (iv_c (c := 0) (n := 0) (by decide)) (by decide) (by decide)) hm152 hS (lv_sub hl [3, 2, 1, 0, 4, 5, 6, 7] rfl)
      · have q153 : x42.toInt = 0 := ti_eq c44
        have h154 : iv 0 0 x42 := ⟨by have := (h_x42).1; have := ((iv_c (c := 0) (n := 0) (by decide))).1; omega, by have := (h_x42).2; have := ((iv_c (c := 0) (n := 0) (by decide))).2; omega⟩
        refine lv_iconst (v := (-1)) hx hb dX12_fits_28 (by decide) ?_
        exact tw_endi hx hb hr hlocks hK hT hS hQ ((iv_mono (iv_c (c := (-1)) (n := (-1)) (by decide)) (by decide) (by decide))) dX12_fits_29
def Lt_X12_gainOf : WL := []
def LRt_X12_gainOf : WL := []
set_option maxRecDepth 100000 in
set_option maxHeartbeats 4000000 in
theorem t_X12_gainOf (l : Launch) (D : va_G) (cy : Nat → ClassId) (tx : (Nat → Nat) × (Nat → Nat)) (base Z : Nat) (K N : Nat → Nat) (Ma : MT) (Ra : RT) (Ja : JT) (hTy : Ty Z K N Ma Ra) (a0 : Nat) (hz_a0 : a0 < Z) (hk_a0 : K a0 = 12) (a1 : Int32) (h_a1 : iv (-2147483648) 2147483647 a1) (a2 : Int32) (h_a2 : iv 0 11 a2) : Met l yX12_gainOf [Cond.code yX12_gainOf cX12_gainOf 5 (some .int)] (md_rm 2 0 0) (va_Pc [.ref (base + a0), .int a1, .int a2] (md_U D cy tx base Z K N Ma Ra Ja)) (mQi D cy tx base (fun r u => TP Z K N Lt_X12_gainOf LRt_X12_gainOf Ma Ra u ∧ (iv (-2147483648) 2147483647 r))) 0 0 (fun q => base ≤ q) := by
  refine tw_ofW (L := Lt_X12_gainOf) (LR := LRt_X12_gainOf) (by decide) (Nat.le_of_ble_eq_true rfl) hTy ?_
  intro p e s m args below meth c Q ls hx hb hr hlocks hown hml hW hK hT hS hQ hl
  have hl : lv_has ls 5 [(0, .ref (base + a0)), (1, .int a1), (2, .int a2)] := hl
  refine lv_iconst (v := 0) hx hb dX12_gainOf_0 (by decide) ?_
  refine lv_istore_n (lv' := [(3, .int 0), (0, .ref (base + a0)), (1, .int a1), (2, .int a2)]) hx hb dX12_gainOf_1 rfl hl (by decide) rfl (fun ls hl => ?_)
  refine lv_iconst (v := 0) hx hb dX12_gainOf_2 (by decide) ?_
  refine lv_istore (lv' := [(4, .int 0), (3, .int 0), (0, .ref (base + a0)), (1, .int a1), (2, .int a2)]) hx hb dX12_gainOf_3 hl (by decide) rfl (fun ls hl => ?_)
  have W5_3 : ∀ (n_3 : Nat) (x1 : Int32) (x2 : Int32) (M3 : MT) (R4 : RT) (J5 : JT) (H : Heap) (locs : List Loc) (ls : Array Slot) (h_x1 : iv (-2147483648) 2147483647 x1) (h_x2 : iv 0 10 x2) (hm_3 : 10 - x2.toInt < (n_3 : Int)) (hS : SB D cy base Z K N Lt_X12_gainOf LRt_X12_gainOf Ma Ra M3 R4 J5 s H locs) (hl : lv_has ls 5 [(3, .int x1), (4, .int x2), (0, .ref (base + a0)), (1, .int a1), (2, .int a2)]), W p l e (md_rm 2 0 0) s m args below meth c H locs 0 0 Q (F0 m 5 ls []) := by
    intro n_3
    induction n_3 with
    | zero =>
      intro x1 x2 M3 R4 J5 H locs ls h_x1 h_x2 hm_3 hS hl
      exfalso
      have := (h_a1).1; have := (h_a1).2; have := (h_a2).1; have := (h_a2).2; have := (h_x2).1; have := (h_x2).2; omega
    | succ n_3 ih_3 =>
      intro x1 x2 M3 R4 J5 H locs ls h_x1 h_x2 hm_3 hS hl
      have f6 := hS.2.2.1
      have g7 := hS.2.2.2
      refine lv_iload hx hb dX12_gainOf_5 (lv_at hl 1 rfl) ?_
      refine lv_aload_n hx hb dX12_gainOf_7 rfl (lv_at hl 2 rfl) ?_
      refine tw_getr hx hb hW hown hK hS f_X12_45_11 hz_a0 hk_a0 (t := 23) (n := 226) rfl dX12_gainOf_8 (fun b8 k9 hz_b8 hk_b8 hn_b8 => ?_)
      have hn_b8 := hn_b8 (by decide)
      refine lv_iconst (v := 0) hx hb dX12_gainOf_11 (by decide) ?_
      refine tw_iald hx hb hK hS hz_b8 hk_b8 (Or.inr (by decide)) hn_b8 (lo := 0) (hi := 10) (iv_c (c := 0) (n := 0) (by decide)) ⟨by decide, by decide⟩ (rg_c (k0 := 0) rfl rfl rfl) dX12_gainOf_12 (fun x12 k11 h10 => ?_)
      refine lv_icmp_ge (tgt := 45) hx hb dX12_gainOf_13 (by decide) (fun c13 => ?_) (fun c13 => ?_)
      · have q14 : x12.toInt ≤ x2.toInt := ti_le c13
        refine lv_iload_n hx hb dX12_gainOf_45 rfl (lv_at hl 0 rfl) ?_
        exact tw_endi hx hb hr hlocks hK hT hS hQ (h_x1) dX12_gainOf_46
      · have q15 : x2.toInt < x12.toInt := ti_nle c13
        have h16 : iv 0 9 x2 := iv_ltL (y := x12) h_x2 h10 q15 (by decide)
        have h17 : iv 1 10 x12 := iv_gtL (y := x2) h10 h_x2 q15 (by decide)
        refine lv_iload_n hx hb dX12_gainOf_16 rfl (lv_at hl 0 rfl) ?_
        refine lv_iload_n hx hb dX12_gainOf_17 rfl (lv_at hl 3 rfl) ?_
        refine lv_iload hx hb dX12_gainOf_18 (lv_at hl 1 rfl) ?_
        refine tw_goi hS (md_runS (As := [.int a1, .int x2]) (rest := [.int x1]) hx hb hml hown hW hK hT hS.1 (t_X12_isOf l D cy tx base Z K N M3 R4 J5 hS.2.1 a1 h_a1 x2 h16) s_X12_322 ⟨rfl, rfl, ⟨Nat.le_of_ble_eq_true rfl, Nat.le_of_ble_eq_true rfl⟩, ⟨Nat.le_of_ble_eq_true rfl, Nat.le_of_ble_eq_true rfl⟩⟩ rfl hl.1 rfl (Nat.le_of_ble_eq_true rfl) dX12_gainOf_20) rfl rfl (fun x24 H locs M21 R22 J20 hS f18 g19 E23 => ?_)
        have eM21 := Fr.nil f18 rfl
        subst eM21
        have eR22 := Fr.nil g19 rfl
        subst eR22
        have h_x24 := E23
        refine lv_if_eq (tgt := 36) hx hb dX12_gainOf_23 (by decide) (fun c25 => ?_) (fun c25 => ?_)
        · have q26 : x24.toInt = 0 := ti_eq c25
          have h27 : iv 0 0 x24 := ⟨by have := (h_x24).1; have := ((iv_c (c := 0) (n := 0) (by decide))).1; omega, by have := (h_x24).2; have := ((iv_c (c := 0) (n := 0) (by decide))).2; omega⟩
          refine lv_iconst (v := 0) hx hb dX12_gainOf_36 (by decide) ?_
          refine tw_iadd (lo := (-2147483648)) (hi := 2147483647) hx hb h_x1 (iv_c (c := 0) (n := 0) (by decide)) ⟨by decide, by decide⟩ ⟨by decide, by decide⟩ dX12_gainOf_37 (fun x30 e29 h28 => ?_)
          have e29 : x30.toInt = x1.toInt + 0 := e29
          refine lv_istore_n (lv' := [(3, .int x30), (4, .int x2), (0, .ref (base + a0)), (1, .int a1), (2, .int a2)]) hx hb dX12_gainOf_38 rfl hl (by decide) rfl (fun ls hl => ?_)
          refine tw_iinc (lv' := fun x33 => [(4, .int x33), (3, .int x30), (0, .ref (base + a0)), (1, .int a1), (2, .int a2)]) (lo := 1) (hi := 10) hx hb dX12_gainOf_39 hl (k := 1) rfl h16 (by decide) ⟨by decide, by decide⟩ ⟨by decide, by decide⟩ (by decide) (fun _ => rfl) (fun x33 ls e32 h31 hl => ?_)
          refine lv_goto (tgt := 5) hx hb dX12_gainOf_42 (by decide) ?_
          have hm34 : 10 - x33.toInt < (n_3 : Int) := by
            have := (h_a1).1; have := (h_a1).2; have := (h_a2).1; have := (h_a2).2; have := (h16).1; have := (h16).2; have := (h31).1; have := (h31).2; omega
          exact ih_3 x30 x33 M3 R4 J20 H locs _ h28 (iv_mono h31 (by decide) (by decide)) hm34 hS (lv_sub hl [1, 0, 2, 3, 4] rfl)
        · have q35 : ¬ x24.toInt = 0 := ti_ne c25
          have h36 : iv 1 1 x24 := ⟨by have := (h_x24).1; have := ((iv_c (c := 0) (n := 0) (by decide))).1; have := ((iv_c (c := 0) (n := 0) (by decide))).2; omega, by have := (h_x24).2; have := ((iv_c (c := 0) (n := 0) (by decide))).1; have := ((iv_c (c := 0) (n := 0) (by decide))).2; omega⟩
          refine lv_aload_n hx hb dX12_gainOf_26 rfl (lv_at hl 2 rfl) ?_
          refine lv_iload hx hb dX12_gainOf_27 (lv_at hl 1 rfl) ?_
          refine lv_iload_n hx hb dX12_gainOf_29 rfl (lv_at hl 4 rfl) ?_
          refine tw_goi hS (md_runV (As := [.int x2, .int a2]) (rest := [.int x1]) hx hb hml hown hW hK hT hS.1 (t_X12_worthOf l D cy tx base Z K N M3 R4 J20 hS.2.1 a0 hz_a0 hk_a0 x2 h16 a2 h_a2) s_X12_330 ⟨rfl, rfl, ⟨Nat.le_of_ble_eq_true rfl, Nat.le_of_ble_eq_true rfl⟩, ⟨Nat.le_of_ble_eq_true rfl, Nat.le_of_ble_eq_true rfl⟩⟩ hz_a0 hk_a0 (by decide) rfl rfl hl.1 rfl (Nat.le_of_ble_eq_true rfl) dX12_gainOf_30) rfl rfl (fun x43 H locs M40 R41 J39 hS f37 g38 E42 => ?_)
          have eM40 := Fr.nil f37 rfl
          subst eM40
          have eR41 := Fr.nil g38 rfl
          subst eR41
          have h_x43 := E42
          refine lv_goto (tgt := 37) hx hb dX12_gainOf_33 (by decide) ?_
          refine lv_iadd hx hb dX12_gainOf_37 ?_
          refine tw_top (fun x45 => ?_)
          have h44 := iv_any x45
          refine lv_istore_n (lv' := [(3, .int x45), (4, .int x2), (0, .ref (base + a0)), (1, .int a1), (2, .int a2)]) hx hb dX12_gainOf_38 rfl hl (by decide) rfl (fun ls hl => ?_)
          refine tw_iinc (lv' := fun x48 => [(4, .int x48), (3, .int x45), (0, .ref (base + a0)), (1, .int a1), (2, .int a2)]) (lo := 1) (hi := 10) hx hb dX12_gainOf_39 hl (k := 1) rfl h16 (by decide) ⟨by decide, by decide⟩ ⟨by decide, by decide⟩ (by decide) (fun _ => rfl) (fun x48 ls e47 h46 hl => ?_)
          refine lv_goto (tgt := 5) hx hb dX12_gainOf_42 (by decide) ?_
          have hm49 : 10 - x48.toInt < (n_3 : Int) := by
            have := (h_a1).1; have := (h_a1).2; have := (h_a2).1; have := (h_a2).2; have := (h16).1; have := (h16).2; have := (h46).1; have := (h46).2; omega
          exact ih_3 x45 x48 M3 R4 J39 H locs _ h44 (iv_mono h46 (by decide) (by decide)) hm49 hS (lv_sub hl [1, 0, 2, 3, 4] rfl)
  have hm50 : 10 - (0 : Int32).toInt < (((11 : Nat) : Int) : Int) := by
    have := (h_a1).1; have := (h_a1).2; have := (h_a2).1; have := (h_a2).2; have : (0 : Int32).toInt = 0 := (by decide); omega
  exact W5_3 11 0 0 Ma Ra Ja s.heap [] _ (iv_mono (iv_c (c := 0) (n := 0) (by decide)) (by decide) (by decide)) (iv_mono (iv_c (c := 0) (n := 0) (by decide)) (by decide) (by decide)) hm50 hS (lv_sub hl [1, 0, 2, 3, 4] rfl)
def Lt_X12_putsSide : WL := [(12, 31, 33)]
def LRt_X12_putsSide : WL := []
set_option maxRecDepth 100000 in
set_option maxHeartbeats 4000000 in
theorem t_X12_putsSide (l : Launch) (D : va_G) (cy : Nat → ClassId) (tx : (Nat → Nat) × (Nat → Nat)) (base Z : Nat) (K N : Nat → Nat) (Ma : MT) (Ra : RT) (Ja : JT) (hTy : Ty Z K N Ma Ra) (a0 : Nat) (hz_a0 : a0 < Z) (hk_a0 : K a0 = 12) (a1 : Int32) (h_a1 : iv (-2147483648) 2147483647 a1) (a2 : Int32) (h_a2 : iv 0 2 a2) : Met l yX12_putsSide [Cond.code yX12_putsSide cX12_putsSide 4 none] (md_rm 2 0 0) (va_Pc [.ref (base + a0), .int a1, .int a2] (md_U D cy tx base Z K N Ma Ra Ja)) (mQv D cy tx base (fun u => TP Z K N Lt_X12_putsSide LRt_X12_putsSide Ma Ra u ∧ (True))) 0 0 (fun q => base ≤ q) := by
  refine tw_ofW (L := Lt_X12_putsSide) (LR := LRt_X12_putsSide) (by decide) (Nat.le_of_ble_eq_true rfl) hTy ?_
  intro p e s m args below meth c Q ls hx hb hr hlocks hown hml hW hK hT hS hQ hl
  have hl : lv_has ls 4 [(0, .ref (base + a0)), (1, .int a1), (2, .int a2)] := hl
  refine lv_iconst (v := 0) hx hb dX12_putsSide_0 (by decide) ?_
  refine lv_istore_n (lv' := [(3, .int 0), (0, .ref (base + a0)), (1, .int a1), (2, .int a2)]) hx hb dX12_putsSide_1 rfl hl (by decide) rfl (fun ls hl => ?_)
  have W2_2 : ∀ (n_2 : Nat) (x1 : Int32) (M2 : MT) (R3 : RT) (J4 : JT) (H : Heap) (locs : List Loc) (ls : Array Slot) (h_x1 : iv 0 10 x1) (hm_2 : 10 - x1.toInt < (n_2 : Int)) (hS : SB D cy base Z K N Lt_X12_putsSide LRt_X12_putsSide Ma Ra M2 R3 J4 s H locs) (hl : lv_has ls 4 [(3, .int x1), (0, .ref (base + a0)), (1, .int a1), (2, .int a2)]), W p l e (md_rm 2 0 0) s m args below meth c H locs 0 0 Q (F0 m 2 ls []) := by
    intro n_2
    induction n_2 with
    | zero =>
      intro x1 M2 R3 J4 H locs ls h_x1 hm_2 hS hl
      exfalso
      have := (h_a1).1; have := (h_a1).2; have := (h_a2).1; have := (h_a2).2; have := (h_x1).1; have := (h_x1).2; omega
    | succ n_2 ih_2 =>
      intro x1 M2 R3 J4 H locs ls h_x1 hm_2 hS hl
      have f5 := hS.2.2.1
      have g6 := hS.2.2.2
      refine lv_iload_n hx hb dX12_putsSide_2 rfl (lv_at hl 0 rfl) ?_
      refine lv_aload_n hx hb dX12_putsSide_3 rfl (lv_at hl 1 rfl) ?_
      refine tw_getr hx hb hW hown hK hS f_X12_45_11 hz_a0 hk_a0 (t := 23) (n := 226) rfl dX12_putsSide_4 (fun b7 k8 hz_b7 hk_b7 hn_b7 => ?_)
      have hn_b7 := hn_b7 (by decide)
      refine lv_iconst (v := 0) hx hb dX12_putsSide_7 (by decide) ?_
      refine tw_iald hx hb hK hS hz_b7 hk_b7 (Or.inr (by decide)) hn_b7 (lo := 0) (hi := 10) (iv_c (c := 0) (n := 0) (by decide)) ⟨by decide, by decide⟩ (rg_c (k0 := 0) rfl rfl rfl) dX12_putsSide_8 (fun x11 k10 h9 => ?_)
      refine lv_icmp_ge (tgt := 49) hx hb dX12_putsSide_9 (by decide) (fun c12 => ?_) (fun c12 => ?_)
      · have q13 : x11.toInt ≤ x1.toInt := ti_le c12
        exact tw_endv hx hb hr hlocks hK hT hS hQ (trivial) dX12_putsSide_49
      · have q14 : x1.toInt < x11.toInt := ti_nle c12
        have h15 : iv 0 9 x1 := iv_ltL (y := x11) h_x1 h9 q14 (by decide)
        have h16 : iv 1 10 x11 := iv_gtL (y := x1) h9 h_x1 q14 (by decide)
        refine lv_iload_n hx hb dX12_putsSide_12 rfl (lv_at hl 2 rfl) ?_
        refine lv_iload_n hx hb dX12_putsSide_13 rfl (lv_at hl 0 rfl) ?_
        refine tw_goi hS (md_runS (As := [.int a1, .int x1]) (rest := []) hx hb hml hown hW hK hT hS.1 (t_X12_isOf l D cy tx base Z K N M2 R3 J4 hS.2.1 a1 h_a1 x1 h15) s_X12_322 ⟨rfl, rfl, ⟨Nat.le_of_ble_eq_true rfl, Nat.le_of_ble_eq_true rfl⟩, ⟨Nat.le_of_ble_eq_true rfl, Nat.le_of_ble_eq_true rfl⟩⟩ rfl hl.1 rfl (Nat.le_of_ble_eq_true rfl) dX12_putsSide_14) rfl rfl (fun x23 H locs M20 R21 J19 hS f17 g18 E22 => ?_)
        have eM20 := Fr.nil f17 rfl
        subst eM20
        have eR21 := Fr.nil g18 rfl
        subst eR21
        have h_x23 := E22
        refine lv_if_eq (tgt := 43) hx hb dX12_putsSide_17 (by decide) (fun c24 => ?_) (fun c24 => ?_)
        · have q25 : x23.toInt = 0 := ti_eq c24
          have h26 : iv 0 0 x23 := ⟨by have := (h_x23).1; have := ((iv_c (c := 0) (n := 0) (by decide))).1; omega, by have := (h_x23).2; have := ((iv_c (c := 0) (n := 0) (by decide))).2; omega⟩
          refine tw_iinc (lv' := fun x29 => [(3, .int x29), (0, .ref (base + a0)), (1, .int a1), (2, .int a2)]) (lo := 1) (hi := 10) hx hb dX12_putsSide_43 hl (k := 0) rfl h15 (by decide) ⟨by decide, by decide⟩ ⟨by decide, by decide⟩ (by decide) (fun _ => rfl) (fun x29 ls e28 h27 hl => ?_)
          refine lv_goto (tgt := 2) hx hb dX12_putsSide_46 (by decide) ?_
          have hm30 : 10 - x29.toInt < (n_2 : Int) := by
            have := (h_a1).1; have := (h_a1).2; have := (h_a2).1; have := (h_a2).2; have := (h15).1; have := (h15).2; have := (h27).1; have := (h27).2; omega
          exact ih_2 x29 M2 R3 J19 H locs _ (iv_mono h27 (by decide) (by decide)) hm30 hS hl
        · have q31 : ¬ x23.toInt = 0 := ti_ne c24
          have h32 : iv 1 1 x23 := ⟨by have := (h_x23).1; have := ((iv_c (c := 0) (n := 0) (by decide))).1; have := ((iv_c (c := 0) (n := 0) (by decide))).2; omega, by have := (h_x23).2; have := ((iv_c (c := 0) (n := 0) (by decide))).1; have := ((iv_c (c := 0) (n := 0) (by decide))).2; omega⟩
          refine lv_aload_n hx hb dX12_putsSide_20 rfl (lv_at hl 1 rfl) ?_
          refine lv_iload_n hx hb dX12_putsSide_21 rfl (lv_at hl 0 rfl) ?_
          refine lv_iload_n hx hb dX12_putsSide_22 rfl (lv_at hl 3 rfl) ?_
          refine lv_if_ne (tgt := 30) hx hb dX12_putsSide_23 (by decide) (fun c33 => ?_) (fun c33 => ?_)
          · have q34 : ¬ a2.toInt = 0 := ti_ne c33
            have h35 : iv 1 2 a2 := ⟨by have := (h_a2).1; have := ((iv_c (c := 0) (n := 0) (by decide))).1; have := ((iv_c (c := 0) (n := 0) (by decide))).2; omega, by have := (h_a2).2; have := ((iv_c (c := 0) (n := 0) (by decide))).1; have := ((iv_c (c := 0) (n := 0) (by decide))).2; omega⟩
            refine lv_iload_n hx hb dX12_putsSide_30 rfl (lv_at hl 3 rfl) ?_
            refine lv_iconst (v := 1) hx hb dX12_putsSide_31 (by decide) ?_
            refine lv_icmp_ne (tgt := 39) hx hb dX12_putsSide_32 (by decide) (fun c36 => ?_) (fun c36 => ?_)
            · have q37 : ¬ a2.toInt = 1 := ti_ne c36
              have h38 : iv 2 2 a2 := ⟨by have := (h35).1; have := ((iv_c (c := 1) (n := 1) (by decide))).1; have := ((iv_c (c := 1) (n := 1) (by decide))).2; omega, by have := (h35).2; have := ((iv_c (c := 1) (n := 1) (by decide))).1; have := ((iv_c (c := 1) (n := 1) (by decide))).2; omega⟩
              refine lv_iconst (v := 2) hx hb dX12_putsSide_39 (by decide) ?_
              refine tw_gov hS (md_runV (As := [.int x1, .int 2]) (rest := []) hx hb hml hown hW hK hT hS.1 (t_X12_sets l D cy tx base Z K N M2 R3 J19 hS.2.1 a0 hz_a0 hk_a0 x1 h15 2 (iv_mono (iv_c (c := 2) (n := 2) (by decide)) (by decide) (by decide))) s_X12_377 ⟨rfl, rfl, ⟨Nat.le_of_ble_eq_true rfl, Nat.le_of_ble_eq_true rfl⟩, ⟨Nat.le_of_ble_eq_true rfl, Nat.le_of_ble_eq_true rfl⟩⟩ hz_a0 hk_a0 (by decide) rfl rfl hl.1 rfl (Nat.le_of_ble_eq_true rfl) dX12_putsSide_40) rfl rfl (fun H locs M42 R43 J41 hS f39 g40 E44 => ?_)
              have eR43 := Fr.nil g40 rfl
              subst eR43
              refine tw_iinc (lv' := fun x47 => [(3, .int x47), (0, .ref (base + a0)), (1, .int a1), (2, .int a2)]) (lo := 1) (hi := 10) hx hb dX12_putsSide_43 hl (k := 0) rfl h15 (by decide) ⟨by decide, by decide⟩ ⟨by decide, by decide⟩ (by decide) (fun _ => rfl) (fun x47 ls e46 h45 hl => ?_)
              refine lv_goto (tgt := 2) hx hb dX12_putsSide_46 (by decide) ?_
              have hm48 : 10 - x47.toInt < (n_2 : Int) := by
                have := (h_a1).1; have := (h_a1).2; have := (h38).1; have := (h38).2; have := (h15).1; have := (h15).2; have := (h45).1; have := (h45).2; omega
              exact ih_2 x47 M42 R3 J41 H locs _ (iv_mono h45 (by decide) (by decide)) hm48 hS hl
            · have q49 : a2.toInt = 1 := ti_eq c36
              have h50 : iv 1 1 a2 := ⟨by have := (h35).1; have := ((iv_c (c := 1) (n := 1) (by decide))).1; omega, by have := (h35).2; have := ((iv_c (c := 1) (n := 1) (by decide))).2; omega⟩
              refine lv_iconst (v := 0) hx hb dX12_putsSide_35 (by decide) ?_
              refine lv_goto (tgt := 40) hx hb dX12_putsSide_36 (by decide) ?_
              refine tw_gov hS (md_runV (As := [.int x1, .int 0]) (rest := []) hx hb hml hown hW hK hT hS.1 (t_X12_sets l D cy tx base Z K N M2 R3 J19 hS.2.1 a0 hz_a0 hk_a0 x1 h15 0 (iv_mono (iv_c (c := 0) (n := 0) (by decide)) (by decide) (by decide))) s_X12_377 ⟨rfl, rfl, ⟨Nat.le_of_ble_eq_true rfl, Nat.le_of_ble_eq_true rfl⟩, ⟨Nat.le_of_ble_eq_true rfl, Nat.le_of_ble_eq_true rfl⟩⟩ hz_a0 hk_a0 (by decide) rfl rfl hl.1 rfl (Nat.le_of_ble_eq_true rfl) dX12_putsSide_40) rfl rfl (fun H locs M54 R55 J53 hS f51 g52 E56 => ?_)
              have eR55 := Fr.nil g52 rfl
              subst eR55
              refine tw_iinc (lv' := fun x59 => [(3, .int x59), (0, .ref (base + a0)), (1, .int a1), (2, .int a2)]) (lo := 1) (hi := 10) hx hb dX12_putsSide_43 hl (k := 0) rfl h15 (by decide) ⟨by decide, by decide⟩ ⟨by decide, by decide⟩ (by decide) (fun _ => rfl) (fun x59 ls e58 h57 hl => ?_)
              refine lv_goto (tgt := 2) hx hb dX12_putsSide_46 (by decide) ?_
              have hm60 : 10 - x59.toInt < (n_2 : Int) := by
                have := (h_a1).1; have := (h_a1).2; have := (h50).1; have := (h50).2; have := (h15).1; have := (h15).2; have := (h57).1; have := (h57).2; omega
              exact ih_2 x59 M54 R3 J53 H locs _ (iv_mono h57 (by decide) (by decide)) hm60 hS hl
          · have q61 : a2.toInt = 0 := ti_eq c33
            have h62 : iv 0 0 a2 := ⟨by have := (h_a2).1; have := ((iv_c (c := 0) (n := 0) (by decide))).1; omega, by have := (h_a2).2; have := ((iv_c (c := 0) (n := 0) (by decide))).2; omega⟩
            refine lv_iconst (v := 1) hx hb dX12_putsSide_26 (by decide) ?_
            refine lv_goto (tgt := 40) hx hb dX12_putsSide_27 (by decide) ?_
            refine tw_gov hS (md_runV (As := [.int x1, .int 1]) (rest := []) hx hb hml hown hW hK hT hS.1 (t_X12_sets l D cy tx base Z K N M2 R3 J19 hS.2.1 a0 hz_a0 hk_a0 x1 h15 1 (iv_mono (iv_c (c := 1) (n := 1) (by decide)) (by decide) (by decide))) s_X12_377 ⟨rfl, rfl, ⟨Nat.le_of_ble_eq_true rfl, Nat.le_of_ble_eq_true rfl⟩, ⟨Nat.le_of_ble_eq_true rfl, Nat.le_of_ble_eq_true rfl⟩⟩ hz_a0 hk_a0 (by decide) rfl rfl hl.1 rfl (Nat.le_of_ble_eq_true rfl) dX12_putsSide_40) rfl rfl (fun H locs M66 R67 J65 hS f63 g64 E68 => ?_)
            have eR67 := Fr.nil g64 rfl
            subst eR67
            refine tw_iinc (lv' := fun x71 => [(3, .int x71), (0, .ref (base + a0)), (1, .int a1), (2, .int a2)]) (lo := 1) (hi := 10) hx hb dX12_putsSide_43 hl (k := 0) rfl h15 (by decide) ⟨by decide, by decide⟩ ⟨by decide, by decide⟩ (by decide) (fun _ => rfl) (fun x71 ls e70 h69 hl => ?_)
            refine lv_goto (tgt := 2) hx hb dX12_putsSide_46 (by decide) ?_
            have hm72 : 10 - x71.toInt < (n_2 : Int) := by
              have := (h_a1).1; have := (h_a1).2; have := (h62).1; have := (h62).2; have := (h15).1; have := (h15).2; have := (h69).1; have := (h69).2; omega
            exact ih_2 x71 M66 R3 J65 H locs _ (iv_mono h69 (by decide) (by decide)) hm72 hS hl
  have hm73 : 10 - (0 : Int32).toInt < (((11 : Nat) : Int) : Int) := by
    have := (h_a1).1; have := (h_a1).2; have := (h_a2).1; have := (h_a2).2; have : (0 : Int32).toInt = 0 := (by decide); omega
  exact W2_2 11 0 Ma Ra Ja s.heap [] _ (iv_mono (iv_c (c := 0) (n := 0) (by decide)) (by decide) (by decide)) hm73 hS hl
