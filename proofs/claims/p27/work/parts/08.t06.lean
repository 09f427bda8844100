def Lt_X6_priceChoices : WL := [(14, 0, 2000000)]
def LRt_X6_priceChoices : WL := []
set_option maxRecDepth 100000 in
set_option maxHeartbeats 4000000 in
theorem t_X6_priceChoices (l : Launch) (D : va_G) (cy : Nat → ClassId) (tx : (Nat → Nat) × (Nat → Nat)) (base Z : Nat) (K N : Nat → Nat) (Ma : MT) (Ra : RT) (Ja : JT) (hTy : Ty Z K N Ma Ra) (a0 : Nat) (hz_a0 : a0 < Z) (hk_a0 : K a0 = 7) (a1 : Int32) (h_a1 : iv 0 3 a1) : Met l yX6_priceChoices [Cond.code yX6_priceChoices cX6_priceChoices 6 none] (md_rm 2 0 0) (va_Pc [.ref (base + a0), .int a1] (md_U D cy tx base Z K N Ma Ra Ja)) (mQv D cy tx base (fun u => TP Z K N Lt_X6_priceChoices LRt_X6_priceChoices Ma Ra u ∧ (True))) 0 0 (fun q => base ≤ q) := by
  refine tw_ofW (L := Lt_X6_priceChoices) (LR := LRt_X6_priceChoices) (by decide) (Nat.le_of_ble_eq_true rfl) hTy ?_
  intro p e s m args below meth c Q ls hx hb hr hlocks hown hml hW hK hT hS hQ hl
  have hl : lv_has ls 6 [(0, .ref (base + a0)), (1, .int a1)] := hl
  refine lv_iconst (v := 0) hx hb dX6_priceChoices_0 (by decide) ?_
  refine lv_istore_n (lv' := [(2, .int 0), (0, .ref (base + a0)), (1, .int a1)]) hx hb dX6_priceChoices_1 rfl hl (by decide) rfl (fun ls hl => ?_)
  refine lv_iconst (v := 0) hx hb dX6_priceChoices_2 (by decide) ?_
  refine lv_istore_n (lv' := [(3, .int 0), (2, .int 0), (0, .ref (base + a0)), (1, .int a1)]) hx hb dX6_priceChoices_3 rfl hl (by decide) rfl (fun ls hl => ?_)
  refine lv_iconst (v := 0) hx hb dX6_priceChoices_4 (by decide) ?_
  refine lv_istore (lv' := [(4, .int 0), (3, .int 0), (2, .int 0), (0, .ref (base + a0)), (1, .int a1)]) hx hb dX6_priceChoices_5 hl (by decide) rfl (fun ls hl => ?_)
  have W7_4 : ∀ (n_4 : Nat) (x1 : Int32) (x2 : Int32) (x3 : Int32) (M4 : MT) (R5 : RT) (J6 : JT) (H : Heap) (locs : List Loc) (ls : Array Slot) (h_x1 : iv (-2147483648) 2147483647 x1) (h_x2 : iv (-2147483648) 2147483647 x2) (h_x3 : iv 0 10 x3) (hm_4 : 10 - x3.toInt < (n_4 : Int)) (hS : SB D cy base Z K N Lt_X6_priceChoices LRt_X6_priceChoices Ma Ra M4 R5 J6 s H locs) (hl : lv_has ls 6 [(2, .int x1), (3, .int x2), (4, .int x3), (0, .ref (base + a0)), (1, .int a1)]), W p l e (md_rm 2 0 0) s m args below meth c H locs 0 0 Q (F0 m 7 ls []) := by
    intro n_4
    induction n_4 with
    | zero =>
      intro x1 x2 x3 M4 R5 J6 H locs ls h_x1 h_x2 h_x3 hm_4 hS hl
      exfalso
      have := (h_a1).1; have := (h_a1).2; have := (h_x3).1; have := (h_x3).2; omega
    | succ n_4 ih_4 =>
      intro x1 x2 x3 M4 R5 J6 H locs ls h_x1 h_x2 h_x3 hm_4 hS hl
      have f7 := hS.2.2.1
      have g8 := hS.2.2.2
      refine lv_iload hx hb dX6_priceChoices_7 (lv_at hl 2 rfl) ?_
      refine lv_aload_n hx hb dX6_priceChoices_9 rfl (lv_at hl 3 rfl) ?_
      refine tw_getr hx hb hW hown hK hS f_X6_39_6 hz_a0 hk_a0 (t := 10) (n := 0) rfl dX6_priceChoices_10 (fun b9 k10 hz_b9 hk_b9 hn_b9 => ?_)
      refine tw_geti hx hb hW hown hK hS f_X6_93_9 hz_b9 hk_b9 (lo := (-2147483648)) (hi := 10) rfl dX6_priceChoices_13 (fun x13 k12 h11 => ?_)
      refine lv_icmp_ge (tgt := 81) hx hb dX6_priceChoices_16 (by decide) (fun c14 => ?_) (fun c14 => ?_)
      · have q15 : x13.toInt ≤ x3.toInt := ti_le c14
        refine lv_iconst (v := 0) hx hb dX6_priceChoices_81 (by decide) ?_
        refine lv_istore (lv' := [(4, .int 0), (2, .int x1), (3, .int x2), (0, .ref (base + a0)), (1, .int a1)]) hx hb dX6_priceChoices_82 hl (by decide) rfl (fun ls hl => ?_)
        have W84_17 : ∀ (n_17 : Nat) (x16 : Int32) (M17 : MT) (R18 : RT) (J19 : JT) (H : Heap) (locs : List Loc) (ls : Array Slot) (h_x16 : iv 0 27 x16) (hm_17 : 27 - x16.toInt < (n_17 : Int)) (hS : SB D cy base Z K N Lt_X6_priceChoices LRt_X6_priceChoices Ma Ra M17 R18 J19 s H locs) (hl : lv_has ls 6 [(4, .int x16), (2, .int x1), (3, .int x2), (0, .ref (base + a0)), (1, .int a1)]), W p l e (md_rm 2 0 0) s m args below meth c H locs 0 0 Q (F0 m 84 ls []) := by
          intro n_17
          induction n_17 with
          | zero =>
            intro x16 M17 R18 J19 H locs ls h_x16 hm_17 hS hl
            exfalso
            have := (h_a1).1; have := (h_a1).2; have := (h_x16).1; have := (h_x16).2; omega
          | succ n_17 ih_17 =>
            intro x16 M17 R18 J19 H locs ls h_x16 hm_17 hS hl
            have f20 := hS.2.2.1
            have g21 := hS.2.2.2
            refine lv_iload hx hb dX6_priceChoices_84 (lv_at hl 0 rfl) ?_
            refine lv_aload_n hx hb dX6_priceChoices_86 rfl (lv_at hl 3 rfl) ?_
            refine tw_geti hx hb hW hown hK hS f_X6_90_6 hz_a0 hk_a0 (lo := 0) (hi := 27) rfl dX6_priceChoices_87 (fun x24 k23 h22 => ?_)
            refine lv_icmp_ge (tgt := 142) hx hb dX6_priceChoices_90 (by decide) (fun c25 => ?_) (fun c25 => ?_)
            · have q26 : x24.toInt ≤ x16.toInt := ti_le c25
              exact tw_endv hx hb hr hlocks hK hT hS hQ (trivial) dX6_priceChoices_142
            · have q27 : x16.toInt < x24.toInt := ti_nle c25
              have h28 : iv 0 26 x16 := iv_ltL (y := x24) h_x16 h22 q27 (by decide)
              have h29 : iv 1 27 x24 := iv_gtL (y := x16) h22 h_x16 q27 (by decide)
              refine lv_aload_n hx hb dX6_priceChoices_93 rfl (lv_at hl 3 rfl) ?_
              refine tw_getr hx hb hW hown hK hS f_X6_16_6 hz_a0 hk_a0 (t := 14) (n := 27) rfl dX6_priceChoices_94 (fun b30 k31 hz_b30 hk_b30 hn_b30 => ?_)
              have hn_b30 := hn_b30 (by decide)
              refine lv_iload hx hb dX6_priceChoices_97 (lv_at hl 0 rfl) ?_
              refine tw_iald hx hb hK hS hz_b30 hk_b30 (Or.inl rfl) hn_b30 (lo := (-2147483648)) (hi := 2147483647) h28 ⟨by decide, by decide⟩ rg_u14 dX6_priceChoices_99 (fun x34 k33 h32 => ?_)
              refine lv_iload_n hx hb dX6_priceChoices_100 rfl (lv_at hl 1 rfl) ?_
              refine lv_ixor hx hb dX6_priceChoices_101 ?_
              refine tw_top (fun x36 => ?_)
              have h35 := iv_any x36
              refine lv_aload_n hx hb dX6_priceChoices_102 rfl (lv_at hl 3 rfl) ?_
              refine tw_getr hx hb hW hown hK hS f_X6_20_6 hz_a0 hk_a0 (t := 14) (n := 27) rfl dX6_priceChoices_103 (fun b37 k38 hz_b37 hk_b37 hn_b37 => ?_)
              have hn_b37 := hn_b37 (by decide)
              refine lv_iload hx hb dX6_priceChoices_106 (lv_at hl 0 rfl) ?_
              refine tw_iald hx hb hK hS hz_b37 hk_b37 (Or.inl rfl) hn_b37 (lo := (-2147483648)) (hi := 2147483647) h28 ⟨by decide, by decide⟩ rg_u14 dX6_priceChoices_108 (fun x41 k40 h39 => ?_)
              refine lv_iload_n hx hb dX6_priceChoices_109 rfl (lv_at hl 2 rfl) ?_
              refine lv_ixor hx hb dX6_priceChoices_110 ?_
              refine tw_top (fun x43 => ?_)
              have h42 := iv_any x43
              refine lv_ior hx hb dX6_priceChoices_111 ?_
              refine tw_top (fun x45 => ?_)
              have h44 := iv_any x45
              refine lv_istore (lv' := [(5, .int x45), (4, .int x16), (2, .int x1), (3, .int x2), (0, .ref (base + a0)), (1, .int a1)]) hx hb dX6_priceChoices_112 hl (by decide) rfl (fun ls hl => ?_)
              refine lv_aload_n hx hb dX6_priceChoices_114 rfl (lv_at hl 4 rfl) ?_
              refine tw_getr hx hb hW hown hK hS f_X6_23_6 hz_a0 hk_a0 (t := 14) (n := 108) rfl dX6_priceChoices_115 (fun b46 k47 hz_b46 hk_b46 hn_b46 => ?_)
              have hn_b46 := hn_b46 (by decide)
              refine lv_iload_n hx hb dX6_priceChoices_118 rfl (lv_at hl 5 rfl) ?_
              refine lv_bipush (v := 27) hx hb dX6_priceChoices_119 (by decide) ?_
              refine tw_imulc (k := 27) (lo := 0) (hi := 81) hx hb h_a1 (by decide) (by decide) ⟨by decide, by decide⟩ ⟨by decide, by decide⟩ dX6_priceChoices_121 (fun x50 e49 h48 => ?_)
              refine lv_iload hx hb dX6_priceChoices_122 (lv_at hl 1 rfl) ?_
              refine tw_iadd (lo := 0) (hi := 107) hx hb h48 h28 ⟨by decide, by decide⟩ ⟨by decide, by decide⟩ dX6_priceChoices_124 (fun x53 e52 h51 => ?_)
              refine lv_iload hx hb dX6_priceChoices_125 (lv_at hl 0 rfl) ?_
              refine lv_aload_n hx hb dX6_priceChoices_127 rfl (lv_at hl 4 rfl) ?_
              refine tw_geti hx hb hW hown hK hS f_X6_47_6 hz_a0 hk_a0 (lo := (-2147483648)) (hi := 2147483647) rfl dX6_priceChoices_128 (fun x56 k55 h54 => ?_)
              refine lv_iand hx hb dX6_priceChoices_131 ?_
              refine tw_top (fun x58 => ?_)
              have h57 := iv_any x58
              refine tw_goi hS (md_runS (As := [.int x58]) (rest := [.int x53, .ref (base + b46)]) hx hb hml hown hW hK hT hS.1 (t_J6_bitCount_0f7a4 l D cy tx base Z K N M17 R18 J19 hS.2.1 x58 h57) s_X6_111 ⟨rfl, rfl, ⟨Nat.le_of_ble_eq_true rfl, Nat.le_of_ble_eq_true rfl⟩, ⟨Nat.le_of_ble_eq_true rfl, Nat.le_of_ble_eq_true rfl⟩⟩ rfl hl.1 rfl (Nat.le_of_ble_eq_true rfl) dX6_priceChoices_132) rfl rfl (fun x65 H locs M62 R63 J61 hS f59 g60 E64 => ?_)
              have eM62 := Fr.nil f59 rfl
              subst eM62
              have eR63 := Fr.nil g60 rfl
              subst eR63
              have h_x65 := E64
              clear E64
              refine tw_iast hx hb hK hS hz_b46 hk_b46 (Or.inl rfl) hn_b46 h51 ⟨by decide, by decide⟩ h_x65 (rg_s14 ⟨by decide, by decide⟩) (jl := 0) (jh := 1999999) ⟨by decide, by decide⟩ rfl dX6_priceChoices_135 (fun H locs M68 hS k66 f67 => ?_)
              refine tw_iinc (lv' := fun x71 => [(4, .int x71), (5, .int x45), (2, .int x1), (3, .int x2), (0, .ref (base + a0)), (1, .int a1)]) (lo := 1) (hi := 27) hx hb dX6_priceChoices_136 hl (k := 1) rfl h28 (by decide) ⟨by decide, by decide⟩ ⟨by decide, by decide⟩ (by decide) (fun _ => rfl) (fun x71 ls e70 h69 hl => ?_)
              refine lv_goto (tgt := 84) hx hb dX6_priceChoices_139 (by decide) ?_
              have hm72 : 27 - x71.toInt < (n_17 : Int) := by
                have := (h_a1).1; have := (h_a1).2; have := (h28).1; have := (h28).2; have := (h51).1; have := (h51).2; have := (h69).1; have := (h69).2; omega
              exact ih_17 x71 M68 R18 J61 H locs _ (iv_mono h69 (by decide) (by decide)) hm72 hS (lv_sub hl [0, 2, 3, 4, 5] rfl)
        have hm73 : 27 - (0 : Int32).toInt < (((28 : Nat) : Int) : Int) := by
          have := (h_a1).1; have := (h_a1).2; have : (0 : Int32).toInt = 0 := (by decide); omega
        exact W84_17 28 0 M4 R5 J6 H locs _ (iv_mono (iv_c (c := 0) (n := 0) (by decide)) (by decide) (by decide)) hm73 hS hl
      · have q74 : x3.toInt < x13.toInt := ti_nle c14
        have h75 : iv 0 9 x3 := iv_ltL (y := x13) h_x3 h11 q74 (by decide)
        have h76 : iv 1 10 x13 := iv_gtL (y := x3) h11 h_x3 q74 (by decide)
        refine lv_aload_n hx hb dX6_priceChoices_19 rfl (lv_at hl 3 rfl) ?_
        refine tw_getrk hx hb hW hown hK hS f_X6_39_6 hz_a0 hk_a0 (b := b9) k10 dX6_priceChoices_20 ?_
        refine lv_iload hx hb dX6_priceChoices_23 (lv_at hl 2 rfl) ?_
        refine lv_aload_n hx hb dX6_priceChoices_25 rfl (lv_at hl 3 rfl) ?_
        refine tw_getrk hx hb hW hown hK hS f_X6_39_6 hz_a0 hk_a0 (b := b9) k10 dX6_priceChoices_26 ?_
        refine tw_getr hx hb hW hown hK hS f_X6_99_9 hz_b9 hk_b9 (t := 21) (n := 8) rfl dX6_priceChoices_29 (fun b77 k78 hz_b77 hk_b77 hn_b77 => ?_)
        have hn_b77 := hn_b77 (by decide)
        refine lv_iload_n hx hb dX6_priceChoices_32 rfl (lv_at hl 4 rfl) ?_
        refine tw_iald hx hb hK hS hz_b77 hk_b77 (Or.inr (by decide)) hn_b77 (lo := 0) (hi := 11) h_a1 ⟨by decide, by decide⟩ rg_u21 dX6_priceChoices_33 (fun x81 k80 h79 => ?_)
        refine tw_goi hS (md_runV (As := [.int x3, .int x81]) (rest := []) hx hb hml hown hW hK hT hS.1 (t_X9_worthOf l D cy tx base Z K N M4 R5 J6 hS.2.1 b9 hz_b9 hk_b9 x3 h75 x81 h79) s_X6_102 ⟨rfl, rfl, ⟨Nat.le_of_ble_eq_true rfl, Nat.le_of_ble_eq_true rfl⟩, ⟨Nat.le_of_ble_eq_true rfl, Nat.le_of_ble_eq_true rfl⟩⟩ hz_b9 hk_b9 (by decide) rfl rfl hl.1 rfl (Nat.le_of_ble_eq_true rfl) dX6_priceChoices_34) rfl rfl (fun x88 H locs M85 R86 J84 hS f82 g83 E87 => ?_)
        have eM85 := Fr.nil f82 rfl
        subst eM85
        have eR86 := Fr.nil g83 rfl
        subst eR86
        have h_x88 := E87
        clear E87
        refine tw_goi hS (md_runS (As := [.int x88]) (rest := []) hx hb hml hown hW hK hT hS.1 (t_X5_trueSaying l D cy tx base Z K N M4 R5 J84 hS.2.1 x88 h_x88) s_X6_105 ⟨rfl, rfl, ⟨Nat.le_of_ble_eq_true rfl, Nat.le_of_ble_eq_true rfl⟩, ⟨Nat.le_of_ble_eq_true rfl, Nat.le_of_ble_eq_true rfl⟩⟩ rfl hl.1 rfl (Nat.le_of_ble_eq_true rfl) dX6_priceChoices_37) rfl rfl (fun x95 H locs M92 R93 J91 hS f89 g90 E94 => ?_)
        have eM92 := Fr.nil f89 rfl
        subst eM92
        have eR93 := Fr.nil g90 rfl
        subst eR93
        have h_x95 := E94
        clear E94
        refine lv_istore (lv' := [(5, .int x95), (2, .int x1), (3, .int x2), (4, .int x3), (0, .ref (base + a0)), (1, .int a1)]) hx hb dX6_priceChoices_40 hl (by decide) rfl (fun ls hl => ?_)
        refine lv_iload_n hx hb dX6_priceChoices_42 rfl (lv_at hl 1 rfl) ?_
        refine lv_iload hx hb dX6_priceChoices_43 (lv_at hl 0 rfl) ?_
        refine lv_iconst (v := 1) hx hb dX6_priceChoices_45 (by decide) ?_
        refine lv_icmp_ne (tgt := 56) hx hb dX6_priceChoices_46 (by decide) (fun c96 => ?_) (fun c96 => ?_)
        · have q97 : ¬ x95.toInt = 1 := ti_ne c96
          refine lv_iconst (v := 0) hx hb dX6_priceChoices_56 (by decide) ?_
          refine lv_ior hx hb dX6_priceChoices_57 ?_
          refine tw_top (fun x99 => ?_)
          have h98 := iv_any x99
          refine lv_istore_n (lv' := [(2, .int x99), (5, .int x95), (3, .int x2), (4, .int x3), (0, .ref (base + a0)), (1, .int a1)]) hx hb dX6_priceChoices_58 rfl hl (by decide) rfl (fun ls hl => ?_)
          refine lv_iload_n hx hb dX6_priceChoices_59 rfl (lv_at hl 2 rfl) ?_
          refine lv_iload hx hb dX6_priceChoices_60 (lv_at hl 1 rfl) ?_
          refine lv_if_ne (tgt := 72) hx hb dX6_priceChoices_62 (by decide) (fun c100 => ?_) (fun c100 => ?_)
          · have q101 : ¬ x95.toInt = 0 := ti_ne c100
            have h102 : iv 1 2 x95 := ⟨by have := (h_x95).1; have := ((iv_c (c := 0) (n := 0) (by decide))).1; have := ((iv_c (c := 0) (n := 0) (by decide))).2; omega, by have := (h_x95).2; have := ((iv_c (c := 0) (n := 0) (by decide))).1; have := ((iv_c (c := 0) (n := 0) (by decide))).2; omega⟩
            refine lv_iconst (v := 0) hx hb dX6_priceChoices_72 (by decide) ?_
            refine lv_ior hx hb dX6_priceChoices_73 ?_
            refine tw_top (fun x104 => ?_)
            have h103 := iv_any x104
            refine lv_istore_n (lv' := [(3, .int x104), (2, .int x99), (5, .int x95), (4, .int x3), (0, .ref (base + a0)), (1, .int a1)]) hx hb dX6_priceChoices_74 rfl hl (by decide) rfl (fun ls hl => ?_)
            refine tw_iinc (lv' := fun x107 => [(4, .int x107), (3, .int x104), (2, .int x99), (5, .int x95), (0, .ref (base + a0)), (1, .int a1)]) (lo := 1) (hi := 10) hx hb dX6_priceChoices_75 hl (k := 3) rfl h75 (by decide) ⟨by decide, by decide⟩ ⟨by decide, by decide⟩ (by decide) (fun _ => rfl) (fun x107 ls e106 h105 hl => ?_)
            refine lv_goto (tgt := 7) hx hb dX6_priceChoices_78 (by decide) ?_
            have hm108 : 10 - x107.toInt < (n_4 : Int) := by
              have := (h_a1).1; have := (h_a1).2; have := (h105).1; have := (h105).2; have := (h75).1; have := (h75).2; omega
            exact ih_4 x99 x104 x107 M4 R5 J91 H locs _ h98 h103 (iv_mono h105 (by decide) (by decide)) hm108 hS (lv_sub hl [2, 1, 0, 4, 5] rfl)
          · have q109 : x95.toInt = 0 := ti_eq c100
            have h110 : iv 0 0 x95 := ⟨by have := (h_x95).1; have := ((iv_c (c := 0) (n := 0) (by decide))).1; omega, by have := (h_x95).2; have := ((iv_c (c := 0) (n := 0) (by decide))).2; omega⟩
            refine lv_iconst (v := 1) hx hb dX6_priceChoices_65 (by decide) ?_
            refine lv_iload hx hb dX6_priceChoices_66 (lv_at hl 3 rfl) ?_
            refine lv_ishl hx hb dX6_priceChoices_68 ?_
            refine tw_top (fun x112 => ?_)
            have h111 := iv_any x112
            refine lv_goto (tgt := 73) hx hb dX6_priceChoices_69 (by decide) ?_
            refine lv_ior hx hb dX6_priceChoices_73 ?_
            refine tw_top (fun x114 => ?_)
            have h113 := iv_any x114
            refine lv_istore_n (lv' := [(3, .int x114), (2, .int x99), (5, .int x95), (4, .int x3), (0, .ref (base + a0)), (1, .int a1)]) hx hb dX6_priceChoices_74 rfl hl (by decide) rfl (fun ls hl => ?_)
            refine tw_iinc (lv' := fun x117 => [(4, .int x117), (3, .int x114), (2, .int x99), (5, .int x95), (0, .ref (base + a0)), (1, .int a1)]) (lo := 1) (hi := 10) hx hb dX6_priceChoices_75 hl (k := 3) rfl h75 (by decide) ⟨by decide, by decide⟩ ⟨by decide, by decide⟩ (by decide) (fun _ => rfl) (fun x117 ls e116 h115 hl => ?_)
            refine lv_goto (tgt := 7) hx hb dX6_priceChoices_78 (by decide) ?_
            have hm118 : 10 - x117.toInt < (n_4 : Int) := by
              have := (h_a1).1; have := (h_a1).2; have := (h115).1; have := (h115).2; have := (h75).1; have := (h75).2; omega
            exact ih_4 x99 x114 x117 M4 R5 J91 H locs _ h98 h113 (iv_mono h115 (by decide) (by decide)) hm118 hS (lv_sub hl [2, 1, 0, 4, 5] rfl)
        · have q119 : x95.toInt = 1 := ti_eq c96
          have h120 : iv 1 1 x95 := ⟨by have := (h_x95).1; have := ((iv_c (c := 1) (n := 1) (by decide))).1; omega, by have := (h_x95).2; have := ((iv_c (c := 1) (n := 1) (by decide))).2; omega⟩
          refine lv_iconst (v := 1) hx hb dX6_priceChoices_49 (by decide) ?_
          refine lv_iload hx hb dX6_priceChoices_50 (lv_at hl 3 rfl) ?_
          refine lv_ishl hx hb dX6_priceChoices_52 ?_
          refine tw_top (fun x122 => ?_)
          have h121 := iv_any x122
          refine lv_goto (tgt := 57) hx hb dX6_priceChoices_53 (by decide) ?_
          refine lv_ior hx hb dX6_priceChoices_57 ?_
          refine tw_top (fun x124 => ?_)
          have h123 := iv_any x124
          refine lv_istore_n (lv' := [(2, .int x124), (5, .int x95), (3, .int x2), (4, .int x3), (0, .ref (base + a0)), (1, .int a1)]) hx hb dX6_priceChoices_58 rfl hl (by decide) rfl (fun ls hl => ?_)
          refine lv_iload_n hx hb dX6_priceChoices_59 rfl (lv_at hl 2 rfl) ?_
          refine lv_iload hx hb dX6_priceChoices_60 (lv_at hl 1 rfl) ?_
          refine lv_if_ne (tgt := 72) hx hb dX6_priceChoices_62 (by decide) (fun c125 => ?_) (fun c125 => False.elim (by have q : x95.toInt = 0 := ti_eq c125; have := (h120).1; have := (h120).2; omega))
          have q126 : ¬ x95.toInt = 0 := ti_ne c125
          refine lv_iconst (v := 0) hx hb dX6_priceChoices_72 (by decide) ?_
          refine lv_ior hx hb dX6_priceChoices_73 ?_
          refine tw_top (fun x128 => ?_)
          have h127 := iv_any x128
          refine lv_istore_n (lv' := [(3, .int x128), (2, .int x124), (5, .int x95), (4, .int x3), (0, .ref (base + a0)), (1, .int a1)]) hx hb dX6_priceChoices_74 rfl hl (by decide) rfl (fun ls hl => ?_)
          refine tw_iinc (lv' := fun x131 => [(4, .int x131), (3, .int x128), (2, .int x124), (5, .int x95), (0, .ref (base + a0)), (1, .int a1)]) (lo := 1) (hi := 10) hx hb dX6_priceChoices_75 hl (k := 3) rfl h75 (by decide) ⟨by decide, by decide⟩ ⟨by decide, by decide⟩ (by decide) (fun _ => rfl) (fun x131 ls e130 h129 hl => ?_)
          refine lv_goto (tgt := 7) hx hb dX6_priceChoices_78 (by decide) ?_
          have hm132 : 10 - x131.toInt < (n_4 : Int) := by
            have := (h_a1).1; have := (h_a1).2; have := (h129).1; have := (h129).2; have := (h75).1; have := (h75).2; omega
          exact ih_4 x124 x128 x131 M4 R5 J91 H locs _ h123 h127 (iv_mono h129 (by decide) (by decide)) hm132 hS (lv_sub hl [2, 1, 0, 4, 5] rfl)
  have hm133 : 10 - (0 : Int32).toInt < (((11 : Nat) : Int) : Int) := by
    have := (h_a1).1; have := (h_a1).2; have : (0 : Int32).toInt = 0 := (by decide); omega
  exact W7_4 11 0 0 0 Ma Ra Ja s.heap [] _ (iv_mono (iv_c (c := 0) (n := 0) (by decide)) (by decide) (by decide)) (iv_mono (iv_c (c := 0) (n := 0) (by decide)) (by decide) (by decide)) (iv_mono (iv_c (c := 0) (n := 0) (by decide)) (by decide) (by decide)) hm133 hS (lv_sub hl [2, 1, 0, 3, 4] rfl)
def Lt_X6_search : WL := [(6, 2, 4), (6, 6, 15), (7, 10, 15), (14, 0, 2000000), (20, 0, 2000000), (22, 0, 2000000)]
def LRt_X6_search : WL := [(6, 4, 6)]
set_option maxRecDepth 100000 in
set_option maxHeartbeats 4000000 in
theorem t_X6_search (l : Launch) (D : va_G) (cy : Nat → ClassId) (tx : (Nat → Nat) × (Nat → Nat)) (base Z : Nat) (K N : Nat → Nat) (Ma : MT) (Ra : RT) (Ja : JT) (hTy : Ty Z K N Ma Ra) (a0 : Nat) (hz_a0 : a0 < Z) (hk_a0 : K a0 = 7) (a1 : Int32) (h_a1 : iv (-2147483648) 2147483647 a1) (st : Nat) (k_st : Ra a0 0 = some st) (od : Int32) (k_od : Ma st 7 = od) (h_od : iv 1 8 od) : Met l yX6_search [Cond.code yX6_search cX6_search 3 (some .boolean)] (md_rm 14 0 0) (va_Pc [.ref (base + a0), .int a1] (md_U D cy tx base Z K N Ma Ra Ja)) (mQi D cy tx base (fun r u => TP Z K N Lt_X6_search LRt_X6_search Ma Ra u ∧ (iv 0 1 r ∧ (∃ x : Int32, u.2.2.2.1 a0 13 = x ∧ iv 0 3 x)))) 0 0 (fun q => base ≤ q) := by
  refine tw_ofW (L := Lt_X6_search) (LR := LRt_X6_search) (by decide) (Nat.le_of_ble_eq_true rfl) hTy ?_
  intro p e s m args below meth c Q ls hx hb hr hlocks hown hml hW hK hT hS hQ hl
  have hl : lv_has ls 3 [(0, .ref (base + a0)), (1, .int a1)] := hl
  obtain ⟨hz_st, hk_st, hn_st⟩ := hTy.refn hz_a0 hk_a0 (show rtR 7 0 = (10, 0, 0) from rfl) k_st
  refine lv_aload_n hx hb dX6_search_0 rfl (lv_at hl 0 rfl) ?_
  refine lv_iload_n hx hb dX6_search_1 rfl (lv_at hl 1 rfl) ?_
  refine tw_puti hx hb hW hown hK hS f_X6_47_6 hz_a0 hk_a0 rfl rfl (lo := (-2147483648)) (hi := 2147483647) rfl h_a1 rfl dX6_search_2 (fun H locs M3 hS k1 f2 => ?_)
  refine lv_aload_n hx hb dX6_search_5 rfl (lv_at hl 0 rfl) ?_
  refine lv_aload_n hx hb dX6_search_6 rfl (lv_at hl 0 rfl) ?_
  refine tw_getrk hx hb hW hown hK hS f_X6_39_6 hz_a0 hk_a0 (b := st) k_st dX6_search_7 ?_
  have k4 : M3 st 7 = od := (Fr.kp (k := 7) f2 hk_st rfl).trans k_od
  refine tw_getk hx hb hW hown hK hS f_X6_51_9 hz_st hk_st (v := od) k4 dX6_search_10 ?_
  refine lv_iconst (v := 4) hx hb dX6_search_13 (by decide) ?_
  refine va_mmin hx hb (hml.trans hl.1.symm) hown (hW _ w_5_24 rfl) (hW _ w_3_86 rfl) (hW _ w_1_13 rfl) (hW _ w_3_87 rfl) (Nat.le_of_ble_eq_true rfl) (Nat.le_of_ble_eq_true rfl) (Nat.le_of_ble_eq_true rfl) (Nat.le_of_ble_eq_true rfl) dX6_search_14 ?_
  refine tw_mmin (lo := 1) (hi := 4) h_od (iv_c (c := 4) (n := 4) (by decide)) (by decide) (fun x7 e6 h5 => ?_)
  refine lv_iconst (v := 1) hx hb dX6_search_17 (by decide) ?_
  refine tw_isub (lo := 0) (hi := 3) hx hb h5 (iv_c (c := 1) (n := 1) (by decide)) ⟨by decide, by decide⟩ ⟨by decide, by decide⟩ dX6_search_18 (fun x10 e9 h8 => ?_)
  have e9 : x10.toInt = x7.toInt - 1 := e9
  refine tw_puti hx hb hW hown hK hS f_X6_62_6 hz_a0 hk_a0 rfl rfl (lo := (-1)) (hi := 3) rfl (iv_mono h8 (by decide) (by decide)) rfl dX6_search_19 (fun H locs M13 hS k11 f12 => ?_)
  refine lv_aload_n hx hb dX6_search_22 rfl (lv_at hl 0 rfl) ?_
  refine lv_bipush (v := 100) hx hb dX6_search_23 (by decide) ?_
  refine tw_puti hx hb hW hown hK hS f_X6_65_6 hz_a0 hk_a0 rfl rfl (lo := (-2147483648)) (hi := 2147483647) rfl (iv_mono (iv_c (c := 100) (n := 100) (by decide)) (by decide) (by decide)) rfl dX6_search_25 (fun H locs M16 hS k14 f15 => ?_)
  refine lv_aload_n hx hb dX6_search_28 rfl (lv_at hl 0 rfl) ?_
  refine lv_dup hx hb dX6_search_29 rfl ?_
  refine tw_geti hx hb hW hown hK hS f_X6_68_6 hz_a0 hk_a0 (lo := (-2147483648)) (hi := 2147483647) rfl dX6_search_30 (fun x19 k18 h17 => ?_)
  refine lv_iconst (v := 1) hx hb dX6_search_33 (by decide) ?_
  refine lv_iadd hx hb dX6_search_34 ?_
  refine tw_top (fun x21 => ?_)
  have h20 := iv_any x21
  refine tw_puti hx hb hW hown hK hS f_X6_68_6 hz_a0 hk_a0 rfl rfl (lo := (-2147483648)) (hi := 2147483647) rfl h20 rfl dX6_search_35 (fun H locs M24 hS k22 f23 => ?_)
  refine lv_aload_n hx hb dX6_search_38 rfl (lv_at hl 0 rfl) ?_
  refine tw_gov hS (md_runV (As := []) (rest := []) hx hb hml hown hW hK hT hS.1 (t_X6_layOutChoices l D cy tx base Z K N M24 Ra Ja hS.2.1 a0 hz_a0 hk_a0) s_X6_71 ⟨rfl, rfl, ⟨Nat.le_of_ble_eq_true rfl, Nat.le_of_ble_eq_true rfl⟩, ⟨Nat.le_of_ble_eq_true rfl, Nat.le_of_ble_eq_true rfl⟩⟩ hz_a0 hk_a0 (by decide) rfl rfl hl.1 rfl (Nat.le_of_ble_eq_true rfl) dX6_search_39) rfl rfl (fun H locs M28 R29 J27 hS f25 g26 E30 => ?_)
  have eR29 := Fr.nil g26 rfl
  subst eR29
  refine lv_iconst (v := 0) hx hb dX6_search_42 (by decide) ?_
  refine lv_istore_n (lv' := [(2, .int 0), (0, .ref (base + a0)), (1, .int a1)]) hx hb dX6_search_43 rfl hl (by decide) rfl (fun ls hl => ?_)
  have W44_32 : ∀ (n_32 : Nat) (x31 : Int32) (x37 : Int32) (M32 : MT) (R33 : RT) (J34 : JT) (H : Heap) (locs : List Loc) (ls : Array Slot) (h_x31 : iv 0 4 x31) (h_x37 : iv 0 3 x37) (k38 : M32 a0 13 = x37) (hm_32 : 4 - x31.toInt < (n_32 : Int)) (hS : SB D cy base Z K N Lt_X6_search LRt_X6_search Ma Ra M32 R33 J34 s H locs) (hl : lv_has ls 3 [(2, .int x31), (0, .ref (base + a0)), (1, .int a1)]), W p l e (md_rm 14 0 0) s m args below meth c H locs 0 0 Q (F0 m 44 ls []) := by
    intro n_32
    induction n_32 with
    | zero =>
      intro x31 x37 M32 R33 J34 H locs ls h_x31 h_x37 k38 hm_32 hS hl
      exfalso
      have := (h_a1).1; have := (h_a1).2; have := (h_od).1; have := (h_od).2; have := (h_x31).1; have := (h_x31).2; omega
    | succ n_32 ih_32 =>
      intro x31 x37 M32 R33 J34 H locs ls h_x31 h_x37 k38 hm_32 hS hl
      have f35 := hS.2.2.1
      have g36 := hS.2.2.2
      refine lv_iload_n hx hb dX6_search_44 rfl (lv_at hl 0 rfl) ?_
      refine lv_aload_n hx hb dX6_search_45 rfl (lv_at hl 1 rfl) ?_
      refine tw_getk hx hb hW hown hK hS f_X6_62_6 hz_a0 hk_a0 (v := x37) k38 dX6_search_46 ?_
      refine lv_icmp_gt (tgt := 63) hx hb dX6_search_49 (by decide) (fun c39 => ?_) (fun c39 => ?_)
      · have q40 : x37.toInt < x31.toInt := ti_lt c39
        have h41 : iv 1 4 x31 := iv_gtL (y := x37) h_x31 h_x37 q40 (by decide)
        refine lv_aload_n hx hb dX6_search_63 rfl (lv_at hl 1 rfl) ?_
        have k42 : R33 a0 0 = some st := (Fr.kp (k := 0) g36 hk_a0 rfl).trans k_st
        refine tw_getrk hx hb hW hown hK hS f_X6_39_6 hz_a0 hk_a0 (b := st) k42 dX6_search_64 ?_
        refine tw_getr hx hb hW hown hK hS f_X6_78_9 hz_st hk_st (t := 20) (n := 10) rfl dX6_search_67 (fun b43 k44 hz_b43 hk_b43 hn_b43 => ?_)
        have hn_b43 := hn_b43 (by decide)
        refine lv_iconst (v := 0) hx hb dX6_search_70 (by decide) ?_
        refine lv_aload_n hx hb dX6_search_71 rfl (lv_at hl 1 rfl) ?_
        refine tw_getr hx hb hW hown hK hS f_X6_13_6 hz_a0 hk_a0 (t := 19) (n := 4) rfl dX6_search_72 (fun b45 k46 hz_b45 hk_b45 hn_b45 => ?_)
        have hn_b45 := hn_b45 (by decide)
        refine lv_iconst (v := 0) hx hb dX6_search_75 (by decide) ?_
        refine tw_row hx hb hK hS hz_b45 hk_b45 hn_b45 (iv_c (c := 0) (n := 0) (by decide)) ⟨by decide, by decide⟩ dX6_search_76 (fun b47 k48 hz_b47 hk_b47 hn_b47 => ?_)
        refine lv_iconst (v := 0) hx hb dX6_search_77 (by decide) ?_
        refine lv_bipush (v := 10) hx hb dX6_search_78 (by decide) ?_
        refine tw_copy hx hb (hml.trans hl.1.symm) hW hown hK hS (md_okc w_5_40 rfl (md_okc w_3_226 rfl (md_okc w_3_225 rfl (md_okc w_1_18 rfl (md_ok0))))) hz_b47 hk_b47 (Or.inr (by decide)) hz_b43 hk_b43 (Or.inr (by decide)) hn_b47 hn_b43 (by have := ((iv_c (c := 10) (n := 10) (by decide))).1; have := ((iv_c (c := 10) (n := 10) (by decide))).2; have := ((iv_c (c := 0) (n := 0) (by decide))).1; have := ((iv_c (c := 0) (n := 0) (by decide))).2; have := ((iv_c (c := 0) (n := 0) (by decide))).1; have := ((iv_c (c := 0) (n := 0) (by decide))).2; omega) (by have := ((iv_c (c := 10) (n := 10) (by decide))).1; have := ((iv_c (c := 10) (n := 10) (by decide))).2; have := ((iv_c (c := 0) (n := 0) (by decide))).1; have := ((iv_c (c := 0) (n := 0) (by decide))).2; have := ((iv_c (c := 0) (n := 0) (by decide))).1; have := ((iv_c (c := 0) (n := 0) (by decide))).2; omega) (by have := ((iv_c (c := 10) (n := 10) (by decide))).1; have := ((iv_c (c := 10) (n := 10) (by decide))).2; have := ((iv_c (c := 0) (n := 0) (by decide))).1; have := ((iv_c (c := 0) (n := 0) (by decide))).2; have := ((iv_c (c := 0) (n := 0) (by decide))).1; have := ((iv_c (c := 0) (n := 0) (by decide))).2; omega) (by have := ((iv_c (c := 10) (n := 10) (by decide))).1; have := ((iv_c (c := 10) (n := 10) (by decide))).2; have := ((iv_c (c := 0) (n := 0) (by decide))).1; have := ((iv_c (c := 0) (n := 0) (by decide))).2; have := ((iv_c (c := 0) (n := 0) (by decide))).1; have := ((iv_c (c := 0) (n := 0) (by decide))).2; omega) (by have := ((iv_c (c := 10) (n := 10) (by decide))).1; have := ((iv_c (c := 10) (n := 10) (by decide))).2; have := ((iv_c (c := 0) (n := 0) (by decide))).1; have := ((iv_c (c := 0) (n := 0) (by decide))).2; have := ((iv_c (c := 0) (n := 0) (by decide))).1; have := ((iv_c (c := 0) (n := 0) (by decide))).2; omega) (fun _ _ => ⟨by show (-2147483648 : Int) ≤ -2147483648; decide, by show (2147483647 : Int) ≤ 2147483647; decide⟩) (Nat.le_of_ble_eq_true rfl) (Nat.le_of_ble_eq_true rfl) rfl dX6_search_80 (fun H locs M51 hS f49 k50 => ?_)
        refine lv_aload_n hx hb dX6_search_83 rfl (lv_at hl 1 rfl) ?_
        refine lv_iconst (v := 0) hx hb dX6_search_84 (by decide) ?_
        refine lv_iconst (v := 0) hx hb dX6_search_85 (by decide) ?_
        have k52 : M51 a0 13 = x37 := (Fr.kp (k := 13) f49 hk_a0 rfl).trans k38
        have hm53 : 3 - (0 : Int32).toInt < (((4 : Nat) : Int) : Int) := by
          have := (h_a1).1; have := (h_a1).2; have := (h_od).1; have := (h_od).2; have : (0 : Int32).toInt = 0 := (by decide); omega
        refine tw_gov hS (md_runV (As := [.int 0, .int 0]) (rest := []) hx hb hml hown hW hK hT hS.1 (t_X6_descend l D cy tx base Z K N 4 M51 R33 J34 hS.2.1 a0 hz_a0 hk_a0 0 (iv_mono (iv_c (c := 0) (n := 0) (by decide)) (by decide) (by decide)) 0 (iv_mono (iv_c (c := 0) (n := 0) (by decide)) (by decide) (by decide)) x37 k52 (iv_mono h_x37 (by decide) (by decide)) hm53) s_X6_86 ⟨rfl, rfl, ⟨by simp only [md_rm]; omega, by simp only [md_rm]; omega⟩, ⟨Nat.le_of_ble_eq_true rfl, Nat.le_of_ble_eq_true rfl⟩⟩ hz_a0 hk_a0 (by decide) rfl rfl hl.1 rfl (Nat.le_of_ble_eq_true rfl) dX6_search_86) rfl rfl (fun H locs M57 R58 J56 hS f54 g55 E59 => ?_)
        refine lv_aload_n hx hb dX6_search_89 rfl (lv_at hl 1 rfl) ?_
        refine tw_geti hx hb hW hown hK hS f_X6_65_6 hz_a0 hk_a0 (lo := (-2147483648)) (hi := 2147483647) rfl dX6_search_90 (fun x62 k61 h60 => ?_)
        refine lv_bipush (v := 100) hx hb dX6_search_93 (by decide) ?_
        refine lv_icmp_ge (tgt := 102) hx hb dX6_search_95 (by decide) (fun c63 => ?_) (fun c63 => ?_)
        · have q64 : 100 ≤ x62.toInt := ti_le c63
          have h65 : iv 100 2147483647 x62 := iv_geL (y := 100) h60 (iv_c (c := 100) (n := 100) (by decide)) q64 (by decide)
          refine lv_iconst (v := 0) hx hb dX6_search_102 (by decide) ?_
          have k66 : M57 a0 13 = x37 := (Fr.kp (k := 13) f54 hk_a0 rfl).trans k52
          exact tw_endz hx hb hr hlocks hK hT hS hQ rfl (⟨(iv_mono (iv_c (c := 0) (n := 0) (by decide)) (by decide) (by decide)), ⟨x37, k66, h_x37⟩⟩) dX6_search_103
        · have q67 : x62.toInt < 100 := ti_nle c63
          have h68 : iv (-2147483648) 99 x62 := iv_ltL (y := 100) h60 (iv_c (c := 100) (n := 100) (by decide)) q67 (by decide)
          refine lv_iconst (v := 1) hx hb dX6_search_98 (by decide) ?_
          refine lv_goto (tgt := 103) hx hb dX6_search_99 (by decide) ?_
          have k69 : M57 a0 13 = x37 := (Fr.kp (k := 13) f54 hk_a0 rfl).trans k52
          exact tw_endz hx hb hr hlocks hK hT hS hQ rfl (⟨(iv_mono (iv_c (c := 1) (n := 1) (by decide)) (by decide) (by decide)), ⟨x37, k69, h_x37⟩⟩) dX6_search_103
      · have q70 : x31.toInt ≤ x37.toInt := ti_nlt c39
        have h71 : iv 0 3 x31 := iv_leL (y := x37) h_x31 h_x37 q70 (by decide)
        refine lv_aload_n hx hb dX6_search_52 rfl (lv_at hl 1 rfl) ?_
        refine lv_iload_n hx hb dX6_search_53 rfl (lv_at hl 0 rfl) ?_
        refine tw_gov hS (md_runV (As := [.int x31]) (rest := []) hx hb hml hown hW hK hT hS.1 (t_X6_priceChoices l D cy tx base Z K N M32 R33 J34 hS.2.1 a0 hz_a0 hk_a0 x31 h71) s_X6_74 ⟨rfl, rfl, ⟨Nat.le_of_ble_eq_true rfl, Nat.le_of_ble_eq_true rfl⟩, ⟨Nat.le_of_ble_eq_true rfl, Nat.le_of_ble_eq_true rfl⟩⟩ hz_a0 hk_a0 (by decide) rfl rfl hl.1 rfl (Nat.le_of_ble_eq_true rfl) dX6_search_54) rfl rfl (fun H locs M75 R76 J74 hS f72 g73 E77 => ?_)
        have eR76 := Fr.nil g73 rfl
        subst eR76
        refine tw_iinc (lv' := fun x80 => [(2, .int x80), (0, .ref (base + a0)), (1, .int a1)]) (lo := 1) (hi := 4) hx hb dX6_search_57 hl (k := 0) rfl h71 (by decide) ⟨by decide, by decide⟩ ⟨by decide, by decide⟩ (by decide) (fun _ => rfl) (fun x80 ls e79 h78 hl => ?_)
        refine lv_goto (tgt := 44) hx hb dX6_search_60 (by decide) ?_
        have k81 : M75 a0 13 = x37 := (Fr.kp (k := 13) f72 hk_a0 rfl).trans k38
        have hm82 : 4 - x80.toInt < (n_32 : Int) := by
          have := (h_a1).1; have := (h_a1).2; have := (h_od).1; have := (h_od).2; have := (h71).1; have := (h71).2; have := (h78).1; have := (h78).2; omega
        exact ih_32 x80 x37 M75 R33 J74 H locs _ (iv_mono h78 (by decide) (by decide)) h_x37 k81 hm82 hS hl
  have k83 : M28 a0 13 = x10 := ((Fr.kp (k := 13) f25 hk_a0 rfl).trans ((Fr.kp (k := 13) f23 hk_a0 rfl).trans (Fr.kp (k := 13) f15 hk_a0 rfl))).trans k11
  have hm84 : 4 - (0 : Int32).toInt < (((5 : Nat) : Int) : Int) := by
    have := (h_a1).1; have := (h_a1).2; have := (h_od).1; have := (h_od).2; have : (0 : Int32).toInt = 0 := (by decide); omega
  exact W44_32 5 0 x10 M28 Ra J27 H locs _ (iv_mono (iv_c (c := 0) (n := 0) (by decide)) (by decide) (by decide)) h8 k83 hm84 hS hl
def Lt_X11_lose : WL := [(6, 2, 4), (6, 6, 15), (7, 10, 15), (14, 0, 2000000), (20, 0, 2000000), (22, 0, 2000000)]
def LRt_X11_lose : WL := [(6, 4, 6)]
set_option maxRecDepth 100000 in
set_option maxHeartbeats 4000000 in
theorem t_X11_lose (l : Launch) (D : va_G) (cy : Nat → ClassId) (tx : (Nat → Nat) × (Nat → Nat)) (base Z : Nat) (K N : Nat → Nat) (Ma : MT) (Ra : RT) (Ja : JT) (hTy : Ty Z K N Ma Ra) (a0 : Nat) (hz_a0 : a0 < Z) (hk_a0 : K a0 = 11) (a1 : Int32) (h_a1 : iv (-2147483648) 2147483647 a1) (st : Nat) (k_st : Ra a0 3 = some st) (pl : Nat) (k_pl : Ra a0 11 = some pl) (hw : Ra pl 0 = some st) : Met l yX11_lose [Cond.code yX11_lose cX11_lose 2 (some .int)] (md_rm 15 0 0) (va_Pc [.ref (base + a0), .int a1] (md_U D cy tx base Z K N Ma Ra Ja)) (mQi D cy tx base (fun r u => TP Z K N Lt_X11_lose LRt_X11_lose Ma Ra u ∧ (iv (-2147483648) 2147483647 r))) 0 0 (fun q => base ≤ q) := by
  refine tw_ofW (L := Lt_X11_lose) (LR := LRt_X11_lose) (by decide) (Nat.le_of_ble_eq_true rfl) hTy ?_
  intro p e s m args below meth c Q ls hx hb hr hlocks hown hml hW hK hT hS hQ hl
  have hl : lv_has ls 2 [(0, .ref (base + a0)), (1, .int a1)] := hl
  obtain ⟨hz_st, hk_st, hn_st⟩ := hTy.refn hz_a0 hk_a0 (show rtR 11 3 = (10, 0, 0) from rfl) k_st
  obtain ⟨hz_pl, hk_pl, hn_pl⟩ := hTy.refn hz_a0 hk_a0 (show rtR 11 11 = (7, 0, 0) from rfl) k_pl
  refine lv_aload_n hx hb dX11_lose_0 rfl (lv_at hl 0 rfl) ?_
  refine lv_iload_n hx hb dX11_lose_1 rfl (lv_at hl 1 rfl) ?_
  obtain ⟨x3, k1⟩ : ∃ x, Ma st 7 = x := ⟨_, rfl⟩
  have h2 : iv 0 8 x3 := by rw [← k1]; exact hS.2.1.int hz_st hk_st (show rgI 10 7 = (0, 8) from rfl)
  refine tw_goi hS (md_runV (As := [.int a1]) (rest := []) hx hb hml hown hW hK hT hS.1 (t_X11_mayThrow l D cy tx base Z K N Ma Ra Ja hS.2.1 a0 hz_a0 hk_a0 a1 h_a1 st k_st x3 k1 (iv_mono h2 (by decide) (by decide))) s_X11_226 ⟨rfl, rfl, ⟨Nat.le_of_ble_eq_true rfl, Nat.le_of_ble_eq_true rfl⟩, ⟨Nat.le_of_ble_eq_true rfl, Nat.le_of_ble_eq_true rfl⟩⟩ hz_a0 hk_a0 (by decide) rfl rfl hl.1 rfl (Nat.le_of_ble_eq_true rfl) dX11_lose_2) rfl rfl (fun x10 H locs M7 R8 J6 hS f4 g5 E9 => ?_)
  have eM7 := Fr.nil f4 rfl
  subst eM7
  have eR8 := Fr.nil g5 rfl
  subst eR8
  obtain ⟨h_x10, p11⟩ := E9
  refine lv_if_ne (tgt := 10) hx hb dX11_lose_5 (by decide) (fun c12 => ?_) (fun c12 => ?_)
  · have q13 : ¬ x10.toInt = 0 := ti_ne c12
    have h14 : iv 1 1 x10 := ⟨by have := (h_x10).1; have := ((iv_c (c := 0) (n := 0) (by decide))).1; have := ((iv_c (c := 0) (n := 0) (by decide))).2; omega, by have := (h_x10).2; have := ((iv_c (c := 0) (n := 0) (by decide))).1; have := ((iv_c (c := 0) (n := 0) (by decide))).2; omega⟩
    have h15 : iv 1 4 x3 := ⟨by have := (p11 c12).1; have := (h2).1; omega, by have := (p11 c12).2; have := (h2).2; omega⟩
    refine lv_aload_n hx hb dX11_lose_10 rfl (lv_at hl 0 rfl) ?_
    refine tw_getrk hx hb hW hown hK hS f_X11_69_10 hz_a0 hk_a0 (b := pl) k_pl dX11_lose_11 ?_
    refine lv_iload_n hx hb dX11_lose_14 rfl (lv_at hl 1 rfl) ?_
    refine tw_goi hS (md_runV (As := [.int a1]) (rest := []) hx hb hml hown hW hK hT hS.1 (t_X6_search l D cy tx base Z K N Ma Ra J6 hS.2.1 pl hz_pl hk_pl a1 h_a1 st hw x3 k1 (iv_mono h15 (by decide) (by decide))) s_X11_229 ⟨rfl, rfl, ⟨Nat.le_of_ble_eq_true rfl, Nat.le_of_ble_eq_true rfl⟩, ⟨Nat.le_of_ble_eq_true rfl, Nat.le_of_ble_eq_true rfl⟩⟩ hz_pl hk_pl (by decide) rfl rfl hl.1 rfl (Nat.le_of_ble_eq_true rfl) dX11_lose_15) rfl rfl (fun x22 H locs M19 R20 J18 hS f16 g17 E21 => ?_)
    obtain ⟨h_x22, p23⟩ := E21
    obtain ⟨x26, k24, h25⟩ := p23
    have k24 : M19 pl 13 = x26 := k24
    refine lv_if_eq (tgt := 31) hx hb dX11_lose_18 (by decide) (fun c27 => ?_) (fun c27 => ?_)
    · have q28 : x22.toInt = 0 := ti_eq c27
      have h29 : iv 0 0 x22 := ⟨by have := (h_x22).1; have := ((iv_c (c := 0) (n := 0) (by decide))).1; omega, by have := (h_x22).2; have := ((iv_c (c := 0) (n := 0) (by decide))).2; omega⟩
      refine lv_bipush (v := (-2)) hx hb dX11_lose_31 (by decide) ?_
      exact tw_endi hx hb hr hlocks hK hT hS hQ ((iv_mono (iv_c (c := (-2)) (n := (-2)) (by decide)) (by decide) (by decide))) dX11_lose_33
    · have q30 : ¬ x22.toInt = 0 := ti_ne c27
      have h31 : iv 1 1 x22 := ⟨by have := (h_x22).1; have := ((iv_c (c := 0) (n := 0) (by decide))).1; have := ((iv_c (c := 0) (n := 0) (by decide))).2; omega, by have := (h_x22).2; have := ((iv_c (c := 0) (n := 0) (by decide))).1; have := ((iv_c (c := 0) (n := 0) (by decide))).2; omega⟩
      refine lv_aload_n hx hb dX11_lose_21 rfl (lv_at hl 0 rfl) ?_
      have k32 : R20 a0 11 = some pl := (Fr.kp (k := 11) g17 hk_a0 rfl).trans k_pl
      refine tw_getrk hx hb hW hown hK hS f_X11_69_10 hz_a0 hk_a0 (b := pl) k32 dX11_lose_22 ?_
      refine tw_geti hx hb hW hown hK hS f_X11_232_6 hz_pl hk_pl (lo := (-2147483648)) (hi := 2147483647) rfl dX11_lose_25 (fun x35 k34 h33 => ?_)
      refine lv_goto (tgt := 33) hx hb dX11_lose_28 (by decide) ?_
      exact tw_endi hx hb hr hlocks hK hT hS hQ (h33) dX11_lose_33
  · have q36 : x10.toInt = 0 := ti_eq c12
    have h37 : iv 0 0 x10 := ⟨by have := (h_x10).1; have := ((iv_c (c := 0) (n := 0) (by decide))).1; omega, by have := (h_x10).2; have := ((iv_c (c := 0) (n := 0) (by decide))).2; omega⟩
    refine lv_iconst (v := (-1)) hx hb dX11_lose_8 (by decide) ?_
    exact tw_endi hx hb hr hlocks hK hT hS hQ ((iv_mono (iv_c (c := (-1)) (n := (-1)) (by decide)) (by decide) (by decide))) dX11_lose_9
def Lt_X3_evenOut : WL := [(20, 0, 2000000)]
def LRt_X3_evenOut : WL := []
set_option maxRecDepth 100000 in
set_option maxHeartbeats 4000000 in
theorem t_X3_evenOut (l : Launch) (D : va_G) (cy : Nat → ClassId) (tx : (Nat → Nat) × (Nat → Nat)) (base Z : Nat) (K N : Nat → Nat) (Ma : MT) (Ra : RT) (Ja : JT) (hTy : Ty Z K N Ma Ra) (a0 : Nat) (hz_a0 : a0 < Z) (hk_a0 : K a0 = 4) : Met l yX3_evenOut [Cond.code yX3_evenOut cX3_evenOut 2 none] (md_rm 1 0 0) (va_Pc [.ref (base + a0)] (md_U D cy tx base Z K N Ma Ra Ja)) (mQv D cy tx base (fun u => TP Z K N Lt_X3_evenOut LRt_X3_evenOut Ma Ra u ∧ (True))) 0 0 (fun q => base ≤ q) := by
  refine tw_ofW (L := Lt_X3_evenOut) (LR := LRt_X3_evenOut) (by decide) (Nat.le_of_ble_eq_true rfl) hTy ?_
  intro p e s m args below meth c Q ls hx hb hr hlocks hown hml hW hK hT hS hQ hl
  have hl : lv_has ls 2 [(0, .ref (base + a0))] := hl
  refine lv_iconst (v := 0) hx hb dX3_evenOut_0 (by decide) ?_
  refine lv_istore_n (lv' := [(1, .int 0), (0, .ref (base + a0))]) hx hb dX3_evenOut_1 rfl hl (by decide) rfl (fun ls hl => ?_)
  have W2_2 : ∀ (n_2 : Nat) (x1 : Int32) (M2 : MT) (R3 : RT) (J4 : JT) (H : Heap) (locs : List Loc) (ls : Array Slot) (h_x1 : iv 0 10 x1) (hm_2 : 10 - x1.toInt < (n_2 : Int)) (hS : SB D cy base Z K N Lt_X3_evenOut LRt_X3_evenOut Ma Ra M2 R3 J4 s H locs) (hl : lv_has ls 2 [(1, .int x1), (0, .ref (base + a0))]), W p l e (md_rm 1 0 0) s m args below meth c H locs 0 0 Q (F0 m 2 ls []) := by
    intro n_2
    induction n_2 with
    | zero =>
      intro x1 M2 R3 J4 H locs ls h_x1 hm_2 hS hl
      exfalso
      have := (h_x1).1; have := (h_x1).2; omega
    | succ n_2 ih_2 =>
      intro x1 M2 R3 J4 H locs ls h_x1 hm_2 hS hl
      have f5 := hS.2.2.1
      have g6 := hS.2.2.2
      refine lv_iload_n hx hb dX3_evenOut_2 rfl (lv_at hl 0 rfl) ?_
      refine lv_bipush (v := 10) hx hb dX3_evenOut_3 (by decide) ?_
      refine lv_icmp_ge (tgt := 21) hx hb dX3_evenOut_5 (by decide) (fun c7 => ?_) (fun c7 => ?_)
      · have q8 : 10 ≤ x1.toInt := ti_le c7
        have h9 : iv 10 10 x1 := iv_geL (y := 10) h_x1 (iv_c (c := 10) (n := 10) (by decide)) q8 (by decide)
        exact tw_endv hx hb hr hlocks hK hT hS hQ (trivial) dX3_evenOut_21
      · have q10 : x1.toInt < 10 := ti_nle c7
        have h11 : iv 0 9 x1 := iv_ltL (y := 10) h_x1 (iv_c (c := 10) (n := 10) (by decide)) q10 (by decide)
        refine lv_aload_n hx hb dX3_evenOut_8 rfl (lv_at hl 1 rfl) ?_
        refine tw_getr hx hb hW hown hK hS f_X3_9_3 hz_a0 hk_a0 (t := 20) (n := 10) rfl dX3_evenOut_9 (fun b12 k13 hz_b12 hk_b12 hn_b12 => ?_)
        have hn_b12 := hn_b12 (by decide)
        refine lv_iload_n hx hb dX3_evenOut_12 rfl (lv_at hl 0 rfl) ?_
        refine lv_iconst (v := 1) hx hb dX3_evenOut_13 (by decide) ?_
        refine tw_iast hx hb hK hS hz_b12 hk_b12 (Or.inr (by decide)) hn_b12 h11 ⟨by decide, by decide⟩ (iv_c (c := 1) (n := 1) (by decide)) (rg_s20 ⟨by decide, by decide⟩) (jl := 0) (jh := 1999999) ⟨by decide, by decide⟩ rfl dX3_evenOut_14 (fun H locs M16 hS k14 f15 => ?_)
        refine tw_iinc (lv' := fun x19 => [(1, .int x19), (0, .ref (base + a0))]) (lo := 1) (hi := 10) hx hb dX3_evenOut_15 hl (k := 0) rfl h11 (by decide) ⟨by decide, by decide⟩ ⟨by decide, by decide⟩ (by decide) (fun _ => rfl) (fun x19 ls e18 h17 hl => ?_)
        refine lv_goto (tgt := 2) hx hb dX3_evenOut_18 (by decide) ?_
        have hm20 : 10 - x19.toInt < (n_2 : Int) := by
          have := (h11).1; have := (h11).2; have := (h17).1; have := (h17).2; omega
        exact ih_2 x19 M16 R3 J4 H locs _ (iv_mono h17 (by decide) (by decide)) hm20 hS hl
  have hm21 : 10 - (0 : Int32).toInt < (((11 : Nat) : Int) : Int) := by
    have : (0 : Int32).toInt = 0 := (by decide); omega
  exact W2_2 11 0 Ma Ra Ja s.heap [] _ (iv_mono (iv_c (c := 0) (n := 0) (by decide)) (by decide) (by decide)) hm21 hS hl
def Lt_X3_mark : WL := [(4, 5, 7)]
def LRt_X3_mark : WL := []
set_option maxRecDepth 100000 in
set_option maxHeartbeats 4000000 in
theorem t_X3_mark (l : Launch) (D : va_G) (cy : Nat → ClassId) (tx : (Nat → Nat) × (Nat → Nat)) (base Z : Nat) (K N : Nat → Nat) (Ma : MT) (Ra : RT) (Ja : JT) (hTy : Ty Z K N Ma Ra) (a0 : Nat) (hz_a0 : a0 < Z) (hk_a0 : K a0 = 4) (a1 : Int32) (h_a1 : iv 0 2 a1) (a2 : Int32) (h_a2 : iv 0 9 a2) (a3 : Int32) (h_a3 : iv 0 11 a3) : Met l yX3_mark [Cond.code yX3_mark cX3_mark 4 none] (md_rm 2 0 0) (va_Pc [.ref (base + a0), .int a1, .int a2, .int a3] (md_U D cy tx base Z K N Ma Ra Ja)) (mQv D cy tx base (fun u => TP Z K N Lt_X3_mark LRt_X3_mark Ma Ra u ∧ (True))) 0 0 (fun q => base ≤ q) := by
  refine tw_ofW (L := Lt_X3_mark) (LR := LRt_X3_mark) (by decide) (Nat.le_of_ble_eq_true rfl) hTy ?_
  intro p e s m args below meth c Q ls hx hb hr hlocks hown hml hW hK hT hS hQ hl
  have hl : lv_has ls 4 [(0, .ref (base + a0)), (1, .int a1), (2, .int a2), (3, .int a3)] := hl
  refine lv_iload_n hx hb dX3_mark_0 rfl (lv_at hl 1 rfl) ?_
  refine lv_iconst (v := 1) hx hb dX3_mark_1 (by decide) ?_
  refine lv_icmp_ne (tgt := 33) hx hb dX3_mark_2 (by decide) (fun c1 => ?_) (fun c1 => ?_)
  · have q2 : ¬ a1.toInt = 1 := ti_ne c1
    exact tw_endv hx hb hr hlocks hK hT hS hQ (trivial) dX3_mark_33
  · have q3 : a1.toInt = 1 := ti_eq c1
    have h4 : iv 1 1 a1 := ⟨by have := (h_a1).1; have := ((iv_c (c := 1) (n := 1) (by decide))).1; omega, by have := (h_a1).2; have := ((iv_c (c := 1) (n := 1) (by decide))).2; omega⟩
    refine lv_aload_n hx hb dX3_mark_5 rfl (lv_at hl 0 rfl) ?_
    refine lv_dup hx hb dX3_mark_6 rfl ?_
    refine tw_geti hx hb hW hown hK hS f_X3_42_3 hz_a0 hk_a0 (lo := (-2147483648)) (hi := 2147483647) rfl dX3_mark_7 (fun x7 k6 h5 => ?_)
    refine lv_iconst (v := 1) hx hb dX3_mark_10 (by decide) ?_
    refine lv_iadd hx hb dX3_mark_11 ?_
    refine tw_top (fun x9 => ?_)
    have h8 := iv_any x9
    refine tw_puti hx hb hW hown hK hS f_X3_42_3 hz_a0 hk_a0 rfl rfl (lo := (-2147483648)) (hi := 2147483647) rfl h8 rfl dX3_mark_12 (fun H locs M12 hS k10 f11 => ?_)
    refine lv_aload_n hx hb dX3_mark_15 rfl (lv_at hl 0 rfl) ?_
    refine lv_dup hx hb dX3_mark_16 rfl ?_
    refine tw_geti hx hb hW hown hK hS f_X3_38_3 hz_a0 hk_a0 (lo := (-2147483648)) (hi := 2147483647) rfl dX3_mark_17 (fun x15 k14 h13 => ?_)
    refine lv_aload_n hx hb dX3_mark_20 rfl (lv_at hl 0 rfl) ?_
    refine tw_getr hx hb hW hown hK hS f_X3_21_3 hz_a0 hk_a0 (t := 10) (n := 0) rfl dX3_mark_21 (fun b16 k17 hz_b16 hk_b16 hn_b16 => ?_)
    refine lv_iload_n hx hb dX3_mark_24 rfl (lv_at hl 2 rfl) ?_
    refine lv_iload_n hx hb dX3_mark_25 rfl (lv_at hl 3 rfl) ?_
    refine tw_goi hS (md_runV (As := [.int a2, .int a3]) (rest := [.int x15, .ref (base + a0)]) hx hb hml hown hW hK hT hS.1 (t_X9_worthOf l D cy tx base Z K N M12 Ra Ja hS.2.1 b16 hz_b16 hk_b16 a2 h_a2 a3 h_a3) s_X3_90 ⟨rfl, rfl, ⟨Nat.le_of_ble_eq_true rfl, Nat.le_of_ble_eq_true rfl⟩, ⟨Nat.le_of_ble_eq_true rfl, Nat.le_of_ble_eq_true rfl⟩⟩ hz_b16 hk_b16 (by decide) rfl rfl hl.1 rfl (Nat.le_of_ble_eq_true rfl) dX3_mark_26) rfl rfl (fun x24 H locs M21 R22 J20 hS f18 g19 E23 => ?_)
    have eM21 := Fr.nil f18 rfl
    subst eM21
    have eR22 := Fr.nil g19 rfl
    subst eR22
    have h_x24 := E23
    clear E23
    refine lv_iadd hx hb dX3_mark_29 ?_
    refine tw_top (fun x26 => ?_)
    have h25 := iv_any x26
    refine tw_puti hx hb hW hown hK hS f_X3_38_3 hz_a0 hk_a0 rfl rfl (lo := (-2147483648)) (hi := 2147483647) rfl h25 rfl dX3_mark_30 (fun H locs M29 hS k27 f28 => ?_)
    exact tw_endv hx hb hr hlocks hK hT hS hQ (trivial) dX3_mark_33
def Lt_X3_start : WL := [(4, 5, 8), (20, 0, 2000000)]
def LRt_X3_start : WL := []
set_option maxRecDepth 100000 in
set_option maxHeartbeats 4000000 in
theorem t_X3_start (l : Launch) (D : va_G) (cy : Nat → ClassId) (tx : (Nat → Nat) × (Nat → Nat)) (base Z : Nat) (K N : Nat → Nat) (Ma : MT) (Ra : RT) (Ja : JT) (hTy : Ty Z K N Ma Ra) (a0 : Nat) (hz_a0 : a0 < Z) (hk_a0 : K a0 = 4) : Met l yX3_start [Cond.code yX3_start cX3_start 1 none] (md_rm 1 0 0) (va_Pc [.ref (base + a0)] (md_U D cy tx base Z K N Ma Ra Ja)) (mQv D cy tx base (fun u => TP Z K N Lt_X3_start LRt_X3_start Ma Ra u ∧ (True))) 0 0 (fun q => base ≤ q) := by
  refine tw_ofW (L := Lt_X3_start) (LR := LRt_X3_start) (by decide) (Nat.le_of_ble_eq_true rfl) hTy ?_
  intro p e s m args below meth c Q ls hx hb hr hlocks hown hml hW hK hT hS hQ hl
  have hl : lv_has ls 1 [(0, .ref (base + a0))] := hl
  refine lv_aload_n hx hb dX3_start_0 rfl (lv_at hl 0 rfl) ?_
  refine tw_getr hx hb hW hown hK hS f_X3_21_3 hz_a0 hk_a0 (t := 10) (n := 0) rfl dX3_start_1 (fun b1 k2 hz_b1 hk_b1 hn_b1 => ?_)
  refine tw_getr hx hb hW hown hK hS f_X3_29_9 hz_b1 hk_b1 (t := 20) (n := 10) rfl dX3_start_4 (fun b3 k4 hz_b3 hk_b3 hn_b3 => ?_)
  have hn_b3 := hn_b3 (by decide)
  refine lv_iconst (v := 0) hx hb dX3_start_7 (by decide) ?_
  refine lv_aload_n hx hb dX3_start_8 rfl (lv_at hl 0 rfl) ?_
  refine tw_getr hx hb hW hown hK hS f_X3_9_3 hz_a0 hk_a0 (t := 20) (n := 10) rfl dX3_start_9 (fun b5 k6 hz_b5 hk_b5 hn_b5 => ?_)
  have hn_b5 := hn_b5 (by decide)
  refine lv_iconst (v := 0) hx hb dX3_start_12 (by decide) ?_
  refine lv_bipush (v := 10) hx hb dX3_start_13 (by decide) ?_
  refine tw_copy hx hb (hml.trans hl.1.symm) hW hown hK hS (md_okc w_4_230 rfl (md_okc w_3_226 rfl (md_okc w_3_225 rfl (md_okc w_1_18 rfl (md_ok0))))) hz_b5 hk_b5 (Or.inr (by decide)) hz_b3 hk_b3 (Or.inr (by decide)) hn_b5 hn_b3 (by have := ((iv_c (c := 10) (n := 10) (by decide))).1; have := ((iv_c (c := 10) (n := 10) (by decide))).2; have := ((iv_c (c := 0) (n := 0) (by decide))).1; have := ((iv_c (c := 0) (n := 0) (by decide))).2; have := ((iv_c (c := 0) (n := 0) (by decide))).1; have := ((iv_c (c := 0) (n := 0) (by decide))).2; omega) (by have := ((iv_c (c := 10) (n := 10) (by decide))).1; have := ((iv_c (c := 10) (n := 10) (by decide))).2; have := ((iv_c (c := 0) (n := 0) (by decide))).1; have := ((iv_c (c := 0) (n := 0) (by decide))).2; have := ((iv_c (c := 0) (n := 0) (by decide))).1; have := ((iv_c (c := 0) (n := 0) (by decide))).2; omega) (by have := ((iv_c (c := 10) (n := 10) (by decide))).1; have := ((iv_c (c := 10) (n := 10) (by decide))).2; have := ((iv_c (c := 0) (n := 0) (by decide))).1; have := ((iv_c (c := 0) (n := 0) (by decide))).2; have := ((iv_c (c := 0) (n := 0) (by decide))).1; have := ((iv_c (c := 0) (n := 0) (by decide))).2; omega) (by have := ((iv_c (c := 10) (n := 10) (by decide))).1; have := ((iv_c (c := 10) (n := 10) (by decide))).2; have := ((iv_c (c := 0) (n := 0) (by decide))).1; have := ((iv_c (c := 0) (n := 0) (by decide))).2; have := ((iv_c (c := 0) (n := 0) (by decide))).1; have := ((iv_c (c := 0) (n := 0) (by decide))).2; omega) (by have := ((iv_c (c := 10) (n := 10) (by decide))).1; have := ((iv_c (c := 10) (n := 10) (by decide))).2; have := ((iv_c (c := 0) (n := 0) (by decide))).1; have := ((iv_c (c := 0) (n := 0) (by decide))).2; have := ((iv_c (c := 0) (n := 0) (by decide))).1; have := ((iv_c (c := 0) (n := 0) (by decide))).2; omega) (fun _ _ => ⟨by show (-2147483648 : Int) ≤ -2147483648; decide, by show (2147483647 : Int) ≤ 2147483647; decide⟩) (Nat.le_of_ble_eq_true rfl) (Nat.le_of_ble_eq_true rfl) rfl dX3_start_15 (fun H locs M9 hS f7 k8 => ?_)
  refine lv_aload_n hx hb dX3_start_18 rfl (lv_at hl 0 rfl) ?_
  refine lv_iconst (v := 0) hx hb dX3_start_19 (by decide) ?_
  refine tw_puti hx hb hW hown hK hS f_X3_38_3 hz_a0 hk_a0 rfl rfl (lo := (-2147483648)) (hi := 2147483647) rfl (iv_mono (iv_c (c := 0) (n := 0) (by decide)) (by decide) (by decide)) rfl dX3_start_20 (fun H locs M12 hS k10 f11 => ?_)
  refine lv_aload_n hx hb dX3_start_23 rfl (lv_at hl 0 rfl) ?_
  refine lv_iconst (v := 0) hx hb dX3_start_24 (by decide) ?_
  refine tw_puti hx hb hW hown hK hS f_X3_42_3 hz_a0 hk_a0 rfl rfl (lo := (-2147483648)) (hi := 2147483647) rfl (iv_mono (iv_c (c := 0) (n := 0) (by decide)) (by decide) (by decide)) rfl dX3_start_25 (fun H locs M15 hS k13 f14 => ?_)
  refine lv_aload_n hx hb dX3_start_28 rfl (lv_at hl 0 rfl) ?_
  refine lv_iconst (v := 0) hx hb dX3_start_29 (by decide) ?_
  refine tw_puti hx hb hW hown hK hS f_X3_45_3 hz_a0 hk_a0 rfl rfl (lo := (-2147483648)) (hi := 2147483647) rfl (iv_mono (iv_c (c := 0) (n := 0) (by decide)) (by decide) (by decide)) rfl dX3_start_30 (fun H locs M18 hS k16 f17 => ?_)
  exact tw_endv hx hb hr hlocks hK hT hS hQ (trivial) dX3_start_33
def Lt_X3_runDays : WL := [(4, 5, 8), (6, 2, 4), (6, 6, 15), (20, 0, 2000000)]
def LRt_X3_runDays : WL := [(6, 4, 6)]
set_option maxRecDepth 100000 in
set_option maxHeartbeats 4000000 in
theorem t_X3_runDays (l : Launch) (D : va_G) (cy : Nat → ClassId) (tx : (Nat → Nat) × (Nat → Nat)) (base Z : Nat) (K N : Nat → Nat) (Ma : MT) (Ra : RT) (Ja : JT) (hTy : Ty Z K N Ma Ra) (a0 : Nat) (hz_a0 : a0 < Z) (hk_a0 : K a0 = 4) (a1 : Int32) (h_a1 : iv 0 60 a1) (a2 : Int32) (h_a2 : iv 0 9 a2) (a3 : Int32) (h_a3 : iv 0 1 a3) : Met l yX3_runDays [Cond.code yX3_runDays cX3_runDays 7 none] (md_rm 5 0 0) (va_Pc [.ref (base + a0), .int a1, .int a2, .int a3] (md_U D cy tx base Z K N Ma Ra Ja)) (mQv D cy tx base (fun u => TP Z K N Lt_X3_runDays LRt_X3_runDays Ma Ra u ∧ (True))) 0 0 (fun q => base ≤ q) := by
  refine tw_ofW (L := Lt_X3_runDays) (LR := LRt_X3_runDays) (by decide) (Nat.le_of_ble_eq_true rfl) hTy ?_
  intro p e s m args below meth c Q ls hx hb hr hlocks hown hml hW hK hT hS hQ hl
  have hl : lv_has ls 7 [(0, .ref (base + a0)), (1, .int a1), (2, .int a2), (3, .int a3)] := hl
  refine lv_aload_n hx hb dX3_runDays_0 rfl (lv_at hl 0 rfl) ?_
  refine tw_gov hS (md_runV (As := []) (rest := []) hx hb hml hown hW hK hT hS.1 (t_X3_start l D cy tx base Z K N Ma Ra Ja hS.2.1 a0 hz_a0 hk_a0) s_X3_48 ⟨rfl, rfl, ⟨Nat.le_of_ble_eq_true rfl, Nat.le_of_ble_eq_true rfl⟩, ⟨Nat.le_of_ble_eq_true rfl, Nat.le_of_ble_eq_true rfl⟩⟩ hz_a0 hk_a0 (by decide) rfl rfl hl.1 rfl (Nat.le_of_ble_eq_true rfl) dX3_runDays_1) rfl rfl (fun H locs M4 R5 J3 hS f1 g2 E6 => ?_)
  have eR5 := Fr.nil g2 rfl
  subst eR5
  refine lv_iload_n hx hb dX3_runDays_4 rfl (lv_at hl 1 rfl) ?_
  refine lv_aload_n hx hb dX3_runDays_5 rfl (lv_at hl 0 rfl) ?_
  refine tw_getr hx hb hW hown hK hS f_X3_21_3 hz_a0 hk_a0 (t := 10) (n := 0) rfl dX3_runDays_6 (fun b7 k8 hz_b7 hk_b7 hn_b7 => ?_)
  refine tw_geti hx hb hW hown hK hS f_X3_51_9 hz_b7 hk_b7 (lo := 0) (hi := 8) rfl dX3_runDays_9 (fun x11 k10 h9 => ?_)
  refine tw_imulp (lo := 0) (hi := 480) hx hb h_a1 h9 ⟨by decide, by decide⟩ (by decide) ⟨by decide, by decide⟩ dX3_runDays_12 (fun x14 e13 h12 => ?_)
  refine lv_istore (lv' := [(4, .int x14), (0, .ref (base + a0)), (1, .int a1), (2, .int a2), (3, .int a3)]) hx hb dX3_runDays_13 hl (by decide) rfl (fun ls hl => ?_)
  refine lv_iconst (v := 0) hx hb dX3_runDays_15 (by decide) ?_
  refine lv_istore (lv' := [(5, .int 0), (4, .int x14), (0, .ref (base + a0)), (1, .int a1), (2, .int a2), (3, .int a3)]) hx hb dX3_runDays_16 hl (by decide) rfl (fun ls hl => ?_)
  have W18_16 : ∀ (n_16 : Nat) (x15 : Int32) (M16 : MT) (R17 : RT) (J18 : JT) (H : Heap) (locs : List Loc) (ls : Array Slot) (h_x15 : iv 0 480 x15) (hm_16 : 480 - x15.toInt < (n_16 : Int)) (hS : SB D cy base Z K N Lt_X3_runDays LRt_X3_runDays Ma Ra M16 R17 J18 s H locs) (hl : lv_has ls 7 [(5, .int x15), (4, .int x14), (0, .ref (base + a0)), (1, .int a1), (2, .int a2), (3, .int a3)]), W p l e (md_rm 5 0 0) s m args below meth c H locs 0 0 Q (F0 m 18 ls []) := by
    intro n_16
    induction n_16 with
    | zero =>
      intro x15 M16 R17 J18 H locs ls h_x15 hm_16 hS hl
      exfalso
      have := (h_a1).1; have := (h_a1).2; have := (h_a2).1; have := (h_a2).2; have := (h_a3).1; have := (h_a3).2; have := (h_x15).1; have := (h_x15).2; omega
    | succ n_16 ih_16 =>
      intro x15 M16 R17 J18 H locs ls h_x15 hm_16 hS hl
      have f19 := hS.2.2.1
      have g20 := hS.2.2.2
      refine lv_iload hx hb dX3_runDays_18 (lv_at hl 0 rfl) ?_
      refine lv_iload hx hb dX3_runDays_20 (lv_at hl 1 rfl) ?_
      refine lv_icmp_ge (tgt := 152) hx hb dX3_runDays_22 (by decide) (fun c21 => ?_) (fun c21 => ?_)
      · have q22 : x14.toInt ≤ x15.toInt := ti_le c21
        exact tw_endv hx hb hr hlocks hK hT hS hQ (trivial) dX3_runDays_152
      · have q23 : x15.toInt < x14.toInt := ti_nle c21
        have h24 : iv 0 479 x15 := iv_ltL (y := x14) h_x15 h12 q23 (by decide)
        have h25 : iv 1 480 x14 := iv_gtL (y := x15) h12 h_x15 q23 (by decide)
        refine lv_aload_n hx hb dX3_runDays_25 rfl (lv_at hl 2 rfl) ?_
        have k26 : R17 a0 0 = some b7 := (Fr.kp (k := 0) g20 hk_a0 rfl).trans k8
        refine tw_getrk hx hb hW hown hK hS f_X3_21_3 hz_a0 hk_a0 (b := b7) k26 dX3_runDays_26 ?_
        refine tw_geti hx hb hW hown hK hS f_X3_51_9 hz_b7 hk_b7 (lo := 0) (hi := 8) rfl dX3_runDays_29 (fun x29 k28 h27 => ?_)
        refine lv_if_le (tgt := 152) hx hb dX3_runDays_32 (by decide) (fun c30 => ?_) (fun c30 => ?_)
        · have q31 : x29.toInt ≤ 0 := ti_le c30
          have h32 : iv 0 0 x29 := iv_leL (y := 0) h27 (iv_c (c := 0) (n := 0) (by decide)) q31 (by decide)
          exact tw_endv hx hb hr hlocks hK hT hS hQ (trivial) dX3_runDays_152
        · have q33 : 0 < x29.toInt := ti_nle c30
          have h34 : iv 1 8 x29 := iv_gtL (y := 0) h27 (iv_c (c := 0) (n := 0) (by decide)) q33 (by decide)
          refine lv_iload_n hx hb dX3_runDays_35 rfl (lv_at hl 5 rfl) ?_
          refine lv_if_eq (tgt := 43) hx hb dX3_runDays_36 (by decide) (fun c35 => ?_) (fun c35 => ?_)
          · have q36 : a3.toInt = 0 := ti_eq c35
            have h37 : iv 0 0 a3 := ⟨by have := (h_a3).1; have := ((iv_c (c := 0) (n := 0) (by decide))).1; omega, by have := (h_a3).2; have := ((iv_c (c := 0) (n := 0) (by decide))).2; omega⟩
            refine lv_iload hx hb dX3_runDays_43 (lv_at hl 0 rfl) ?_
            refine lv_aload_n hx hb dX3_runDays_45 rfl (lv_at hl 2 rfl) ?_
            have k38 : R17 a0 0 = some b7 := (Fr.kp (k := 0) g20 hk_a0 rfl).trans k8
            refine tw_getrk hx hb hW hown hK hS f_X3_21_3 hz_a0 hk_a0 (b := b7) k38 dX3_runDays_46 ?_
            refine tw_getk hx hb hW hown hK hS f_X3_51_9 hz_b7 hk_b7 (v := x29) k28 dX3_runDays_49 ?_
            refine tw_irem (lo := 0) (hi := 7) hx hb h24 h34 ⟨by decide, by decide⟩ ⟨by decide, by decide⟩ dX3_runDays_52 (fun x41 e40 h39 => ?_)
            refine lv_istore (lv' := [(6, .int x41), (5, .int x15), (4, .int x14), (0, .ref (base + a0)), (1, .int a1), (2, .int a2), (3, .int a3)]) hx hb dX3_runDays_53 hl (by decide) rfl (fun ls hl => ?_)
            refine lv_aload_n hx hb dX3_runDays_55 rfl (lv_at hl 3 rfl) ?_
            refine tw_getr hx hb hW hown hK hS f_X3_25_3 hz_a0 hk_a0 (t := 6) (n := 0) rfl dX3_runDays_56 (fun b42 k43 hz_b42 hk_b42 hn_b42 => ?_)
            refine lv_aload_n hx hb dX3_runDays_59 rfl (lv_at hl 3 rfl) ?_
            have k44 : R17 a0 0 = some b7 := (Fr.kp (k := 0) g20 hk_a0 rfl).trans k8
            refine tw_getrk hx hb hW hown hK hS f_X3_21_3 hz_a0 hk_a0 (b := b7) k44 dX3_runDays_60 ?_
            refine tw_getr hx hb hW hown hK hS f_X3_57_9 hz_b7 hk_b7 (t := 21) (n := 8) rfl dX3_runDays_63 (fun b45 k46 hz_b45 hk_b45 hn_b45 => ?_)
            have hn_b45 := hn_b45 (by decide)
            refine lv_iload hx hb dX3_runDays_66 (lv_at hl 0 rfl) ?_
            refine lv_aload_n hx hb dX3_runDays_68 rfl (lv_at hl 3 rfl) ?_
            have k47 : R17 a0 0 = some b7 := (Fr.kp (k := 0) g20 hk_a0 rfl).trans k8
            refine tw_getrk hx hb hW hown hK hS f_X3_21_3 hz_a0 hk_a0 (b := b7) k47 dX3_runDays_69 ?_
            refine tw_getk hx hb hW hown hK hS f_X3_51_9 hz_b7 hk_b7 (v := x29) k28 dX3_runDays_72 ?_
            refine lv_aload_n hx hb dX3_runDays_75 rfl (lv_at hl 3 rfl) ?_
            refine tw_getr hx hb hW hown hK hS f_X3_9_3 hz_a0 hk_a0 (t := 20) (n := 10) rfl dX3_runDays_76 (fun b48 k49 hz_b48 hk_b48 hn_b48 => ?_)
            have hn_b48 := hn_b48 (by decide)
            refine lv_aload_n hx hb dX3_runDays_79 rfl (lv_at hl 3 rfl) ?_
            have k50 : R17 a0 0 = some b7 := (Fr.kp (k := 0) g20 hk_a0 rfl).trans k8
            refine tw_getrk hx hb hW hown hK hS f_X3_21_3 hz_a0 hk_a0 (b := b7) k50 dX3_runDays_80 ?_
            refine tw_geti hx hb hW hown hK hS f_X3_60_9 hz_b7 hk_b7 (lo := (-2147483648)) (hi := 2147483647) rfl dX3_runDays_83 (fun x53 k52 h51 => ?_)
            refine lv_iload hx hb dX3_runDays_86 (lv_at hl 1 rfl) ?_
            refine lv_iadd hx hb dX3_runDays_88 ?_
            refine tw_top (fun x55 => ?_)
            have h54 := iv_any x55
            refine tw_gov hS (md_runV (As := [.ref (base + b45), .int x41, .int x29, .ref (base + b48), .int x55]) (rest := []) hx hb hml hown hW hK hT hS.1 (t_X5_bring l D cy tx base Z K N M16 R17 J18 hS.2.1 b42 hz_b42 hk_b42 b45 hz_b45 hk_b45 hn_b45 x41 h39 x29 (iv_mono h34 (by decide) (by decide)) b48 hz_b48 hk_b48 hn_b48 x55 h54) s_X3_63 ⟨rfl, rfl, ⟨Nat.le_of_ble_eq_true rfl, Nat.le_of_ble_eq_true rfl⟩, ⟨Nat.le_of_ble_eq_true rfl, Nat.le_of_ble_eq_true rfl⟩⟩ hz_b42 hk_b42 (by decide) rfl rfl hl.1 rfl (Nat.le_of_ble_eq_true rfl) dX3_runDays_89) rfl rfl (fun H locs M59 R60 J58 hS f56 g57 E61 => ?_)
            have p62 := E61
            clear E61
            have k63 : RowOK N M59 R60 b42 := p62
            refine lv_aload_n hx hb dX3_runDays_92 rfl (lv_at hl 3 rfl) ?_
            have k64 : R60 a0 1 = some b42 := (Fr.kp (k := 1) g57 hk_a0 rfl).trans k43
            refine tw_getrk hx hb hW hown hK hS f_X3_25_3 hz_a0 hk_a0 (b := b42) k64 dX3_runDays_93 ?_
            refine lv_aload_n hx hb dX3_runDays_96 rfl (lv_at hl 3 rfl) ?_
            have k65 : R60 a0 0 = some b7 := ((Fr.kp (k := 0) g57 hk_a0 rfl).trans (Fr.kp (k := 0) g20 hk_a0 rfl)).trans k8
            refine tw_getrk hx hb hW hown hK hS f_X3_21_3 hz_a0 hk_a0 (b := b7) k65 dX3_runDays_97 ?_
            refine tw_geti hx hb hW hown hK hS f_X3_69_9 hz_b7 hk_b7 (lo := (-2147483648)) (hi := 2147483647) rfl dX3_runDays_100 (fun x68 k67 h66 => ?_)
            refine tw_gov hS (md_runV (As := [.int x68]) (rest := []) hx hb hml hown hW hK hT hS.1 (t_X5_ask l D cy tx base Z K N M59 R60 J58 hS.2.1 b42 hz_b42 hk_b42 x68 h66 k63) s_X3_72 ⟨rfl, rfl, ⟨Nat.le_of_ble_eq_true rfl, Nat.le_of_ble_eq_true rfl⟩, ⟨Nat.le_of_ble_eq_true rfl, Nat.le_of_ble_eq_true rfl⟩⟩ hz_b42 hk_b42 (by decide) rfl rfl hl.1 rfl (Nat.le_of_ble_eq_true rfl) dX3_runDays_103) rfl rfl (fun H locs M72 R73 J71 hS f69 g70 E74 => ?_)
            have eR73 := Fr.nil g70 rfl
            subst eR73
            refine lv_aload_n hx hb dX3_runDays_106 rfl (lv_at hl 3 rfl) ?_
            refine lv_aload_n hx hb dX3_runDays_107 rfl (lv_at hl 3 rfl) ?_
            refine tw_getrk hx hb hW hown hK hS f_X3_25_3 hz_a0 hk_a0 (b := b42) k64 dX3_runDays_108 ?_
            refine lv_aload_n hx hb dX3_runDays_111 rfl (lv_at hl 3 rfl) ?_
            have k75 : R60 a0 2 = some b48 := (Fr.kp (k := 2) g57 hk_a0 rfl).trans k49
            refine tw_getrk hx hb hW hown hK hS f_X3_9_3 hz_a0 hk_a0 (b := b48) k75 dX3_runDays_112 ?_
            refine lv_aload_n hx hb dX3_runDays_115 rfl (lv_at hl 3 rfl) ?_
            refine tw_getrk hx hb hW hown hK hS f_X3_25_3 hz_a0 hk_a0 (b := b42) k64 dX3_runDays_116 ?_
            refine tw_geti hx hb hW hown hK hS f_X3_76_5 hz_b42 hk_b42 (lo := (-2147483648)) (hi := 2147483647) rfl dX3_runDays_119 (fun x78 k77 h76 => ?_)
            refine lv_aload_n hx hb dX3_runDays_122 rfl (lv_at hl 3 rfl) ?_
            refine tw_getrk hx hb hW hown hK hS f_X3_25_3 hz_a0 hk_a0 (b := b42) k64 dX3_runDays_123 ?_
            refine tw_geti hx hb hW hown hK hS f_X3_79_5 hz_b42 hk_b42 (lo := (-2147483648)) (hi := 2147483647) rfl dX3_runDays_126 (fun x81 k80 h79 => ?_)
            refine tw_goi hS (md_runV (As := [.ref (base + b48), .int x78, .int x81]) (rest := [.ref (base + a0)]) hx hb hml hown hW hK hT hS.1 (t_X5_hold l D cy tx base Z K N M72 R60 J71 hS.2.1 b42 hz_b42 hk_b42 b48 hz_b48 hk_b48 hn_b48 x78 h76 x81 h79) s_X3_82 ⟨rfl, rfl, ⟨Nat.le_of_ble_eq_true rfl, Nat.le_of_ble_eq_true rfl⟩, ⟨Nat.le_of_ble_eq_true rfl, Nat.le_of_ble_eq_true rfl⟩⟩ hz_b42 hk_b42 (by decide) rfl rfl hl.1 rfl (Nat.le_of_ble_eq_true rfl) dX3_runDays_129) rfl rfl (fun x88 H locs M85 R86 J84 hS f82 g83 E87 => ?_)
            have eR86 := Fr.nil g83 rfl
            subst eR86
            have h_x88 := E87
            clear E87
            refine lv_iload_n hx hb dX3_runDays_132 rfl (lv_at hl 5 rfl) ?_
            refine lv_aload_n hx hb dX3_runDays_133 rfl (lv_at hl 3 rfl) ?_
            have k89 : R60 a0 0 = some b7 := ((Fr.kp (k := 0) g57 hk_a0 rfl).trans (Fr.kp (k := 0) g20 hk_a0 rfl)).trans k8
            refine tw_getrk hx hb hW hown hK hS f_X3_21_3 hz_a0 hk_a0 (b := b7) k89 dX3_runDays_134 ?_
            have k90 : R60 b7 14 = some b45 := (Fr.kp (k := 14) g57 hk_b7 rfl).trans k46
            refine tw_getrk hx hb hW hown hK hS f_X3_57_9 hz_b7 hk_b7 (b := b45) k90 dX3_runDays_137 ?_
            refine lv_iload hx hb dX3_runDays_140 (lv_at hl 0 rfl) ?_
            refine tw_iald hx hb hK hS hz_b45 hk_b45 (Or.inr (by decide)) hn_b45 (lo := 0) (hi := 11) h39 ⟨by decide, by decide⟩ rg_u21 dX3_runDays_142 (fun x93 k92 h91 => ?_)
            refine tw_gov hS (md_runV (As := [.int x88, .int a2, .int x93]) (rest := []) hx hb hml hown hW hK hT hS.1 (t_X3_mark l D cy tx base Z K N M85 R60 J84 hS.2.1 a0 hz_a0 hk_a0 x88 h_x88 a2 h_a2 x93 h91) s_X3_86 ⟨rfl, rfl, ⟨Nat.le_of_ble_eq_true rfl, Nat.le_of_ble_eq_true rfl⟩, ⟨Nat.le_of_ble_eq_true rfl, Nat.le_of_ble_eq_true rfl⟩⟩ hz_a0 hk_a0 (by decide) rfl rfl hl.1 rfl (Nat.le_of_ble_eq_true rfl) dX3_runDays_143) rfl rfl (fun H locs M97 R98 J96 hS f94 g95 E99 => ?_)
            have eR98 := Fr.nil g95 rfl
            subst eR98
            refine tw_iinc (lv' := fun x102 => [(5, .int x102), (6, .int x41), (4, .int x14), (0, .ref (base + a0)), (1, .int a1), (2, .int a2), (3, .int a3)]) (lo := 1) (hi := 480) hx hb dX3_runDays_146 hl (k := 1) rfl h24 (by decide) ⟨by decide, by decide⟩ ⟨by decide, by decide⟩ (by decide) (fun _ => rfl) (fun x102 ls e101 h100 hl => ?_)
            refine lv_goto (tgt := 18) hx hb dX3_runDays_149 (by decide) ?_
            have hm103 : 480 - x102.toInt < (n_16 : Int) := by
              have := (h_a1).1; have := (h_a1).2; have := (h_a2).1; have := (h_a2).2; have := (h37).1; have := (h37).2; have := (h100).1; have := (h100).2; have := (h24).1; have := (h24).2; have := (h39).1; have := (h39).2; omega
            exact ih_16 x102 M97 R60 J96 H locs _ (iv_mono h100 (by decide) (by decide)) hm103 hS (lv_sub hl [0, 2, 3, 4, 5, 6] rfl)
          · have q104 : ¬ a3.toInt = 0 := ti_ne c35
            have h105 : iv 1 1 a3 := ⟨by have := (h_a3).1; have := ((iv_c (c := 0) (n := 0) (by decide))).1; have := ((iv_c (c := 0) (n := 0) (by decide))).2; omega, by have := (h_a3).2; have := ((iv_c (c := 0) (n := 0) (by decide))).1; have := ((iv_c (c := 0) (n := 0) (by decide))).2; omega⟩
            refine lv_aload_n hx hb dX3_runDays_39 rfl (lv_at hl 2 rfl) ?_
            refine tw_gov hS (md_runV (As := []) (rest := []) hx hb hml hown hW hK hT hS.1 (t_X3_evenOut l D cy tx base Z K N M16 R17 J18 hS.2.1 a0 hz_a0 hk_a0) s_X3_54 ⟨rfl, rfl, ⟨Nat.le_of_ble_eq_true rfl, Nat.le_of_ble_eq_true rfl⟩, ⟨Nat.le_of_ble_eq_true rfl, Nat.le_of_ble_eq_true rfl⟩⟩ hz_a0 hk_a0 (by decide) rfl rfl hl.1 rfl (Nat.le_of_ble_eq_true rfl) dX3_runDays_40) rfl rfl (fun H locs M109 R110 J108 hS f106 g107 E111 => ?_)
            have eR110 := Fr.nil g107 rfl
            subst eR110
            refine lv_iload hx hb dX3_runDays_43 (lv_at hl 0 rfl) ?_
            refine lv_aload_n hx hb dX3_runDays_45 rfl (lv_at hl 2 rfl) ?_
            have k112 : R17 a0 0 = some b7 := (Fr.kp (k := 0) g20 hk_a0 rfl).trans k8
            refine tw_getrk hx hb hW hown hK hS f_X3_21_3 hz_a0 hk_a0 (b := b7) k112 dX3_runDays_46 ?_
            have k113 : M109 b7 7 = x29 := (Fr.kp (k := 7) f106 hk_b7 rfl).trans k28
            refine tw_getk hx hb hW hown hK hS f_X3_51_9 hz_b7 hk_b7 (v := x29) k113 dX3_runDays_49 ?_
            refine tw_irem (lo := 0) (hi := 7) hx hb h24 h34 ⟨by decide, by decide⟩ ⟨by decide, by decide⟩ dX3_runDays_52 (fun x116 e115 h114 => ?_)
            refine lv_istore (lv' := [(6, .int x116), (5, .int x15), (4, .int x14), (0, .ref (base + a0)), (1, .int a1), (2, .int a2), (3, .int a3)]) hx hb dX3_runDays_53 hl (by decide) rfl (fun ls hl => ?_)
            refine lv_aload_n hx hb dX3_runDays_55 rfl (lv_at hl 3 rfl) ?_
            refine tw_getr hx hb hW hown hK hS f_X3_25_3 hz_a0 hk_a0 (t := 6) (n := 0) rfl dX3_runDays_56 (fun b117 k118 hz_b117 hk_b117 hn_b117 => ?_)
            refine lv_aload_n hx hb dX3_runDays_59 rfl (lv_at hl 3 rfl) ?_
            have k119 : R17 a0 0 = some b7 := (Fr.kp (k := 0) g20 hk_a0 rfl).trans k8
            refine tw_getrk hx hb hW hown hK hS f_X3_21_3 hz_a0 hk_a0 (b := b7) k119 dX3_runDays_60 ?_
            refine tw_getr hx hb hW hown hK hS f_X3_57_9 hz_b7 hk_b7 (t := 21) (n := 8) rfl dX3_runDays_63 (fun b120 k121 hz_b120 hk_b120 hn_b120 => ?_)
            have hn_b120 := hn_b120 (by decide)
            refine lv_iload hx hb dX3_runDays_66 (lv_at hl 0 rfl) ?_
            refine lv_aload_n hx hb dX3_runDays_68 rfl (lv_at hl 3 rfl) ?_
            have k122 : R17 a0 0 = some b7 := (Fr.kp (k := 0) g20 hk_a0 rfl).trans k8
            refine tw_getrk hx hb hW hown hK hS f_X3_21_3 hz_a0 hk_a0 (b := b7) k122 dX3_runDays_69 ?_
            refine tw_getk hx hb hW hown hK hS f_X3_51_9 hz_b7 hk_b7 (v := x29) k113 dX3_runDays_72 ?_
            refine lv_aload_n hx hb dX3_runDays_75 rfl (lv_at hl 3 rfl) ?_
            refine tw_getr hx hb hW hown hK hS f_X3_9_3 hz_a0 hk_a0 (t := 20) (n := 10) rfl dX3_runDays_76 (fun b123 k124 hz_b123 hk_b123 hn_b123 => ?_)
            have hn_b123 := hn_b123 (by decide)
            refine lv_aload_n hx hb dX3_runDays_79 rfl (lv_at hl 3 rfl) ?_
            have k125 : R17 a0 0 = some b7 := (Fr.kp (k := 0) g20 hk_a0 rfl).trans k8
            refine tw_getrk hx hb hW hown hK hS f_X3_21_3 hz_a0 hk_a0 (b := b7) k125 dX3_runDays_80 ?_
            refine tw_geti hx hb hW hown hK hS f_X3_60_9 hz_b7 hk_b7 (lo := (-2147483648)) (hi := 2147483647) rfl dX3_runDays_83 (fun x128 k127 h126 => ?_)
            refine lv_iload hx hb dX3_runDays_86 (lv_at hl 1 rfl) ?_
            refine lv_iadd hx hb dX3_runDays_88 ?_
            refine tw_top (fun x130 => ?_)
            have h129 := iv_any x130
            refine tw_gov hS (md_runV (As := [.ref (base + b120), .int x116, .int x29, .ref (base + b123), .int x130]) (rest := []) hx hb hml hown hW hK hT hS.1 (t_X5_bring l D cy tx base Z K N M109 R17 J108 hS.2.1 b117 hz_b117 hk_b117 b120 hz_b120 hk_b120 hn_b120 x116 h114 x29 (iv_mono h34 (by decide) (by decide)) b123 hz_b123 hk_b123 hn_b123 x130 h129) s_X3_63 ⟨rfl, rfl, ⟨Nat.le_of_ble_eq_true rfl, Nat.le_of_ble_eq_true rfl⟩, ⟨Nat.le_of_ble_eq_true rfl, Nat.le_of_ble_eq_true rfl⟩⟩ hz_b117 hk_b117 (by decide) rfl rfl hl.1 rfl (Nat.le_of_ble_eq_true rfl) dX3_runDays_89) rfl rfl (fun H locs M134 R135 J133 hS f131 g132 E136 => ?_)
            have p137 := E136
            clear E136
            have k138 : RowOK N M134 R135 b117 := p137
            refine lv_aload_n hx hb dX3_runDays_92 rfl (lv_at hl 3 rfl) ?_
            have k139 : R135 a0 1 = some b117 := (Fr.kp (k := 1) g132 hk_a0 rfl).trans k118
            refine tw_getrk hx hb hW hown hK hS f_X3_25_3 hz_a0 hk_a0 (b := b117) k139 dX3_runDays_93 ?_
            refine lv_aload_n hx hb dX3_runDays_96 rfl (lv_at hl 3 rfl) ?_
            have k140 : R135 a0 0 = some b7 := ((Fr.kp (k := 0) g132 hk_a0 rfl).trans (Fr.kp (k := 0) g20 hk_a0 rfl)).trans k8
            refine tw_getrk hx hb hW hown hK hS f_X3_21_3 hz_a0 hk_a0 (b := b7) k140 dX3_runDays_97 ?_
            refine tw_geti hx hb hW hown hK hS f_X3_69_9 hz_b7 hk_b7 (lo := (-2147483648)) (hi := 2147483647) rfl dX3_runDays_100 (fun x143 k142 h141 => ?_)
            refine tw_gov hS (md_runV (As := [.int x143]) (rest := []) hx hb hml hown hW hK hT hS.1 (t_X5_ask l D cy tx base Z K N M134 R135 J133 hS.2.1 b117 hz_b117 hk_b117 x143 h141 k138) s_X3_72 ⟨rfl, rfl, ⟨Nat.le_of_ble_eq_true rfl, Nat.le_of_ble_eq_true rfl⟩, ⟨Nat.le_of_ble_eq_true rfl, Nat.le_of_ble_eq_true rfl⟩⟩ hz_b117 hk_b117 (by decide) rfl rfl hl.1 rfl (Nat.le_of_ble_eq_true rfl) dX3_runDays_103) rfl rfl (fun H locs M147 R148 J146 hS f144 g145 E149 => ?_)
            have eR148 := Fr.nil g145 rfl
            subst eR148
            refine lv_aload_n hx hb dX3_runDays_106 rfl (lv_at hl 3 rfl) ?_
            refine lv_aload_n hx hb dX3_runDays_107 rfl (lv_at hl 3 rfl) ?_
            refine tw_getrk hx hb hW hown hK hS f_X3_25_3 hz_a0 hk_a0 (b := b117) k139 dX3_runDays_108 ?_
            refine lv_aload_n hx hb dX3_runDays_111 rfl (lv_at hl 3 rfl) ?_
            have k150 : R135 a0 2 = some b123 := (Fr.kp (k := 2) g132 hk_a0 rfl).trans k124
            refine tw_getrk hx hb hW hown hK hS f_X3_9_3 hz_a0 hk_a0 (b := b123) k150 dX3_runDays_112 ?_
            refine lv_aload_n hx hb dX3_runDays_115 rfl (lv_at hl 3 rfl) ?_
            refine tw_getrk hx hb hW hown hK hS f_X3_25_3 hz_a0 hk_a0 (b := b117) k139 dX3_runDays_116 ?_
            refine tw_geti hx hb hW hown hK hS f_X3_76_5 hz_b117 hk_b117 (lo := (-2147483648)) (hi := 2147483647) rfl dX3_runDays_119 (fun x153 k152 h151 => ?_)
            refine lv_aload_n hx hb dX3_runDays_122 rfl (lv_at hl 3 rfl) ?_
            refine tw_getrk hx hb hW hown hK hS f_X3_25_3 hz_a0 hk_a0 (b := b117) k139 dX3_runDays_123 ?_
            refine tw_geti hx hb hW hown hK hS f_X3_79_5 hz_b117 hk_b117 (lo := (-2147483648)) (hi := 2147483647) rfl dX3_runDays_126 (fun x156 k155 h154 => ?_)
            refine tw_goi hS (md_runV (As := [.ref (base + b123), .int x153, .int x156]) (rest := [.ref (base + a0)]) hx hb hml hown hW hK hT hS.1 (t_X5_hold l D cy tx base Z K N M147 R135 J146 hS.2.1 b117 hz_b117 hk_b117 b123 hz_b123 hk_b123 hn_b123 x153 h151 x156 h154) s_X3_82 ⟨rfl, rfl, ⟨Nat.le_of_ble_eq_true rfl, Nat.le_of_ble_eq_true rfl⟩, ⟨Nat.le_of_ble_eq_true rfl, Nat.le_of_ble_eq_true rfl⟩⟩ hz_b117 hk_b117 (by decide) rfl rfl hl.1 rfl (Nat.le_of_ble_eq_true rfl) dX3_runDays_129) rfl rfl (fun x163 H locs M160 R161 J159 hS f157 g158 E162 => ?_)
            have eR161 := Fr.nil g158 rfl
            subst eR161
            have h_x163 := E162
            clear E162
            refine lv_iload_n hx hb dX3_runDays_132 rfl (lv_at hl 5 rfl) ?_
            refine lv_aload_n hx hb dX3_runDays_133 rfl (lv_at hl 3 rfl) ?_
            have k164 : R135 a0 0 = some b7 := ((Fr.kp (k := 0) g132 hk_a0 rfl).trans (Fr.kp (k := 0) g20 hk_a0 rfl)).trans k8
            refine tw_getrk hx hb hW hown hK hS f_X3_21_3 hz_a0 hk_a0 (b := b7) k164 dX3_runDays_134 ?_
            have k165 : R135 b7 14 = some b120 := (Fr.kp (k := 14) g132 hk_b7 rfl).trans k121
            refine tw_getrk hx hb hW hown hK hS f_X3_57_9 hz_b7 hk_b7 (b := b120) k165 dX3_runDays_137 ?_
            refine lv_iload hx hb dX3_runDays_140 (lv_at hl 0 rfl) ?_
            refine tw_iald hx hb hK hS hz_b120 hk_b120 (Or.inr (by decide)) hn_b120 (lo := 0) (hi := 11) h114 ⟨by decide, by decide⟩ rg_u21 dX3_runDays_142 (fun x168 k167 h166 => ?_)
            refine tw_gov hS (md_runV (As := [.int x163, .int a2, .int x168]) (rest := []) hx hb hml hown hW hK hT hS.1 (t_X3_mark l D cy tx base Z K N M160 R135 J159 hS.2.1 a0 hz_a0 hk_a0 x163 h_x163 a2 h_a2 x168 h166) s_X3_86 ⟨rfl, rfl, ⟨Nat.le_of_ble_eq_true rfl, Nat.le_of_ble_eq_true rfl⟩, ⟨Nat.le_of_ble_eq_true rfl, Nat.le_of_ble_eq_true rfl⟩⟩ hz_a0 hk_a0 (by decide) rfl rfl hl.1 rfl (Nat.le_of_ble_eq_true rfl) dX3_runDays_143) rfl rfl (fun H locs M172 R173 J171 hS f169 g170 E174 => ?_)
            have eR173 := Fr.nil g170 rfl
            subst eR173
            refine tw_iinc (lv' := fun x177 => [(5, .int x177), (6, .int x116), (4, .int x14), (0, .ref (base + a0)), (1, .int a1), (2, .int a2), (3, .int a3)]) (lo := 1) (hi := 480) hx hb dX3_runDays_146 hl (k := 1) rfl h24 (by decide) ⟨by decide, by decide⟩ ⟨by decide, by decide⟩ (by decide) (fun _ => rfl) (fun x177 ls e176 h175 hl => ?_)
            refine lv_goto (tgt := 18) hx hb dX3_runDays_149 (by decide) ?_
            have hm178 : 480 - x177.toInt < (n_16 : Int) := by
              have := (h_a1).1; have := (h_a1).2; have := (h_a2).1; have := (h_a2).2; have := (h105).1; have := (h105).2; have := (h114).1; have := (h114).2; have := (h24).1; have := (h24).2; have := (h175).1; have := (h175).2; omega
            exact ih_16 x177 M172 R135 J171 H locs _ (iv_mono h175 (by decide) (by decide)) hm178 hS (lv_sub hl [0, 2, 3, 4, 5, 6] rfl)
  have hm179 : 480 - (0 : Int32).toInt < (((481 : Nat) : Int) : Int) := by
    have := (h_a1).1; have := (h_a1).2; have := (h_a2).1; have := (h_a2).2; have := (h_a3).1; have := (h_a3).2; have : (0 : Int32).toInt = 0 := (by decide); omega
  exact W18_16 481 0 M4 Ra J3 H locs _ (iv_mono (iv_c (c := 0) (n := 0) (by decide)) (by decide) (by decide)) hm179 hS hl
def Lt_X11_open : WL := [(4, 5, 8), (6, 2, 4), (6, 6, 15), (20, 0, 2000000)]
def LRt_X11_open : WL := [(6, 4, 6)]
set_option maxRecDepth 100000 in
set_option maxHeartbeats 4000000 in
theorem t_X11_open (l : Launch) (D : va_G) (cy : Nat → ClassId) (tx : (Nat → Nat) × (Nat → Nat)) (base Z : Nat) (K N : Nat → Nat) (Ma : MT) (Ra : RT) (Ja : JT) (hTy : Ty Z K N Ma Ra) (a0 : Nat) (hz_a0 : a0 < Z) (hk_a0 : K a0 = 11) (a1 : Int32) (h_a1 : iv (-2147483648) 2147483647 a1) (a2 : Int32) (h_a2 : iv (-2147483648) 2147483647 a2) (a3 : Int32) (h_a3 : iv (-2147483648) 2147483647 a3) : Met l yX11_open [Cond.code yX11_open cX11_open 5 (some .int)] (md_rm 6 0 0) (va_Pc [.ref (base + a0), .int a1, .int a2, .int a3] (md_U D cy tx base Z K N Ma Ra Ja)) (mQi D cy tx base (fun r u => TP Z K N Lt_X11_open LRt_X11_open Ma Ra u ∧ (iv (-2147483648) 2147483647 r))) 0 0 (fun q => base ≤ q) := by
  refine tw_ofW (L := Lt_X11_open) (LR := LRt_X11_open) (by decide) (Nat.le_of_ble_eq_true rfl) hTy ?_
  intro p e s m args below meth c Q ls hx hb hr hlocks hown hml hW hK hT hS hQ hl
  have hl : lv_has ls 5 [(0, .ref (base + a0)), (1, .int a1), (2, .int a2), (3, .int a3)] := hl
  refine lv_iload_n hx hb dX11_open_0 rfl (lv_at hl 1 rfl) ?_
  refine lv_if_lt (tgt := 30) hx hb dX11_open_1 (by decide) (fun c1 => ?_) (fun c1 => ?_)
  · have q2 : a1.toInt < 0 := ti_lt c1
    have h3 : iv (-2147483648) (-1) a1 := iv_ltL (y := 0) h_a1 (iv_c (c := 0) (n := 0) (by decide)) q2 (by decide)
    refine lv_ldc hx hb hown (hW _ w_4_221 rfl) dX11_open_30 ?_
    exact tw_endi hx hb hr hlocks hK hT hS hQ ((iv_mono (iv_c (c := (-1000000)) (n := (-1000000)) (by decide)) (by decide) (by decide))) dX11_open_32
  · have q4 : 0 ≤ a1.toInt := ti_nlt c1
    have h5 : iv 0 2147483647 a1 := iv_geL (y := 0) h_a1 (iv_c (c := 0) (n := 0) (by decide)) q4 (by decide)
    refine lv_iload_n hx hb dX11_open_4 rfl (lv_at hl 1 rfl) ?_
    refine lv_bipush (v := 60) hx hb dX11_open_5 (by decide) ?_
    refine lv_icmp_gt (tgt := 30) hx hb dX11_open_7 (by decide) (fun c6 => ?_) (fun c6 => ?_)
    · have q7 : 60 < a1.toInt := ti_lt c6
      have h8 : iv 61 2147483647 a1 := iv_gtL (y := 60) h5 (iv_c (c := 60) (n := 60) (by decide)) q7 (by decide)
      refine lv_ldc hx hb hown (hW _ w_4_221 rfl) dX11_open_30 ?_
      exact tw_endi hx hb hr hlocks hK hT hS hQ ((iv_mono (iv_c (c := (-1000000)) (n := (-1000000)) (by decide)) (by decide) (by decide))) dX11_open_32
    · have q9 : a1.toInt ≤ 60 := ti_nlt c6
      have h10 : iv 0 60 a1 := iv_leL (y := 60) h5 (iv_c (c := 60) (n := 60) (by decide)) q9 (by decide)
      refine lv_aload_n hx hb dX11_open_10 rfl (lv_at hl 0 rfl) ?_
      refine tw_getr hx hb hW hown hK hS f_X11_31_10 hz_a0 hk_a0 (t := 10) (n := 0) rfl dX11_open_11 (fun b11 k12 hz_b11 hk_b11 hn_b11 => ?_)
      refine lv_iload_n hx hb dX11_open_14 rfl (lv_at hl 2 rfl) ?_
      refine tw_goi hS (md_runV (As := [.int a2]) (rest := []) hx hb hml hown hW hK hT hS.1 (t_X9_hasMember l D cy tx base Z K N Ma Ra Ja hS.2.1 b11 hz_b11 hk_b11 a2 h_a2) s_X11_132 ⟨rfl, rfl, ⟨Nat.le_of_ble_eq_true rfl, Nat.le_of_ble_eq_true rfl⟩, ⟨Nat.le_of_ble_eq_true rfl, Nat.le_of_ble_eq_true rfl⟩⟩ hz_b11 hk_b11 (by decide) rfl rfl hl.1 rfl (Nat.le_of_ble_eq_true rfl) dX11_open_15) rfl rfl (fun x19 H locs M16 R17 J15 hS f13 g14 E18 => ?_)
      have eM16 := Fr.nil f13 rfl
      subst eM16
      have eR17 := Fr.nil g14 rfl
      subst eR17
      obtain ⟨h_x19, p20⟩ := E18
      refine lv_if_eq (tgt := 30) hx hb dX11_open_18 (by decide) (fun c21 => ?_) (fun c21 => ?_)
      · have q22 : x19.toInt = 0 := ti_eq c21
        have h23 : iv 0 0 x19 := ⟨by have := (h_x19).1; have := ((iv_c (c := 0) (n := 0) (by decide))).1; omega, by have := (h_x19).2; have := ((iv_c (c := 0) (n := 0) (by decide))).2; omega⟩
        refine lv_ldc hx hb hown (hW _ w_4_221 rfl) dX11_open_30 ?_
        exact tw_endi hx hb hr hlocks hK hT hS hQ ((iv_mono (iv_c (c := (-1000000)) (n := (-1000000)) (by decide)) (by decide) (by decide))) dX11_open_32
      · have q24 : ¬ x19.toInt = 0 := ti_ne c21
        have h25 : iv 1 1 x19 := ⟨by have := (h_x19).1; have := ((iv_c (c := 0) (n := 0) (by decide))).1; have := ((iv_c (c := 0) (n := 0) (by decide))).2; omega, by have := (h_x19).2; have := ((iv_c (c := 0) (n := 0) (by decide))).1; have := ((iv_c (c := 0) (n := 0) (by decide))).2; omega⟩
        have h26 : iv 0 9 a2 := ⟨by have := (p20 c21).1; have := (h_a2).1; omega, by have := (p20 c21).2; have := (h_a2).2; omega⟩
        refine lv_iload_n hx hb dX11_open_21 rfl (lv_at hl 3 rfl) ?_
        refine lv_if_lt (tgt := 30) hx hb dX11_open_22 (by decide) (fun c27 => ?_) (fun c27 => ?_)
        · have q28 : a3.toInt < 0 := ti_lt c27
          have h29 : iv (-2147483648) (-1) a3 := iv_ltL (y := 0) h_a3 (iv_c (c := 0) (n := 0) (by decide)) q28 (by decide)
          refine lv_ldc hx hb hown (hW _ w_4_221 rfl) dX11_open_30 ?_
          exact tw_endi hx hb hr hlocks hK hT hS hQ ((iv_mono (iv_c (c := (-1000000)) (n := (-1000000)) (by decide)) (by decide) (by decide))) dX11_open_32
        · have q30 : 0 ≤ a3.toInt := ti_nlt c27
          have h31 : iv 0 2147483647 a3 := iv_geL (y := 0) h_a3 (iv_c (c := 0) (n := 0) (by decide)) q30 (by decide)
          refine lv_iload_n hx hb dX11_open_25 rfl (lv_at hl 3 rfl) ?_
          refine lv_iconst (v := 4) hx hb dX11_open_26 (by decide) ?_
          refine lv_icmp_le (tgt := 33) hx hb dX11_open_27 (by decide) (fun c32 => ?_) (fun c32 => ?_)
          · have q33 : a3.toInt ≤ 4 := ti_le c32
            have h34 : iv 0 4 a3 := iv_leL (y := 4) h31 (iv_c (c := 4) (n := 4) (by decide)) q33 (by decide)
            refine lv_aload_n hx hb dX11_open_33 rfl (lv_at hl 0 rfl) ?_
            refine tw_getr hx hb hW hown hK hS f_X11_62_10 hz_a0 hk_a0 (t := 4) (n := 0) rfl dX11_open_34 (fun b35 k36 hz_b35 hk_b35 hn_b35 => ?_)
            refine lv_iload_n hx hb dX11_open_37 rfl (lv_at hl 1 rfl) ?_
            refine lv_iload_n hx hb dX11_open_38 rfl (lv_at hl 2 rfl) ?_
            refine lv_iload_n hx hb dX11_open_39 rfl (lv_at hl 3 rfl) ?_
            refine lv_iconst (v := 2) hx hb dX11_open_40 (by decide) ?_
            refine lv_icmp_eq (tgt := 49) hx hb dX11_open_41 (by decide) (fun c37 => ?_) (fun c37 => ?_)
            · have q38 : a3.toInt = 2 := ti_eq c37
              have h39 : iv 2 2 a3 := ⟨by have := (h34).1; have := ((iv_c (c := 2) (n := 2) (by decide))).1; omega, by have := (h34).2; have := ((iv_c (c := 2) (n := 2) (by decide))).2; omega⟩
              refine lv_iconst (v := 1) hx hb dX11_open_49 (by decide) ?_
              refine lv_goto (tgt := 54) hx hb dX11_open_50 (by decide) ?_
              refine tw_gov hS (md_runV (As := [.int a1, .int a2, .int 1]) (rest := []) hx hb hml hown hW hK hT hS.1 (t_X3_runDays l D cy tx base Z K N Ma Ra J15 hS.2.1 b35 hz_b35 hk_b35 a1 h10 a2 h26 1 (iv_mono (iv_c (c := 1) (n := 1) (by decide)) (by decide) (by decide))) s_X11_216 ⟨rfl, rfl, ⟨Nat.le_of_ble_eq_true rfl, Nat.le_of_ble_eq_true rfl⟩, ⟨Nat.le_of_ble_eq_true rfl, Nat.le_of_ble_eq_true rfl⟩⟩ hz_b35 hk_b35 (by decide) rfl rfl hl.1 rfl (Nat.le_of_ble_eq_true rfl) dX11_open_54) rfl rfl (fun H locs M43 R44 J42 hS f40 g41 E45 => ?_)
              refine lv_iload_n hx hb dX11_open_57 rfl (lv_at hl 3 rfl) ?_
              refine lv_iconst (v := 1) hx hb dX11_open_58 (by decide) ?_
              refine lv_icmp_eq (tgt := 67) hx hb dX11_open_59 (by decide) (fun c46 => False.elim (by have q : a3.toInt = 1 := ti_eq c46; have := (h39).1; have := (h39).2; omega)) (fun c46 => ?_)
              have q47 : ¬ a3.toInt = 1 := ti_ne c46
              refine lv_iload_n hx hb dX11_open_62 rfl (lv_at hl 3 rfl) ?_
              refine lv_iconst (v := 3) hx hb dX11_open_63 (by decide) ?_
              refine lv_icmp_ne (tgt := 75) hx hb dX11_open_64 (by decide) (fun c48 => ?_) (fun c48 => False.elim (by have q : a3.toInt = 3 := ti_eq c48; have := (h39).1; have := (h39).2; omega))
              have q49 : ¬ a3.toInt = 3 := ti_ne c48
              refine lv_aload_n hx hb dX11_open_75 rfl (lv_at hl 0 rfl) ?_
              have k50 : R44 a0 10 = some b35 := (Fr.kp (k := 10) g41 hk_a0 rfl).trans k36
              refine tw_getrk hx hb hW hown hK hS f_X11_62_10 hz_a0 hk_a0 (b := b35) k50 dX11_open_76 ?_
              refine tw_geti hx hb hW hown hK hS f_X11_223_3 hz_b35 hk_b35 (lo := (-2147483648)) (hi := 2147483647) rfl dX11_open_79 (fun x53 k52 h51 => ?_)
              refine lv_istore (lv' := [(4, .int x53), (0, .ref (base + a0)), (1, .int a1), (2, .int a2), (3, .int a3)]) hx hb dX11_open_82 hl (by decide) rfl (fun ls hl => ?_)
              refine lv_iload_n hx hb dX11_open_84 rfl (lv_at hl 4 rfl) ?_
              refine lv_iconst (v := 4) hx hb dX11_open_85 (by decide) ?_
              refine lv_icmp_ne (tgt := 111) hx hb dX11_open_86 (by decide) (fun c54 => ?_) (fun c54 => False.elim (by have q : a3.toInt = 4 := ti_eq c54; have := (h39).1; have := (h39).2; omega))
              have q55 : ¬ a3.toInt = 4 := ti_ne c54
              refine lv_iload hx hb dX11_open_111 (lv_at hl 0 rfl) ?_
              exact tw_endi hx hb hr hlocks hK hT hS hQ (h51) dX11_open_113
            · have q56 : ¬ a3.toInt = 2 := ti_ne c37
              refine lv_iload_n hx hb dX11_open_44 rfl (lv_at hl 3 rfl) ?_
              refine lv_iconst (v := 3) hx hb dX11_open_45 (by decide) ?_
              refine lv_icmp_ne (tgt := 53) hx hb dX11_open_46 (by decide) (fun c57 => ?_) (fun c57 => ?_)
              · have q58 : ¬ a3.toInt = 3 := ti_ne c57
                refine lv_iconst (v := 0) hx hb dX11_open_53 (by decide) ?_
                refine tw_gov hS (md_runV (As := [.int a1, .int a2, .int 0]) (rest := []) hx hb hml hown hW hK hT hS.1 (t_X3_runDays l D cy tx base Z K N Ma Ra J15 hS.2.1 b35 hz_b35 hk_b35 a1 h10 a2 h26 0 (iv_mono (iv_c (c := 0) (n := 0) (by decide)) (by decide) (by decide))) s_X11_216 ⟨rfl, rfl, ⟨Nat.le_of_ble_eq_true rfl, Nat.le_of_ble_eq_true rfl⟩, ⟨Nat.le_of_ble_eq_true rfl, Nat.le_of_ble_eq_true rfl⟩⟩ hz_b35 hk_b35 (by decide) rfl rfl hl.1 rfl (Nat.le_of_ble_eq_true rfl) dX11_open_54) rfl rfl (fun H locs M62 R63 J61 hS f59 g60 E64 => ?_)
                refine lv_iload_n hx hb dX11_open_57 rfl (lv_at hl 3 rfl) ?_
                refine lv_iconst (v := 1) hx hb dX11_open_58 (by decide) ?_
                refine lv_icmp_eq (tgt := 67) hx hb dX11_open_59 (by decide) (fun c65 => ?_) (fun c65 => ?_)
                · have q66 : a3.toInt = 1 := ti_eq c65
                  have h67 : iv 1 1 a3 := ⟨by have := (h34).1; have := ((iv_c (c := 1) (n := 1) (by decide))).1; omega, by have := (h34).2; have := ((iv_c (c := 1) (n := 1) (by decide))).2; omega⟩
                  refine lv_aload_n hx hb dX11_open_67 rfl (lv_at hl 0 rfl) ?_
                  have k68 : R63 a0 10 = some b35 := (Fr.kp (k := 10) g60 hk_a0 rfl).trans k36
                  refine tw_getrk hx hb hW hown hK hS f_X11_62_10 hz_a0 hk_a0 (b := b35) k68 dX11_open_68 ?_
                  refine tw_geti hx hb hW hown hK hS f_X11_220_3 hz_b35 hk_b35 (lo := (-2147483648)) (hi := 2147483647) rfl dX11_open_71 (fun x71 k70 h69 => ?_)
                  exact tw_endi hx hb hr hlocks hK hT hS hQ (h69) dX11_open_74
                · have q72 : ¬ a3.toInt = 1 := ti_ne c65
                  refine lv_iload_n hx hb dX11_open_62 rfl (lv_at hl 3 rfl) ?_
                  refine lv_iconst (v := 3) hx hb dX11_open_63 (by decide) ?_
                  refine lv_icmp_ne (tgt := 75) hx hb dX11_open_64 (by decide) (fun c73 => ?_) (fun c73 => ?_)
                  · have q74 : ¬ a3.toInt = 3 := ti_ne c73
                    refine lv_aload_n hx hb dX11_open_75 rfl (lv_at hl 0 rfl) ?_
                    have k75 : R63 a0 10 = some b35 := (Fr.kp (k := 10) g60 hk_a0 rfl).trans k36
                    refine tw_getrk hx hb hW hown hK hS f_X11_62_10 hz_a0 hk_a0 (b := b35) k75 dX11_open_76 ?_
                    refine tw_geti hx hb hW hown hK hS f_X11_223_3 hz_b35 hk_b35 (lo := (-2147483648)) (hi := 2147483647) rfl dX11_open_79 (fun x78 k77 h76 => ?_)
                    refine lv_istore (lv' := [(4, .int x78), (0, .ref (base + a0)), (1, .int a1), (2, .int a2), (3, .int a3)]) hx hb dX11_open_82 hl (by decide) rfl (fun ls hl => ?_)
                    refine lv_iload_n hx hb dX11_open_84 rfl (lv_at hl 4 rfl) ?_
                    refine lv_iconst (v := 4) hx hb dX11_open_85 (by decide) ?_
                    refine lv_icmp_ne (tgt := 111) hx hb dX11_open_86 (by decide) (fun c79 => ?_) (fun c79 => ?_)
                    · have q80 : ¬ a3.toInt = 4 := ti_ne c79
                      have h81 : iv 0 3 a3 := ⟨by have := (h34).1; have := ((iv_c (c := 4) (n := 4) (by decide))).1; have := ((iv_c (c := 4) (n := 4) (by decide))).2; omega, by have := (h34).2; have := ((iv_c (c := 4) (n := 4) (by decide))).1; have := ((iv_c (c := 4) (n := 4) (by decide))).2; omega⟩
                      refine lv_iload hx hb dX11_open_111 (lv_at hl 0 rfl) ?_
                      exact tw_endi hx hb hr hlocks hK hT hS hQ (h76) dX11_open_113
                    · have q82 : a3.toInt = 4 := ti_eq c79
                      have h83 : iv 4 4 a3 := ⟨by have := (h34).1; have := ((iv_c (c := 4) (n := 4) (by decide))).1; omega, by have := (h34).2; have := ((iv_c (c := 4) (n := 4) (by decide))).2; omega⟩
                      refine lv_aload_n hx hb dX11_open_89 rfl (lv_at hl 1 rfl) ?_
                      have k84 : R63 a0 10 = some b35 := (Fr.kp (k := 10) g60 hk_a0 rfl).trans k36
                      refine tw_getrk hx hb hW hown hK hS f_X11_62_10 hz_a0 hk_a0 (b := b35) k84 dX11_open_90 ?_
                      refine lv_iload_n hx hb dX11_open_93 rfl (lv_at hl 2 rfl) ?_
                      refine lv_iload_n hx hb dX11_open_94 rfl (lv_at hl 3 rfl) ?_
                      refine lv_iconst (v := 1) hx hb dX11_open_95 (by decide) ?_
                      refine tw_gov hS (md_runV (As := [.int a1, .int a2, .int 1]) (rest := []) hx hb hml hown hW hK hT hS.1 (t_X3_runDays l D cy tx base Z K N M62 R63 J61 hS.2.1 b35 hz_b35 hk_b35 a1 h10 a2 h26 1 (iv_mono (iv_c (c := 1) (n := 1) (by decide)) (by decide) (by decide))) s_X11_216 ⟨rfl, rfl, ⟨Nat.le_of_ble_eq_true rfl, Nat.le_of_ble_eq_true rfl⟩, ⟨Nat.le_of_ble_eq_true rfl, Nat.le_of_ble_eq_true rfl⟩⟩ hz_b35 hk_b35 (by decide) rfl rfl hl.1 rfl (Nat.le_of_ble_eq_true rfl) dX11_open_96) rfl rfl (fun H locs M88 R89 J87 hS f85 g86 E90 => ?_)
                      refine lv_iload hx hb dX11_open_99 (lv_at hl 0 rfl) ?_
                      refine lv_aload_n hx hb dX11_open_101 rfl (lv_at hl 1 rfl) ?_
                      have k91 : R89 a0 10 = some b35 := ((Fr.kp (k := 10) g86 hk_a0 rfl).trans (Fr.kp (k := 10) g60 hk_a0 rfl)).trans k36
                      refine tw_getrk hx hb hW hown hK hS f_X11_62_10 hz_a0 hk_a0 (b := b35) k91 dX11_open_102 ?_
                      refine tw_geti hx hb hW hown hK hS f_X11_223_3 hz_b35 hk_b35 (lo := (-2147483648)) (hi := 2147483647) rfl dX11_open_105 (fun x94 k93 h92 => ?_)
                      refine lv_isub hx hb dX11_open_108 ?_
                      refine tw_top (fun x96 => ?_)
                      have h95 := iv_any x96
                      refine lv_istore (lv' := [(4, .int x96), (0, .ref (base + a0)), (1, .int a1), (2, .int a2), (3, .int a3)]) hx hb dX11_open_109 hl (by decide) rfl (fun ls hl => ?_)
                      refine lv_iload hx hb dX11_open_111 (lv_at hl 0 rfl) ?_
                      exact tw_endi hx hb hr hlocks hK hT hS hQ (h95) dX11_open_113
                  · have q97 : a3.toInt = 3 := ti_eq c73
                    have h98 : iv 3 3 a3 := ⟨by have := (h34).1; have := ((iv_c (c := 3) (n := 3) (by decide))).1; omega, by have := (h34).2; have := ((iv_c (c := 3) (n := 3) (by decide))).2; omega⟩
                    refine lv_aload_n hx hb dX11_open_67 rfl (lv_at hl 0 rfl) ?_
                    have k99 : R63 a0 10 = some b35 := (Fr.kp (k := 10) g60 hk_a0 rfl).trans k36
                    refine tw_getrk hx hb hW hown hK hS f_X11_62_10 hz_a0 hk_a0 (b := b35) k99 dX11_open_68 ?_
                    refine tw_geti hx hb hW hown hK hS f_X11_220_3 hz_b35 hk_b35 (lo := (-2147483648)) (hi := 2147483647) rfl dX11_open_71 (fun x102 k101 h100 => ?_)
                    exact tw_endi hx hb hr hlocks hK hT hS hQ (h100) dX11_open_74
              · have q103 : a3.toInt = 3 := ti_eq c57
                have h104 : iv 3 3 a3 := ⟨by have := (h34).1; have := ((iv_c (c := 3) (n := 3) (by decide))).1; omega, by have := (h34).2; have := ((iv_c (c := 3) (n := 3) (by decide))).2; omega⟩
                refine lv_iconst (v := 1) hx hb dX11_open_49 (by decide) ?_
                refine lv_goto (tgt := 54) hx hb dX11_open_50 (by decide) ?_
                refine tw_gov hS (md_runV (As := [.int a1, .int a2, .int 1]) (rest := []) hx hb hml hown hW hK hT hS.1 (t_X3_runDays l D cy tx base Z K N Ma Ra J15 hS.2.1 b35 hz_b35 hk_b35 a1 h10 a2 h26 1 (iv_mono (iv_c (c := 1) (n := 1) (by decide)) (by decide) (by decide))) s_X11_216 ⟨rfl, rfl, ⟨Nat.le_of_ble_eq_true rfl, Nat.le_of_ble_eq_true rfl⟩, ⟨Nat.le_of_ble_eq_true rfl, Nat.le_of_ble_eq_true rfl⟩⟩ hz_b35 hk_b35 (by decide) rfl rfl hl.1 rfl (Nat.le_of_ble_eq_true rfl) dX11_open_54) rfl rfl (fun H locs M108 R109 J107 hS f105 g106 E110 => ?_)
                refine lv_iload_n hx hb dX11_open_57 rfl (lv_at hl 3 rfl) ?_
                refine lv_iconst (v := 1) hx hb dX11_open_58 (by decide) ?_
                refine lv_icmp_eq (tgt := 67) hx hb dX11_open_59 (by decide) (fun c111 => False.elim (by have q : a3.toInt = 1 := ti_eq c111; have := (h104).1; have := (h104).2; omega)) (fun c111 => ?_)
                have q112 : ¬ a3.toInt = 1 := ti_ne c111
                refine lv_iload_n hx hb dX11_open_62 rfl (lv_at hl 3 rfl) ?_
                refine lv_iconst (v := 3) hx hb dX11_open_63 (by decide) ?_
                refine lv_icmp_ne (tgt := 75) hx hb dX11_open_64 (by decide) (fun c113 => False.elim (by have q : ¬ a3.toInt = 3 := ti_ne c113; have := (h104).1; have := (h104).2; omega)) (fun c113 => ?_)
                have q114 : a3.toInt = 3 := ti_eq c113
                refine lv_aload_n hx hb dX11_open_67 rfl (lv_at hl 0 rfl) ?_
                have k115 : R109 a0 10 = some b35 := (Fr.kp (k := 10) g106 hk_a0 rfl).trans k36
                refine tw_getrk hx hb hW hown hK hS f_X11_62_10 hz_a0 hk_a0 (b := b35) k115 dX11_open_68 ?_
                refine tw_geti hx hb hW hown hK hS f_X11_220_3 hz_b35 hk_b35 (lo := (-2147483648)) (hi := 2147483647) rfl dX11_open_71 (fun x118 k117 h116 => ?_)
                exact tw_endi hx hb hr hlocks hK hT hS hQ (h116) dX11_open_74
          · have q119 : 4 < a3.toInt := ti_nle c32
            have h120 : iv 5 2147483647 a3 := iv_gtL (y := 4) h31 (iv_c (c := 4) (n := 4) (by decide)) q119 (by decide)
            refine lv_ldc hx hb hown (hW _ w_4_221 rfl) dX11_open_30 ?_
            exact tw_endi hx hb hr hlocks hK hT hS hQ ((iv_mono (iv_c (c := (-1000000)) (n := (-1000000)) (by decide)) (by decide) (by decide))) dX11_open_32
def Lt_X9_hasPoint : WL := []
def LRt_X9_hasPoint : WL := []
set_option maxRecDepth 100000 in
set_option maxHeartbeats 4000000 in
theorem t_X9_hasPoint (l : Launch) (D : va_G) (cy : Nat → ClassId) (tx : (Nat → Nat) × (Nat → Nat)) (base Z : Nat) (K N : Nat → Nat) (Ma : MT) (Ra : RT) (Ja : JT) (hTy : Ty Z K N Ma Ra) (a0 : Nat) (hz_a0 : a0 < Z) (hk_a0 : K a0 = 10) (a1 : Int32) (h_a1 : iv (-2147483648) 2147483647 a1) : Met l yX9_hasPoint [Cond.code yX9_hasPoint cX9_hasPoint 2 (some .boolean)] (md_rm 1 0 0) (va_Pc [.ref (base + a0), .int a1] (md_U D cy tx base Z K N Ma Ra Ja)) (mQi D cy tx base (fun r u => TP Z K N Lt_X9_hasPoint LRt_X9_hasPoint Ma Ra u ∧ (iv 0 1 r ∧ (¬ r = 0 → iv 0 11 a1)))) 0 0 (fun q => base ≤ q) := by
  refine tw_ofW (L := Lt_X9_hasPoint) (LR := LRt_X9_hasPoint) (by decide) (Nat.le_of_ble_eq_true rfl) hTy ?_
  intro p e s m args below meth c Q ls hx hb hr hlocks hown hml hW hK hT hS hQ hl
  have hl : lv_has ls 2 [(0, .ref (base + a0)), (1, .int a1)] := hl
  refine lv_iload_n hx hb dX9_hasPoint_0 rfl (lv_at hl 1 rfl) ?_
  refine lv_if_lt (tgt := 16) hx hb dX9_hasPoint_1 (by decide) (fun c1 => ?_) (fun c1 => ?_)
  · have q2 : a1.toInt < 0 := ti_lt c1
    have h3 : iv (-2147483648) (-1) a1 := iv_ltL (y := 0) h_a1 (iv_c (c := 0) (n := 0) (by decide)) q2 (by decide)
    refine lv_iconst (v := 0) hx hb dX9_hasPoint_16 (by decide) ?_
    exact tw_endz hx hb hr hlocks hK hT hS hQ rfl (⟨(iv_mono (iv_c (c := 0) (n := 0) (by decide)) (by decide) (by decide)), (fun h => absurd rfl h)⟩) dX9_hasPoint_17
  · have q4 : 0 ≤ a1.toInt := ti_nlt c1
    have h5 : iv 0 2147483647 a1 := iv_geL (y := 0) h_a1 (iv_c (c := 0) (n := 0) (by decide)) q4 (by decide)
    refine lv_iload_n hx hb dX9_hasPoint_4 rfl (lv_at hl 1 rfl) ?_
    refine lv_aload_n hx hb dX9_hasPoint_5 rfl (lv_at hl 0 rfl) ?_
    refine tw_geti hx hb hW hown hK hS f_X9_37_9 hz_a0 hk_a0 (lo := 0) (hi := 12) rfl dX9_hasPoint_6 (fun x8 k7 h6 => ?_)
    refine lv_icmp_ge (tgt := 16) hx hb dX9_hasPoint_9 (by decide) (fun c9 => ?_) (fun c9 => ?_)
    · have q10 : x8.toInt ≤ a1.toInt := ti_le c9
      refine lv_iconst (v := 0) hx hb dX9_hasPoint_16 (by decide) ?_
      exact tw_endz hx hb hr hlocks hK hT hS hQ rfl (⟨(iv_mono (iv_c (c := 0) (n := 0) (by decide)) (by decide) (by decide)), (fun h => absurd rfl h)⟩) dX9_hasPoint_17
    · have q11 : a1.toInt < x8.toInt := ti_nle c9
      have h12 : iv 0 11 a1 := iv_ltL (y := x8) h5 h6 q11 (by decide)
      have h13 : iv 1 12 x8 := iv_gtL (y := a1) h6 h5 q11 (by decide)
      refine lv_iconst (v := 1) hx hb dX9_hasPoint_12 (by decide) ?_
      refine lv_goto (tgt := 17) hx hb dX9_hasPoint_13 (by decide) ?_
      exact tw_endz hx hb hr hlocks hK hT hS hQ rfl (⟨(iv_mono (iv_c (c := 1) (n := 1) (by decide)) (by decide) (by decide)), (fun _ => h12)⟩) dX9_hasPoint_17
def Lt_X11_order : WL := [(10, 7, 8), (14, 0, 2000000), (21, 0, 2000000)]
def LRt_X11_order : WL := []
set_option maxRecDepth 100000 in
set_option maxHeartbeats 4000000 in
theorem t_X11_order (l : Launch) (D : va_G) (cy : Nat → ClassId) (tx : (Nat → Nat) × (Nat → Nat)) (base Z : Nat) (K N : Nat → Nat) (Ma : MT) (Ra : RT) (Ja : JT) (hTy : Ty Z K N Ma Ra) (a0 : Nat) (hz_a0 : a0 < Z) (hk_a0 : K a0 = 11) (a1 : Int32) (h_a1 : iv (-2147483648) 2147483647 a1) : Met l yX11_order [Cond.code yX11_order cX11_order 2 (some .int)] (md_rm 2 0 0) (va_Pc [.ref (base + a0), .int a1] (md_U D cy tx base Z K N Ma Ra Ja)) (mQi D cy tx base (fun r u => TP Z K N Lt_X11_order LRt_X11_order Ma Ra u ∧ (iv (-2) 8 r))) 0 0 (fun q => base ≤ q) := by
  refine tw_ofW (L := Lt_X11_order) (LR := LRt_X11_order) (by decide) (Nat.le_of_ble_eq_true rfl) hTy ?_
  intro p e s m args below meth c Q ls hx hb hr hlocks hown hml hW hK hT hS hQ hl
  have hl : lv_has ls 2 [(0, .ref (base + a0)), (1, .int a1)] := hl
  refine lv_iload_n hx hb dX11_order_0 rfl (lv_at hl 1 rfl) ?_
  refine lv_iconst (v := (-1)) hx hb dX11_order_1 (by decide) ?_
  refine lv_icmp_ne (tgt := 15) hx hb dX11_order_2 (by decide) (fun c1 => ?_) (fun c1 => ?_)
  · have q2 : ¬ a1.toInt = (-1) := ti_ne c1
    refine lv_aload_n hx hb dX11_order_15 rfl (lv_at hl 0 rfl) ?_
    refine tw_getr hx hb hW hown hK hS f_X11_31_10 hz_a0 hk_a0 (t := 10) (n := 0) rfl dX11_order_16 (fun b3 k4 hz_b3 hk_b3 hn_b3 => ?_)
    refine lv_iload_n hx hb dX11_order_19 rfl (lv_at hl 1 rfl) ?_
    refine tw_goi hS (md_runV (As := [.int a1]) (rest := []) hx hb hml hown hW hK hT hS.1 (t_X9_hasPoint l D cy tx base Z K N Ma Ra Ja hS.2.1 b3 hz_b3 hk_b3 a1 h_a1) s_X11_151 ⟨rfl, rfl, ⟨Nat.le_of_ble_eq_true rfl, Nat.le_of_ble_eq_true rfl⟩, ⟨Nat.le_of_ble_eq_true rfl, Nat.le_of_ble_eq_true rfl⟩⟩ hz_b3 hk_b3 (by decide) rfl rfl hl.1 rfl (Nat.le_of_ble_eq_true rfl) dX11_order_20) rfl rfl (fun x11 H locs M8 R9 J7 hS f5 g6 E10 => ?_)
    have eM8 := Fr.nil f5 rfl
    subst eM8
    have eR9 := Fr.nil g6 rfl
    subst eR9
    obtain ⟨h_x11, p12⟩ := E10
    refine lv_if_ne (tgt := 32) hx hb dX11_order_23 (by decide) (fun c13 => ?_) (fun c13 => ?_)
    · have q14 : ¬ x11.toInt = 0 := ti_ne c13
      have h15 : iv 1 1 x11 := ⟨by have := (h_x11).1; have := ((iv_c (c := 0) (n := 0) (by decide))).1; have := ((iv_c (c := 0) (n := 0) (by decide))).2; omega, by have := (h_x11).2; have := ((iv_c (c := 0) (n := 0) (by decide))).1; have := ((iv_c (c := 0) (n := 0) (by decide))).2; omega⟩
      have h16 : iv 0 11 a1 := ⟨by have := (p12 c13).1; have := (h_a1).1; omega, by have := (p12 c13).2; have := (h_a1).2; omega⟩
      refine lv_aload_n hx hb dX11_order_32 rfl (lv_at hl 0 rfl) ?_
      refine tw_getrk hx hb hW hown hK hS f_X11_31_10 hz_a0 hk_a0 (b := b3) k4 dX11_order_33 ?_
      refine tw_geti hx hb hW hown hK hS f_X11_202_9 hz_b3 hk_b3 (lo := 0) (hi := 8) rfl dX11_order_36 (fun x19 k18 h17 => ?_)
      refine lv_bipush (v := 8) hx hb dX11_order_39 (by decide) ?_
      refine lv_icmp_lt (tgt := 50) hx hb dX11_order_41 (by decide) (fun c20 => ?_) (fun c20 => ?_)
      · have q21 : x19.toInt < 8 := ti_lt c20
        have h22 : iv 0 7 x19 := iv_ltL (y := 8) h17 (iv_c (c := 8) (n := 8) (by decide)) q21 (by decide)
        refine lv_aload_n hx hb dX11_order_50 rfl (lv_at hl 0 rfl) ?_
        refine tw_getrk hx hb hW hown hK hS f_X11_31_10 hz_a0 hk_a0 (b := b3) k4 dX11_order_51 ?_
        refine tw_getr hx hb hW hown hK hS f_X11_205_9 hz_b3 hk_b3 (t := 21) (n := 8) rfl dX11_order_54 (fun b23 k24 hz_b23 hk_b23 hn_b23 => ?_)
        have hn_b23 := hn_b23 (by decide)
        refine lv_aload_n hx hb dX11_order_57 rfl (lv_at hl 0 rfl) ?_
        refine tw_getrk hx hb hW hown hK hS f_X11_31_10 hz_a0 hk_a0 (b := b3) k4 dX11_order_58 ?_
        refine tw_getk hx hb hW hown hK hS f_X11_202_9 hz_b3 hk_b3 (v := x19) k18 dX11_order_61 ?_
        refine lv_iload_n hx hb dX11_order_64 rfl (lv_at hl 1 rfl) ?_
        refine tw_iast hx hb hK hS hz_b23 hk_b23 (Or.inr (by decide)) hn_b23 h22 ⟨by decide, by decide⟩ h16 (rg_s21 ⟨by decide, by decide⟩) (jl := 0) (jh := 1999999) ⟨by decide, by decide⟩ rfl dX11_order_65 (fun H locs M27 hS k25 f26 => ?_)
        refine lv_aload_n hx hb dX11_order_66 rfl (lv_at hl 0 rfl) ?_
        refine tw_getrk hx hb hW hown hK hS f_X11_31_10 hz_a0 hk_a0 (b := b3) k4 dX11_order_67 ?_
        refine lv_dup hx hb dX11_order_70 rfl ?_
        have k28 : M27 b3 7 = x19 := (Fr.kp (k := 7) f26 hk_b3 rfl).trans k18
        refine tw_getk hx hb hW hown hK hS f_X11_202_9 hz_b3 hk_b3 (v := x19) k28 dX11_order_71 ?_
        refine lv_iconst (v := 1) hx hb dX11_order_74 (by decide) ?_
        refine tw_iadd (lo := 1) (hi := 8) hx hb h22 (iv_c (c := 1) (n := 1) (by decide)) ⟨by decide, by decide⟩ ⟨by decide, by decide⟩ dX11_order_75 (fun x31 e30 h29 => ?_)
        have e30 : x31.toInt = x19.toInt + 1 := e30
        refine tw_puti hx hb hW hown hK hS f_X11_202_9 hz_b3 hk_b3 rfl rfl (lo := 0) (hi := 8) rfl (iv_mono h29 (by decide) (by decide)) rfl dX11_order_76 (fun H locs M34 hS k32 f33 => ?_)
        refine lv_aload_n hx hb dX11_order_79 rfl (lv_at hl 0 rfl) ?_
        refine tw_getrk hx hb hW hown hK hS f_X11_31_10 hz_a0 hk_a0 (b := b3) k4 dX11_order_80 ?_
        refine tw_getk hx hb hW hown hK hS f_X11_202_9 hz_b3 hk_b3 (v := x31) k32 dX11_order_83 ?_
        exact tw_endi hx hb hr hlocks hK hT hS hQ ((iv_mono h29 (by decide) (by decide))) dX11_order_86
      · have q35 : 8 ≤ x19.toInt := ti_nlt c20
        have h36 : iv 8 8 x19 := iv_geL (y := 8) h17 (iv_c (c := 8) (n := 8) (by decide)) q35 (by decide)
        refine lv_aload_n hx hb dX11_order_44 rfl (lv_at hl 0 rfl) ?_
        refine lv_iconst (v := 1) hx hb dX11_order_45 (by decide) ?_
        refine tw_goi hS (md_runV (As := [.int 1]) (rest := []) hx hb hml hown hW hK hT hS.1 (t_X11_refuse l D cy tx base Z K N Ma Ra J7 hS.2.1 a0 hz_a0 hk_a0 1 (iv_mono (iv_c (c := 1) (n := 1) (by decide)) (by decide) (by decide))) s_X11_158 ⟨rfl, rfl, ⟨Nat.le_of_ble_eq_true rfl, Nat.le_of_ble_eq_true rfl⟩, ⟨Nat.le_of_ble_eq_true rfl, Nat.le_of_ble_eq_true rfl⟩⟩ hz_a0 hk_a0 (by decide) rfl rfl hl.1 rfl (Nat.le_of_ble_eq_true rfl) dX11_order_46) rfl rfl (fun x43 H locs M40 R41 J39 hS f37 g38 E42 => ?_)
        have eR41 := Fr.nil g38 rfl
        subst eR41
        have h_x43 := E42
        clear E42
        exact tw_endi hx hb hr hlocks hK hT hS hQ ((iv_mono h_x43 (by decide) (by decide))) dX11_order_49
    · have q44 : x11.toInt = 0 := ti_eq c13
      have h45 : iv 0 0 x11 := ⟨by have := (h_x11).1; have := ((iv_c (c := 0) (n := 0) (by decide))).1; omega, by have := (h_x11).2; have := ((iv_c (c := 0) (n := 0) (by decide))).2; omega⟩
      refine lv_aload_n hx hb dX11_order_26 rfl (lv_at hl 0 rfl) ?_
      refine lv_iconst (v := 0) hx hb dX11_order_27 (by decide) ?_
      refine tw_goi hS (md_runV (As := [.int 0]) (rest := []) hx hb hml hown hW hK hT hS.1 (t_X11_refuse l D cy tx base Z K N Ma Ra J7 hS.2.1 a0 hz_a0 hk_a0 0 (iv_mono (iv_c (c := 0) (n := 0) (by decide)) (by decide) (by decide))) s_X11_158 ⟨rfl, rfl, ⟨Nat.le_of_ble_eq_true rfl, Nat.le_of_ble_eq_true rfl⟩, ⟨Nat.le_of_ble_eq_true rfl, Nat.le_of_ble_eq_true rfl⟩⟩ hz_a0 hk_a0 (by decide) rfl rfl hl.1 rfl (Nat.le_of_ble_eq_true rfl) dX11_order_28) rfl rfl (fun x52 H locs M49 R50 J48 hS f46 g47 E51 => ?_)
      have eR50 := Fr.nil g47 rfl
      subst eR50
      have h_x52 := E51
      clear E51
      exact tw_endi hx hb hr hlocks hK hT hS hQ ((iv_mono h_x52 (by decide) (by decide))) dX11_order_31
  · have q53 : a1.toInt = (-1) := ti_eq c1
    have h54 : iv (-1) (-1) a1 := ⟨by have := (h_a1).1; have := ((iv_c (c := (-1)) (n := (-1)) (by decide))).1; omega, by have := (h_a1).2; have := ((iv_c (c := (-1)) (n := (-1)) (by decide))).2; omega⟩
    refine lv_aload_n hx hb dX11_order_5 rfl (lv_at hl 0 rfl) ?_
    refine tw_getr hx hb hW hown hK hS f_X11_31_10 hz_a0 hk_a0 (t := 10) (n := 0) rfl dX11_order_6 (fun b55 k56 hz_b55 hk_b55 hn_b55 => ?_)
    refine lv_iconst (v := 0) hx hb dX11_order_9 (by decide) ?_
    refine tw_puti hx hb hW hown hK hS f_X11_202_9 hz_b55 hk_b55 rfl rfl (lo := 0) (hi := 8) rfl (iv_mono (iv_c (c := 0) (n := 0) (by decide)) (by decide) (by decide)) rfl dX11_order_10 (fun H locs M59 hS k57 f58 => ?_)
    refine lv_iconst (v := 0) hx hb dX11_order_13 (by decide) ?_
    exact tw_endi hx hb hr hlocks hK hT hS hQ ((iv_mono (iv_c (c := 0) (n := 0) (by decide)) (by decide) (by decide))) dX11_order_14
def Lt_X9_hasPlace : WL := []
def LRt_X9_hasPlace : WL := []
set_option maxRecDepth 100000 in
set_option maxHeartbeats 4000000 in
theorem t_X9_hasPlace (l : Launch) (D : va_G) (cy : Nat → ClassId) (tx : (Nat → Nat) × (Nat → Nat)) (base Z : Nat) (K N : Nat → Nat) (Ma : MT) (Ra : RT) (Ja : JT) (hTy : Ty Z K N Ma Ra) (a0 : Nat) (hz_a0 : a0 < Z) (hk_a0 : K a0 = 10) (a1 : Int32) (h_a1 : iv (-2147483648) 2147483647 a1) (od : Int32) (k_od : Ma a0 7 = od) (h_od : iv 0 8 od) : Met l yX9_hasPlace [Cond.code yX9_hasPlace cX9_hasPlace 2 (some .boolean)] (md_rm 1 0 0) (va_Pc [.ref (base + a0), .int a1] (md_U D cy tx base Z K N Ma Ra Ja)) (mQi D cy tx base (fun r u => TP Z K N Lt_X9_hasPlace LRt_X9_hasPlace Ma Ra u ∧ (iv 0 1 r ∧ (¬ r = 0 → iv 0 7 a1) ∧ (¬ r = 0 → a1.toInt < od.toInt)))) 0 0 (fun q => base ≤ q) := by
  refine tw_ofW (L := Lt_X9_hasPlace) (LR := LRt_X9_hasPlace) (by decide) (Nat.le_of_ble_eq_true rfl) hTy ?_
  intro p e s m args below meth c Q ls hx hb hr hlocks hown hml hW hK hT hS hQ hl
  have hl : lv_has ls 2 [(0, .ref (base + a0)), (1, .int a1)] := hl
  refine lv_iload_n hx hb dX9_hasPlace_0 rfl (lv_at hl 1 rfl) ?_
  refine lv_if_lt (tgt := 16) hx hb dX9_hasPlace_1 (by decide) (fun c1 => ?_) (fun c1 => ?_)
  · have q2 : a1.toInt < 0 := ti_lt c1
    have h3 : iv (-2147483648) (-1) a1 := iv_ltL (y := 0) h_a1 (iv_c (c := 0) (n := 0) (by decide)) q2 (by decide)
    refine lv_iconst (v := 0) hx hb dX9_hasPlace_16 (by decide) ?_
    exact tw_endz hx hb hr hlocks hK hT hS hQ rfl (⟨(iv_mono (iv_c (c := 0) (n := 0) (by decide)) (by decide) (by decide)), (fun h => absurd rfl h), (fun h => absurd rfl h)⟩) dX9_hasPlace_17
  · have q4 : 0 ≤ a1.toInt := ti_nlt c1
    have h5 : iv 0 2147483647 a1 := iv_geL (y := 0) h_a1 (iv_c (c := 0) (n := 0) (by decide)) q4 (by decide)
    refine lv_iload_n hx hb dX9_hasPlace_4 rfl (lv_at hl 1 rfl) ?_
    refine lv_aload_n hx hb dX9_hasPlace_5 rfl (lv_at hl 0 rfl) ?_
    refine tw_getk hx hb hW hown hK hS f_X9_52_9 hz_a0 hk_a0 (v := od) k_od dX9_hasPlace_6 ?_
    refine lv_icmp_ge (tgt := 16) hx hb dX9_hasPlace_9 (by decide) (fun c6 => ?_) (fun c6 => ?_)
    · have q7 : od.toInt ≤ a1.toInt := ti_le c6
      refine lv_iconst (v := 0) hx hb dX9_hasPlace_16 (by decide) ?_
      exact tw_endz hx hb hr hlocks hK hT hS hQ rfl (⟨(iv_mono (iv_c (c := 0) (n := 0) (by decide)) (by decide) (by decide)), (fun h => absurd rfl h), (fun h => absurd rfl h)⟩) dX9_hasPlace_17
    · have q8 : a1.toInt < od.toInt := ti_nle c6
      have h9 : iv 0 7 a1 := iv_ltL (y := od) h5 h_od q8 (by decide)
      have h10 : iv 1 8 od := iv_gtL (y := a1) h_od h5 q8 (by decide)
      refine lv_iconst (v := 1) hx hb dX9_hasPlace_12 (by decide) ?_
      refine lv_goto (tgt := 17) hx hb dX9_hasPlace_13 (by decide) ?_
      exact tw_endz hx hb hr hlocks hK hT hS hQ rfl (⟨(iv_mono (iv_c (c := 1) (n := 1) (by decide)) (by decide) (by decide)), (fun _ => h9), (fun _ => by omega)⟩) dX9_hasPlace_17
def Lt_X11_ordered : WL := []
def LRt_X11_ordered : WL := []
set_option maxRecDepth 100000 in
set_option maxHeartbeats 4000000 in
theorem t_X11_ordered (l : Launch) (D : va_G) (cy : Nat → ClassId) (tx : (Nat → Nat) × (Nat → Nat)) (base Z : Nat) (K N : Nat → Nat) (Ma : MT) (Ra : RT) (Ja : JT) (hTy : Ty Z K N Ma Ra) (a0 : Nat) (hz_a0 : a0 < Z) (hk_a0 : K a0 = 11) (a1 : Int32) (h_a1 : iv (-2147483648) 2147483647 a1) : Met l yX11_ordered [Cond.code yX11_ordered cX11_ordered 2 (some .int)] (md_rm 2 0 0) (va_Pc [.ref (base + a0), .int a1] (md_U D cy tx base Z K N Ma Ra Ja)) (mQi D cy tx base (fun r u => TP Z K N Lt_X11_ordered LRt_X11_ordered Ma Ra u ∧ (iv (-1) 11 r))) 0 0 (fun q => base ≤ q) := by
  refine tw_ofW (L := Lt_X11_ordered) (LR := LRt_X11_ordered) (by decide) (Nat.le_of_ble_eq_true rfl) hTy ?_
  intro p e s m args below meth c Q ls hx hb hr hlocks hown hml hW hK hT hS hQ hl
  have hl : lv_has ls 2 [(0, .ref (base + a0)), (1, .int a1)] := hl
  refine lv_aload_n hx hb dX11_ordered_0 rfl (lv_at hl 0 rfl) ?_
  refine tw_getr hx hb hW hown hK hS f_X11_31_10 hz_a0 hk_a0 (t := 10) (n := 0) rfl dX11_ordered_1 (fun b1 k2 hz_b1 hk_b1 hn_b1 => ?_)
  refine lv_iload_n hx hb dX11_ordered_4 rfl (lv_at hl 1 rfl) ?_
  obtain ⟨x5, k3⟩ : ∃ x, Ma b1 7 = x := ⟨_, rfl⟩
  have h4 : iv 0 8 x5 := by rw [← k3]; exact hS.2.1.int hz_b1 hk_b1 (show rgI 10 7 = (0, 8) from rfl)
  refine tw_goi hS (md_runV (As := [.int a1]) (rest := []) hx hb hml hown hW hK hT hS.1 (t_X9_hasPlace l D cy tx base Z K N Ma Ra Ja hS.2.1 b1 hz_b1 hk_b1 a1 h_a1 x5 k3 (iv_mono h4 (by decide) (by decide))) s_X11_208 ⟨rfl, rfl, ⟨Nat.le_of_ble_eq_true rfl, Nat.le_of_ble_eq_true rfl⟩, ⟨Nat.le_of_ble_eq_true rfl, Nat.le_of_ble_eq_true rfl⟩⟩ hz_b1 hk_b1 (by decide) rfl rfl hl.1 rfl (Nat.le_of_ble_eq_true rfl) dX11_ordered_5) rfl rfl (fun x12 H locs M9 R10 J8 hS f6 g7 E11 => ?_)
  have eM9 := Fr.nil f6 rfl
  subst eM9
  have eR10 := Fr.nil g7 rfl
  subst eR10
  obtain ⟨h_x12, p13, p14⟩ := E11
  refine lv_if_eq (tgt := 23) hx hb dX11_ordered_8 (by decide) (fun c15 => ?_) (fun c15 => ?_)
  · have q16 : x12.toInt = 0 := ti_eq c15
    have h17 : iv 0 0 x12 := ⟨by have := (h_x12).1; have := ((iv_c (c := 0) (n := 0) (by decide))).1; omega, by have := (h_x12).2; have := ((iv_c (c := 0) (n := 0) (by decide))).2; omega⟩
    refine lv_iconst (v := (-1)) hx hb dX11_ordered_23 (by decide) ?_
    exact tw_endi hx hb hr hlocks hK hT hS hQ ((iv_mono (iv_c (c := (-1)) (n := (-1)) (by decide)) (by decide) (by decide))) dX11_ordered_24
  · have q18 : ¬ x12.toInt = 0 := ti_ne c15
    have h19 : iv 1 1 x12 := ⟨by have := (h_x12).1; have := ((iv_c (c := 0) (n := 0) (by decide))).1; have := ((iv_c (c := 0) (n := 0) (by decide))).2; omega, by have := (h_x12).2; have := ((iv_c (c := 0) (n := 0) (by decide))).1; have := ((iv_c (c := 0) (n := 0) (by decide))).2; omega⟩
    have h20 : iv 0 7 a1 := ⟨by have := (p13 c15).1; have := (h_a1).1; omega, by have := (p13 c15).2; have := (h_a1).2; omega⟩
    have q21 := p14 c15
    refine lv_aload_n hx hb dX11_ordered_11 rfl (lv_at hl 0 rfl) ?_
    refine tw_getrk hx hb hW hown hK hS f_X11_31_10 hz_a0 hk_a0 (b := b1) k2 dX11_ordered_12 ?_
    refine tw_getr hx hb hW hown hK hS f_X11_205_9 hz_b1 hk_b1 (t := 21) (n := 8) rfl dX11_ordered_15 (fun b22 k23 hz_b22 hk_b22 hn_b22 => ?_)
    have hn_b22 := hn_b22 (by decide)
    refine lv_iload_n hx hb dX11_ordered_18 rfl (lv_at hl 1 rfl) ?_
    refine tw_iald hx hb hK hS hz_b22 hk_b22 (Or.inr (by decide)) hn_b22 (lo := 0) (hi := 11) h20 ⟨by decide, by decide⟩ rg_u21 dX11_ordered_19 (fun x26 k25 h24 => ?_)
    refine lv_goto (tgt := 24) hx hb dX11_ordered_20 (by decide) ?_
    exact tw_endi hx hb hr hlocks hK hT hS hQ ((iv_mono h24 (by decide) (by decide))) dX11_ordered_24
def Lt_X6_sayingAt : WL := []
def LRt_X6_sayingAt : WL := []
set_option maxRecDepth 100000 in
set_option maxHeartbeats 4000000 in
theorem t_X6_sayingAt (l : Launch) (D : va_G) (cy : Nat → ClassId) (tx : (Nat → Nat) × (Nat → Nat)) (base Z : Nat) (K N : Nat → Nat) (Ma : MT) (Ra : RT) (Ja : JT) (hTy : Ty Z K N Ma Ra) (a0 : Nat) (hz_a0 : a0 < Z) (hk_a0 : K a0 = 7) (a1 : Int32) (h_a1 : iv 0 3 a1) (a2 : Int32) (h_a2 : iv 0 9 a2) : Met l yX6_sayingAt [Cond.code yX6_sayingAt cX6_sayingAt 4 (some .int)] (md_rm 1 0 0) (va_Pc [.ref (base + a0), .int a1, .int a2] (md_U D cy tx base Z K N Ma Ra Ja)) (mQi D cy tx base (fun r u => TP Z K N Lt_X6_sayingAt LRt_X6_sayingAt Ma Ra u ∧ (iv 0 2 r))) 0 0 (fun q => base ≤ q) := by
  refine tw_ofW (L := Lt_X6_sayingAt) (LR := LRt_X6_sayingAt) (by decide) (Nat.le_of_ble_eq_true rfl) hTy ?_
  intro p e s m args below meth c Q ls hx hb hr hlocks hown hml hW hK hT hS hQ hl
  have hl : lv_has ls 4 [(0, .ref (base + a0)), (1, .int a1), (2, .int a2)] := hl
  refine lv_aload_n hx hb dX6_sayingAt_0 rfl (lv_at hl 0 rfl) ?_
  refine tw_getr hx hb hW hown hK hS f_X6_29_6 hz_a0 hk_a0 (t := 22) (n := 4) rfl dX6_sayingAt_1 (fun b1 k2 hz_b1 hk_b1 hn_b1 => ?_)
  have hn_b1 := hn_b1 (by decide)
  refine lv_iload_n hx hb dX6_sayingAt_4 rfl (lv_at hl 1 rfl) ?_
  refine tw_iald hx hb hK hS hz_b1 hk_b1 (Or.inr (by decide)) hn_b1 (lo := 0) (hi := 26) h_a1 ⟨by decide, by decide⟩ rg_u22 dX6_sayingAt_5 (fun x5 k4 h3 => ?_)
  refine lv_istore_n (lv' := [(3, .int x5), (0, .ref (base + a0)), (1, .int a1), (2, .int a2)]) hx hb dX6_sayingAt_6 rfl hl (by decide) rfl (fun ls hl => ?_)
  refine lv_aload_n hx hb dX6_sayingAt_7 rfl (lv_at hl 1 rfl) ?_
  refine tw_getr hx hb hW hown hK hS f_X6_16_6 hz_a0 hk_a0 (t := 14) (n := 27) rfl dX6_sayingAt_8 (fun b6 k7 hz_b6 hk_b6 hn_b6 => ?_)
  have hn_b6 := hn_b6 (by decide)
  refine lv_iload_n hx hb dX6_sayingAt_11 rfl (lv_at hl 0 rfl) ?_
  refine tw_iald hx hb hK hS hz_b6 hk_b6 (Or.inl rfl) hn_b6 (lo := (-2147483648)) (hi := 2147483647) h3 ⟨by decide, by decide⟩ rg_u14 dX6_sayingAt_12 (fun x10 k9 h8 => ?_)
  refine lv_iload_n hx hb dX6_sayingAt_13 rfl (lv_at hl 3 rfl) ?_
  refine lv_ishr hx hb dX6_sayingAt_14 ?_
  refine tw_top (fun x12 => ?_)
  have h11 := iv_any x12
  refine lv_iconst (v := 1) hx hb dX6_sayingAt_15 (by decide) ?_
  refine tw_iand (hi := 1) hx hb (iv_mono (iv_c (c := 1) (n := 1) (by decide)) (lo := 0) (hi := 1) (by decide) (by decide)) (by decide) dX6_sayingAt_16 (fun x15 h13 => ?_)
  refine lv_iconst (v := 1) hx hb dX6_sayingAt_17 (by decide) ?_
  refine lv_icmp_ne (tgt := 23) hx hb dX6_sayingAt_18 (by decide) (fun c16 => ?_) (fun c16 => ?_)
  · have q17 : ¬ x15.toInt = 1 := ti_ne c16
    have h18 : iv 0 0 x15 := ⟨by have := (h13).1; have := ((iv_c (c := 1) (n := 1) (by decide))).1; have := ((iv_c (c := 1) (n := 1) (by decide))).2; omega, by have := (h13).2; have := ((iv_c (c := 1) (n := 1) (by decide))).1; have := ((iv_c (c := 1) (n := 1) (by decide))).2; omega⟩
    refine lv_aload_n hx hb dX6_sayingAt_23 rfl (lv_at hl 1 rfl) ?_
    refine tw_getr hx hb hW hown hK hS f_X6_20_6 hz_a0 hk_a0 (t := 14) (n := 27) rfl dX6_sayingAt_24 (fun b19 k20 hz_b19 hk_b19 hn_b19 => ?_)
    have hn_b19 := hn_b19 (by decide)
    refine lv_iload_n hx hb dX6_sayingAt_27 rfl (lv_at hl 0 rfl) ?_
    refine tw_iald hx hb hK hS hz_b19 hk_b19 (Or.inl rfl) hn_b19 (lo := (-2147483648)) (hi := 2147483647) h3 ⟨by decide, by decide⟩ rg_u14 dX6_sayingAt_28 (fun x23 k22 h21 => ?_)
    refine lv_iload_n hx hb dX6_sayingAt_29 rfl (lv_at hl 3 rfl) ?_
    refine lv_ishr hx hb dX6_sayingAt_30 ?_
    refine tw_top (fun x25 => ?_)
    have h24 := iv_any x25
    refine lv_iconst (v := 1) hx hb dX6_sayingAt_31 (by decide) ?_
    refine tw_iand (hi := 1) hx hb (iv_mono (iv_c (c := 1) (n := 1) (by decide)) (lo := 0) (hi := 1) (by decide) (by decide)) (by decide) dX6_sayingAt_32 (fun x28 h26 => ?_)
    refine lv_iconst (v := 1) hx hb dX6_sayingAt_33 (by decide) ?_
    refine lv_icmp_ne (tgt := 41) hx hb dX6_sayingAt_34 (by decide) (fun c29 => ?_) (fun c29 => ?_)
    · have q30 : ¬ x28.toInt = 1 := ti_ne c29
      have h31 : iv 0 0 x28 := ⟨by have := (h26).1; have := ((iv_c (c := 1) (n := 1) (by decide))).1; have := ((iv_c (c := 1) (n := 1) (by decide))).2; omega, by have := (h26).2; have := ((iv_c (c := 1) (n := 1) (by decide))).1; have := ((iv_c (c := 1) (n := 1) (by decide))).2; omega⟩
      refine lv_iconst (v := 2) hx hb dX6_sayingAt_41 (by decide) ?_
      exact tw_endi hx hb hr hlocks hK hT hS hQ ((iv_mono (iv_c (c := 2) (n := 2) (by decide)) (by decide) (by decide))) dX6_sayingAt_42
    · have q32 : x28.toInt = 1 := ti_eq c29
      have h33 : iv 1 1 x28 := ⟨by have := (h26).1; have := ((iv_c (c := 1) (n := 1) (by decide))).1; omega, by have := (h26).2; have := ((iv_c (c := 1) (n := 1) (by decide))).2; omega⟩
      refine lv_iconst (v := 0) hx hb dX6_sayingAt_37 (by decide) ?_
      refine lv_goto (tgt := 42) hx hb dX6_sayingAt_38 (by decide) ?_
      exact tw_endi hx hb hr hlocks hK hT hS hQ ((iv_mono (iv_c (c := 0) (n := 0) (by decide)) (by decide) (by decide))) dX6_sayingAt_42
  · have q34 : x15.toInt = 1 := ti_eq c16
    have h35 : iv 1 1 x15 := ⟨by have := (h13).1; have := ((iv_c (c := 1) (n := 1) (by decide))).1; omega, by have := (h13).2; have := ((iv_c (c := 1) (n := 1) (by decide))).2; omega⟩
    refine lv_iconst (v := 1) hx hb dX6_sayingAt_21 (by decide) ?_
    exact tw_endi hx hb hr hlocks hK hT hS hQ ((iv_mono (iv_c (c := 1) (n := 1) (by decide)) (by decide) (by decide))) dX6_sayingAt_22
def Lt_X11_plan : WL := [(6, 2, 4), (6, 6, 15), (7, 10, 15), (14, 0, 2000000), (20, 0, 2000000), (22, 0, 2000000)]
def LRt_X11_plan : WL := [(6, 4, 6)]
set_option maxRecDepth 100000 in
set_option maxHeartbeats 4000000 in
theorem t_X11_plan (l : Launch) (D : va_G) (cy : Nat → ClassId) (tx : (Nat → Nat) × (Nat → Nat)) (base Z : Nat) (K N : Nat → Nat) (Ma : MT) (Ra : RT) (Ja : JT) (hTy : Ty Z K N Ma Ra) (a0 : Nat) (hz_a0 : a0 < Z) (hk_a0 : K a0 = 11) (a1 : Int32) (h_a1 : iv (-2147483648) 2147483647 a1) (a2 : Int32) (h_a2 : iv (-2147483648) 2147483647 a2) (a3 : Int32) (h_a3 : iv (-2147483648) 2147483647 a3) (st : Nat) (k_st : Ra a0 3 = some st) (pl : Nat) (k_pl : Ra a0 11 = some pl) (hw : Ra pl 0 = some st) : Met l yX11_plan [Cond.code yX11_plan cX11_plan 5 (some .int)] (md_rm 15 0 0) (va_Pc [.ref (base + a0), .int a1, .int a2, .int a3] (md_U D cy tx base Z K N Ma Ra Ja)) (mQi D cy tx base (fun r u => TP Z K N Lt_X11_plan LRt_X11_plan Ma Ra u ∧ (iv (-2) 2 r))) 0 0 (fun q => base ≤ q) := by
  refine tw_ofW (L := Lt_X11_plan) (LR := LRt_X11_plan) (by decide) (Nat.le_of_ble_eq_true rfl) hTy ?_
  intro p e s m args below meth c Q ls hx hb hr hlocks hown hml hW hK hT hS hQ hl
  have hl : lv_has ls 5 [(0, .ref (base + a0)), (1, .int a1), (2, .int a2), (3, .int a3)] := hl
  obtain ⟨hz_st, hk_st, hn_st⟩ := hTy.refn hz_a0 hk_a0 (show rtR 11 3 = (10, 0, 0) from rfl) k_st
  obtain ⟨hz_pl, hk_pl, hn_pl⟩ := hTy.refn hz_a0 hk_a0 (show rtR 11 11 = (7, 0, 0) from rfl) k_pl
  refine lv_aload_n hx hb dX11_plan_0 rfl (lv_at hl 0 rfl) ?_
  refine lv_iload_n hx hb dX11_plan_1 rfl (lv_at hl 1 rfl) ?_
  obtain ⟨x3, k1⟩ : ∃ x, Ma st 7 = x := ⟨_, rfl⟩
  have h2 : iv 0 8 x3 := by rw [← k1]; exact hS.2.1.int hz_st hk_st (show rgI 10 7 = (0, 8) from rfl)
  refine tw_goi hS (md_runV (As := [.int a1]) (rest := []) hx hb hml hown hW hK hT hS.1 (t_X11_mayThrow l D cy tx base Z K N Ma Ra Ja hS.2.1 a0 hz_a0 hk_a0 a1 h_a1 st k_st x3 k1 (iv_mono h2 (by decide) (by decide))) s_X11_226 ⟨rfl, rfl, ⟨Nat.le_of_ble_eq_true rfl, Nat.le_of_ble_eq_true rfl⟩, ⟨Nat.le_of_ble_eq_true rfl, Nat.le_of_ble_eq_true rfl⟩⟩ hz_a0 hk_a0 (by decide) rfl rfl hl.1 rfl (Nat.le_of_ble_eq_true rfl) dX11_plan_2) rfl rfl (fun x10 H locs M7 R8 J6 hS f4 g5 E9 => ?_)
  have eM7 := Fr.nil f4 rfl
  subst eM7
  have eR8 := Fr.nil g5 rfl
  subst eR8
  obtain ⟨h_x10, p11⟩ := E9
  have J34_12 : ∀  (M12 : MT) (R13 : RT) (J14 : JT) (H : Heap) (locs : List Loc) (ls : Array Slot) (hS : SB D cy base Z K N Lt_X11_plan LRt_X11_plan Ma Ra M12 R13 J14 s H locs) (hl : lv_has ls 5 [(0, .ref (base + a0)), (1, .int a1), (2, .int a2), (3, .int a3)]), W p l e (md_rm 15 0 0) s m args below meth c H locs 0 0 Q (F0 m 34 ls []) := by
    intro  M12 R13 J14 H locs ls  hS hl
    have f15 := hS.2.2.1
    have g16 := hS.2.2.2
    refine lv_iconst (v := 0) hx hb dX11_plan_34 (by decide) ?_
    refine lv_istore (lv' := [(4, .int 0), (0, .ref (base + a0)), (1, .int a1), (2, .int a2), (3, .int a3)]) hx hb dX11_plan_35 hl (by decide) rfl (fun ls hl => ?_)
    refine lv_iload hx hb dX11_plan_37 (lv_at hl 0 rfl) ?_
    refine lv_if_eq (tgt := 50) hx hb dX11_plan_39 (by decide) (fun _ => ?_) (fun h => absurd h (by decide))
    refine lv_iconst (v := (-1)) hx hb dX11_plan_50 (by decide) ?_
    exact tw_endi hx hb hr hlocks hK hT hS hQ ((iv_mono (iv_c (c := (-1)) (n := (-1)) (by decide)) (by decide) (by decide))) dX11_plan_51
  refine lv_if_eq (tgt := 34) hx hb dX11_plan_5 (by decide) (fun c17 => ?_) (fun c17 => ?_)
  · have q18 : x10.toInt = 0 := ti_eq c17
    have h19 : iv 0 0 x10 := ⟨by have := (h_x10).1; have := ((iv_c (c := 0) (n := 0) (by decide))).1; omega, by have := (h_x10).2; have := ((iv_c (c := 0) (n := 0) (by decide))).2; omega⟩
    exact J34_12  Ma Ra J6 H locs _  hS hl
  · have q20 : ¬ x10.toInt = 0 := ti_ne c17
    have h21 : iv 1 1 x10 := ⟨by have := (h_x10).1; have := ((iv_c (c := 0) (n := 0) (by decide))).1; have := ((iv_c (c := 0) (n := 0) (by decide))).2; omega, by have := (h_x10).2; have := ((iv_c (c := 0) (n := 0) (by decide))).1; have := ((iv_c (c := 0) (n := 0) (by decide))).2; omega⟩
    have h22 : iv 1 4 x3 := ⟨by have := (p11 c17).1; have := (h2).1; omega, by have := (p11 c17).2; have := (h2).2; omega⟩
    refine lv_aload_n hx hb dX11_plan_8 rfl (lv_at hl 0 rfl) ?_
    refine tw_getrk hx hb hW hown hK hS f_X11_31_10 hz_a0 hk_a0 (b := st) k_st dX11_plan_9 ?_
    refine lv_iload_n hx hb dX11_plan_12 rfl (lv_at hl 2 rfl) ?_
    refine tw_goi hS (md_runV (As := [.int a2]) (rest := []) hx hb hml hown hW hK hT hS.1 (t_X9_hasPlace l D cy tx base Z K N Ma Ra J6 hS.2.1 st hz_st hk_st a2 h_a2 x3 k1 (iv_mono h22 (by decide) (by decide))) s_X11_208 ⟨rfl, rfl, ⟨Nat.le_of_ble_eq_true rfl, Nat.le_of_ble_eq_true rfl⟩, ⟨Nat.le_of_ble_eq_true rfl, Nat.le_of_ble_eq_true rfl⟩⟩ hz_st hk_st (by decide) rfl rfl hl.1 rfl (Nat.le_of_ble_eq_true rfl) dX11_plan_13) rfl rfl (fun x29 H locs M26 R27 J25 hS f23 g24 E28 => ?_)
    have eM26 := Fr.nil f23 rfl
    subst eM26
    have eR27 := Fr.nil g24 rfl
    subst eR27
    obtain ⟨h_x29, p30, p31⟩ := E28
    refine lv_if_eq (tgt := 34) hx hb dX11_plan_16 (by decide) (fun c32 => ?_) (fun c32 => ?_)
    · have q33 : x29.toInt = 0 := ti_eq c32
      have h34 : iv 0 0 x29 := ⟨by have := (h_x29).1; have := ((iv_c (c := 0) (n := 0) (by decide))).1; omega, by have := (h_x29).2; have := ((iv_c (c := 0) (n := 0) (by decide))).2; omega⟩
      exact J34_12  Ma Ra J25 H locs _  hS hl
    · have q35 : ¬ x29.toInt = 0 := ti_ne c32
      have h36 : iv 1 1 x29 := ⟨by have := (h_x29).1; have := ((iv_c (c := 0) (n := 0) (by decide))).1; have := ((iv_c (c := 0) (n := 0) (by decide))).2; omega, by have := (h_x29).2; have := ((iv_c (c := 0) (n := 0) (by decide))).1; have := ((iv_c (c := 0) (n := 0) (by decide))).2; omega⟩
      have h37 : iv 0 7 a2 := ⟨by have := (p30 c32).1; have := (h_a2).1; omega, by have := (p30 c32).2; have := (h_a2).2; omega⟩
      have q38 := p31 c32
      have h39 : iv 0 3 a2 := iv_ltL (y := x3) h37 h22 q38 (by decide)
      refine lv_aload_n hx hb dX11_plan_19 rfl (lv_at hl 0 rfl) ?_
      refine tw_getrk hx hb hW hown hK hS f_X11_31_10 hz_a0 hk_a0 (b := st) k_st dX11_plan_20 ?_
      refine lv_iload_n hx hb dX11_plan_23 rfl (lv_at hl 3 rfl) ?_
      refine tw_goi hS (md_runV (As := [.int a3]) (rest := []) hx hb hml hown hW hK hT hS.1 (t_X9_hasMember l D cy tx base Z K N Ma Ra J25 hS.2.1 st hz_st hk_st a3 h_a3) s_X11_132 ⟨rfl, rfl, ⟨Nat.le_of_ble_eq_true rfl, Nat.le_of_ble_eq_true rfl⟩, ⟨Nat.le_of_ble_eq_true rfl, Nat.le_of_ble_eq_true rfl⟩⟩ hz_st hk_st (by decide) rfl rfl hl.1 rfl (Nat.le_of_ble_eq_true rfl) dX11_plan_24) rfl rfl (fun x46 H locs M43 R44 J42 hS f40 g41 E45 => ?_)
      have eM43 := Fr.nil f40 rfl
      subst eM43
      have eR44 := Fr.nil g41 rfl
      subst eR44
      obtain ⟨h_x46, p47⟩ := E45
      refine lv_if_eq (tgt := 34) hx hb dX11_plan_27 (by decide) (fun c48 => ?_) (fun c48 => ?_)
      · have q49 : x46.toInt = 0 := ti_eq c48
        have h50 : iv 0 0 x46 := ⟨by have := (h_x46).1; have := ((iv_c (c := 0) (n := 0) (by decide))).1; omega, by have := (h_x46).2; have := ((iv_c (c := 0) (n := 0) (by decide))).2; omega⟩
        exact J34_12  Ma Ra J42 H locs _  hS hl
      · have q51 : ¬ x46.toInt = 0 := ti_ne c48
        have h52 : iv 1 1 x46 := ⟨by have := (h_x46).1; have := ((iv_c (c := 0) (n := 0) (by decide))).1; have := ((iv_c (c := 0) (n := 0) (by decide))).2; omega, by have := (h_x46).2; have := ((iv_c (c := 0) (n := 0) (by decide))).1; have := ((iv_c (c := 0) (n := 0) (by decide))).2; omega⟩
        have h53 : iv 0 9 a3 := ⟨by have := (p47 c48).1; have := (h_a3).1; omega, by have := (p47 c48).2; have := (h_a3).2; omega⟩
        refine lv_iconst (v := 1) hx hb dX11_plan_30 (by decide) ?_
        refine lv_goto (tgt := 35) hx hb dX11_plan_31 (by decide) ?_
        refine lv_istore (lv' := [(4, .int 1), (0, .ref (base + a0)), (1, .int a1), (2, .int a2), (3, .int a3)]) hx hb dX11_plan_35 hl (by decide) rfl (fun ls hl => ?_)
        refine lv_iload hx hb dX11_plan_37 (lv_at hl 0 rfl) ?_
        refine lv_if_eq (tgt := 50) hx hb dX11_plan_39 (by decide) (fun h => absurd h (by decide)) (fun _ => ?_)
        refine lv_iload_n hx hb dX11_plan_42 rfl (lv_at hl 2 rfl) ?_
        refine lv_iload_n hx hb dX11_plan_43 rfl (lv_at hl 4 rfl) ?_
        refine lv_ishr hx hb dX11_plan_44 ?_
        refine tw_top (fun x55 => ?_)
        have h54 := iv_any x55
        refine lv_iconst (v := 1) hx hb dX11_plan_45 (by decide) ?_
        refine tw_iand (hi := 1) hx hb (iv_mono (iv_c (c := 1) (n := 1) (by decide)) (lo := 0) (hi := 1) (by decide) (by decide)) (by decide) dX11_plan_46 (fun x58 h56 => ?_)
        refine lv_if_ne (tgt := 52) hx hb dX11_plan_47 (by decide) (fun c59 => ?_) (fun c59 => ?_)
        · have q60 : ¬ x58.toInt = 0 := ti_ne c59
          have h61 : iv 1 1 x58 := ⟨by have := (h56).1; have := ((iv_c (c := 0) (n := 0) (by decide))).1; have := ((iv_c (c := 0) (n := 0) (by decide))).2; omega, by have := (h56).2; have := ((iv_c (c := 0) (n := 0) (by decide))).1; have := ((iv_c (c := 0) (n := 0) (by decide))).2; omega⟩
          refine lv_aload_n hx hb dX11_plan_52 rfl (lv_at hl 1 rfl) ?_
          refine tw_getrk hx hb hW hown hK hS f_X11_69_10 hz_a0 hk_a0 (b := pl) k_pl dX11_plan_53 ?_
          refine lv_iload_n hx hb dX11_plan_56 rfl (lv_at hl 2 rfl) ?_
          refine tw_goi hS (md_runV (As := [.int a1]) (rest := []) hx hb hml hown hW hK hT hS.1 (t_X6_search l D cy tx base Z K N Ma Ra J42 hS.2.1 pl hz_pl hk_pl a1 h_a1 st hw x3 k1 (iv_mono h22 (by decide) (by decide))) s_X11_229 ⟨rfl, rfl, ⟨Nat.le_of_ble_eq_true rfl, Nat.le_of_ble_eq_true rfl⟩, ⟨Nat.le_of_ble_eq_true rfl, Nat.le_of_ble_eq_true rfl⟩⟩ hz_pl hk_pl (by decide) rfl rfl hl.1 rfl (Nat.le_of_ble_eq_true rfl) dX11_plan_57) rfl rfl (fun x68 H locs M65 R66 J64 hS f62 g63 E67 => ?_)
          obtain ⟨h_x68, p69⟩ := E67
          obtain ⟨x72, k70, h71⟩ := p69
          have k70 : M65 pl 13 = x72 := k70
          refine lv_if_eq (tgt := 75) hx hb dX11_plan_60 (by decide) (fun c73 => ?_) (fun c73 => ?_)
          · have q74 : x68.toInt = 0 := ti_eq c73
            have h75 : iv 0 0 x68 := ⟨by have := (h_x68).1; have := ((iv_c (c := 0) (n := 0) (by decide))).1; omega, by have := (h_x68).2; have := ((iv_c (c := 0) (n := 0) (by decide))).2; omega⟩
            refine lv_bipush (v := (-2)) hx hb dX11_plan_75 (by decide) ?_
            exact tw_endi hx hb hr hlocks hK hT hS hQ ((iv_mono (iv_c (c := (-2)) (n := (-2)) (by decide)) (by decide) (by decide))) dX11_plan_77
          · have q76 : ¬ x68.toInt = 0 := ti_ne c73
            have h77 : iv 1 1 x68 := ⟨by have := (h_x68).1; have := ((iv_c (c := 0) (n := 0) (by decide))).1; have := ((iv_c (c := 0) (n := 0) (by decide))).2; omega, by have := (h_x68).2; have := ((iv_c (c := 0) (n := 0) (by decide))).1; have := ((iv_c (c := 0) (n := 0) (by decide))).2; omega⟩
            refine lv_aload_n hx hb dX11_plan_63 rfl (lv_at hl 1 rfl) ?_
            have k78 : R66 a0 11 = some pl := (Fr.kp (k := 11) g63 hk_a0 rfl).trans k_pl
            refine tw_getrk hx hb hW hown hK hS f_X11_69_10 hz_a0 hk_a0 (b := pl) k78 dX11_plan_64 ?_
            refine lv_iload_n hx hb dX11_plan_67 rfl (lv_at hl 3 rfl) ?_
            refine lv_iload_n hx hb dX11_plan_68 rfl (lv_at hl 4 rfl) ?_
            refine tw_goi hS (md_runV (As := [.int a2, .int a3]) (rest := []) hx hb hml hown hW hK hT hS.1 (t_X6_sayingAt l D cy tx base Z K N M65 R66 J64 hS.2.1 pl hz_pl hk_pl a2 h39 a3 h53) s_X11_235 ⟨rfl, rfl, ⟨Nat.le_of_ble_eq_true rfl, Nat.le_of_ble_eq_true rfl⟩, ⟨Nat.le_of_ble_eq_true rfl, Nat.le_of_ble_eq_true rfl⟩⟩ hz_pl hk_pl (by decide) rfl rfl hl.1 rfl (Nat.le_of_ble_eq_true rfl) dX11_plan_69) rfl rfl (fun x85 H locs M82 R83 J81 hS f79 g80 E84 => ?_)
            have eM82 := Fr.nil f79 rfl
            subst eM82
            have eR83 := Fr.nil g80 rfl
            subst eR83
            have h_x85 := E84
            clear E84
            refine lv_goto (tgt := 77) hx hb dX11_plan_72 (by decide) ?_
            exact tw_endi hx hb hr hlocks hK hT hS hQ ((iv_mono h_x85 (by decide) (by decide))) dX11_plan_77
        · have q86 : x58.toInt = 0 := ti_eq c59
          have h87 : iv 0 0 x58 := ⟨by have := (h56).1; have := ((iv_c (c := 0) (n := 0) (by decide))).1; omega, by have := (h56).2; have := ((iv_c (c := 0) (n := 0) (by decide))).2; omega⟩
          refine lv_iconst (v := (-1)) hx hb dX11_plan_50 (by decide) ?_
          exact tw_endi hx hb hr hlocks hK hT hS hQ ((iv_mono (iv_c (c := (-1)) (n := (-1)) (by decide)) (by decide) (by decide))) dX11_plan_51
def Lt_X3_keep : WL := [(14, 0, 2000000)]
def LRt_X3_keep : WL := []
set_option maxRecDepth 100000 in
set_option maxHeartbeats 4000000 in
theorem t_X3_keep (l : Launch) (D : va_G) (cy : Nat → ClassId) (tx : (Nat → Nat) × (Nat → Nat)) (base Z : Nat) (K N : Nat → Nat) (Ma : MT) (Ra : RT) (Ja : JT) (hTy : Ty Z K N Ma Ra) (a0 : Nat) (hz_a0 : a0 < Z) (hk_a0 : K a0 = 4) (a1 : Int32) (h_a1 : iv 0 300 a1) : Met l yX3_keep [Cond.code yX3_keep cX3_keep 2 none] (md_rm 1 0 0) (va_Pc [.ref (base + a0), .int a1] (md_U D cy tx base Z K N Ma Ra Ja)) (mQv D cy tx base (fun u => TP Z K N Lt_X3_keep LRt_X3_keep Ma Ra u ∧ (True))) 0 0 (fun q => base ≤ q) := by
  refine tw_ofW (L := Lt_X3_keep) (LR := LRt_X3_keep) (by decide) (Nat.le_of_ble_eq_true rfl) hTy ?_
  intro p e s m args below meth c Q ls hx hb hr hlocks hown hml hW hK hT hS hQ hl
  have hl : lv_has ls 2 [(0, .ref (base + a0)), (1, .int a1)] := hl
  refine lv_aload_n hx hb dX3_keep_0 rfl (lv_at hl 0 rfl) ?_
  refine tw_getr hx hb hW hown hK hS f_X3_9_3 hz_a0 hk_a0 (t := 20) (n := 10) rfl dX3_keep_1 (fun b1 k2 hz_b1 hk_b1 hn_b1 => ?_)
  have hn_b1 := hn_b1 (by decide)
  refine lv_iconst (v := 0) hx hb dX3_keep_4 (by decide) ?_
  refine lv_aload_n hx hb dX3_keep_5 rfl (lv_at hl 0 rfl) ?_
  refine tw_getr hx hb hW hown hK hS f_X3_15_3 hz_a0 hk_a0 (t := 14) (n := 3010) rfl dX3_keep_6 (fun b3 k4 hz_b3 hk_b3 hn_b3 => ?_)
  have hn_b3 := hn_b3 (by decide)
  refine lv_iload_n hx hb dX3_keep_9 rfl (lv_at hl 1 rfl) ?_
  refine lv_bipush (v := 10) hx hb dX3_keep_10 (by decide) ?_
  refine tw_imulc (k := 10) (lo := 0) (hi := 3000) hx hb h_a1 (by decide) (by decide) ⟨by decide, by decide⟩ ⟨by decide, by decide⟩ dX3_keep_12 (fun x7 e6 h5 => ?_)
  refine lv_bipush (v := 10) hx hb dX3_keep_13 (by decide) ?_
  refine tw_copy hx hb (hml.trans hl.1.symm) hW hown hK hS (md_okc w_4_230 rfl (md_okc w_3_226 rfl (md_okc w_3_225 rfl (md_okc w_1_18 rfl (md_ok0))))) hz_b3 hk_b3 (Or.inl rfl) hz_b1 hk_b1 (Or.inr (by decide)) hn_b3 hn_b1 (by have := (h_a1).1; have := (h_a1).2; have := ((iv_c (c := 10) (n := 10) (by decide))).1; have := ((iv_c (c := 10) (n := 10) (by decide))).2; have := (h5).1; have := (h5).2; have := ((iv_c (c := 0) (n := 0) (by decide))).1; have := ((iv_c (c := 0) (n := 0) (by decide))).2; omega) (by have := (h_a1).1; have := (h_a1).2; have := ((iv_c (c := 10) (n := 10) (by decide))).1; have := ((iv_c (c := 10) (n := 10) (by decide))).2; have := (h5).1; have := (h5).2; have := ((iv_c (c := 0) (n := 0) (by decide))).1; have := ((iv_c (c := 0) (n := 0) (by decide))).2; omega) (by have := (h_a1).1; have := (h_a1).2; have := ((iv_c (c := 10) (n := 10) (by decide))).1; have := ((iv_c (c := 10) (n := 10) (by decide))).2; have := (h5).1; have := (h5).2; have := ((iv_c (c := 0) (n := 0) (by decide))).1; have := ((iv_c (c := 0) (n := 0) (by decide))).2; omega) (by have := (h_a1).1; have := (h_a1).2; have := ((iv_c (c := 10) (n := 10) (by decide))).1; have := ((iv_c (c := 10) (n := 10) (by decide))).2; have := (h5).1; have := (h5).2; have := ((iv_c (c := 0) (n := 0) (by decide))).1; have := ((iv_c (c := 0) (n := 0) (by decide))).2; omega) (by have := (h_a1).1; have := (h_a1).2; have := ((iv_c (c := 10) (n := 10) (by decide))).1; have := ((iv_c (c := 10) (n := 10) (by decide))).2; have := (h5).1; have := (h5).2; have := ((iv_c (c := 0) (n := 0) (by decide))).1; have := ((iv_c (c := 0) (n := 0) (by decide))).2; omega) (fun _ _ => ⟨by show (-2147483648 : Int) ≤ -2147483648; decide, by show (2147483647 : Int) ≤ 2147483647; decide⟩) (Nat.le_of_ble_eq_true rfl) (Nat.le_of_ble_eq_true rfl) rfl dX3_keep_15 (fun H locs M10 hS f8 k9 => ?_)
  exact tw_endv hx hb hr hlocks hK hT hS hQ (trivial) dX3_keep_18
