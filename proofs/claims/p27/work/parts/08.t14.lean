def Lt_X12_rounds : WL := [(12, 23, 24), (12, 28, 29), (12, 30, 33), (12, 35, 37), (14, 0, 2000000), (30, 0, 2000000), (31, 0, 2000000)]
def LRt_X12_rounds : WL := []
set_option maxRecDepth 100000 in
set_option maxHeartbeats 4000000 in
theorem t_X12_rounds (l : Launch) (D : va_G) (cy : Nat → ClassId) (tx : (Nat → Nat) × (Nat → Nat)) (base Z : Nat) (K N : Nat → Nat) (Ma : MT) (Ra : RT) (Ja : JT) (hTy : Ty Z K N Ma Ra) (a0 : Nat) (hz_a0 : a0 < Z) (hk_a0 : K a0 = 12) (a1 : Int32) (h_a1 : iv (-2147483648) 2147483647 a1) (co_a0 : Codes Ma Ra a0) : Met l yX12_rounds [Cond.code yX12_rounds cX12_rounds 4 (some .int)] (md_rm 5 0 0) (va_Pc [.ref (base + a0), .int a1] (md_U D cy tx base Z K N Ma Ra Ja)) (mQi D cy tx base (fun r u => TP Z K N Lt_X12_rounds LRt_X12_rounds Ma Ra u ∧ (iv (-2147483648) 2147483647 r))) 0 0 (fun q => base ≤ q) := by
  refine tw_ofW (L := Lt_X12_rounds) (LR := LRt_X12_rounds) (by decide) (Nat.le_of_ble_eq_true rfl) hTy ?_
  intro p e s m args below meth c Q ls hx hb hr hlocks hown hml hW hK hT hS hQ hl
  have hl : lv_has ls 4 [(0, .ref (base + a0)), (1, .int a1)] := hl
  refine lv_aload_n hx hb dX12_rounds_0 rfl (lv_at hl 0 rfl) ?_
  refine tw_getr hx hb hW hown hK hS f_X12_45_11 hz_a0 hk_a0 (t := 23) (n := 226) rfl dX12_rounds_1 (fun b1 k2 hz_b1 hk_b1 hn_b1 => ?_)
  have hn_b1 := hn_b1 (by decide)
  refine lv_iconst (v := 4) hx hb dX12_rounds_4 (by decide) ?_
  refine tw_iald hx hb hK hS hz_b1 hk_b1 (Or.inr (by decide)) hn_b1 (lo := 0) (hi := 8) (iv_c (c := 4) (n := 4) (by decide)) ⟨by decide, by decide⟩ (rg_c (k0 := 4) rfl rfl rfl) dX12_rounds_5 (fun x5 k4 h3 => ?_)
  refine lv_if_eq (tgt := 31) hx hb dX12_rounds_6 (by decide) (fun c6 => ?_) (fun c6 => ?_)
  · have q7 : x5.toInt = 0 := ti_eq c6
    have h8 : iv 0 0 x5 := ⟨by have := (h3).1; have := ((iv_c (c := 0) (n := 0) (by decide))).1; omega, by have := (h3).2; have := ((iv_c (c := 0) (n := 0) (by decide))).2; omega⟩
    refine lv_iconst (v := (-1)) hx hb dX12_rounds_31 (by decide) ?_
    exact tw_endi hx hb hr hlocks hK hT hS hQ ((iv_mono (iv_c (c := (-1)) (n := (-1)) (by decide)) (by decide) (by decide))) dX12_rounds_32
  · have q9 : ¬ x5.toInt = 0 := ti_ne c6
    have h10 : iv 1 8 x5 := ⟨by have := (h3).1; have := ((iv_c (c := 0) (n := 0) (by decide))).1; have := ((iv_c (c := 0) (n := 0) (by decide))).2; omega, by have := (h3).2; have := ((iv_c (c := 0) (n := 0) (by decide))).1; have := ((iv_c (c := 0) (n := 0) (by decide))).2; omega⟩
    refine lv_iload_n hx hb dX12_rounds_9 rfl (lv_at hl 1 rfl) ?_
    refine lv_i2l hx hb dX12_rounds_10 rfl ?_
    refine lv_lconst (v := 0) hx hb dX12_rounds_11 (by decide) ?_
    refine lv_ldc2 hx hb hown (hW _ w_7_178 rfl) dX12_rounds_12 ?_
    refine tw_goi hS (md_runS (As := [.long a1.toInt64, .long 0, .long 2]) (rest := []) hx hb hml hown hW hK hT hS.1 (t_X12_in l D cy tx base Z K N Ma Ra Ja hS.2.1 (a1.toInt64) (0) (2)) s_X12_155 ⟨rfl, rfl, ⟨Nat.le_of_ble_eq_true rfl, Nat.le_of_ble_eq_true rfl⟩, ⟨Nat.le_of_ble_eq_true rfl, Nat.le_of_ble_eq_true rfl⟩⟩ rfl hl.1 rfl (Nat.le_of_ble_eq_true rfl) dX12_rounds_15) rfl rfl (fun x17 H locs M14 R15 J13 hS f11 g12 E16 => ?_)
    have eM14 := Fr.nil f11 rfl
    subst eM14
    have eR15 := Fr.nil g12 rfl
    subst eR15
    obtain ⟨h_x17, p18⟩ := E16
    refine lv_if_ne (tgt := 33) hx hb dX12_rounds_18 (by decide) (fun c19 => ?_) (fun c19 => ?_)
    · have q20 : ¬ x17.toInt = 0 := ti_ne c19
      have h21 : iv 1 1 x17 := ⟨by have := (h_x17).1; have := ((iv_c (c := 0) (n := 0) (by decide))).1; have := ((iv_c (c := 0) (n := 0) (by decide))).2; omega, by have := (h_x17).2; have := ((iv_c (c := 0) (n := 0) (by decide))).1; have := ((iv_c (c := 0) (n := 0) (by decide))).2; omega⟩
      have h22 : iv 0 2 a1 := in2iv (p18 c19) ((jv_c (x := 0) (n := 0) (by decide))).1 ((jv_c (x := 2) (n := 2) (by decide))).2
      refine lv_aload_n hx hb dX12_rounds_33 rfl (lv_at hl 0 rfl) ?_
      refine tw_gov hS (md_runV (As := []) (rest := []) hx hb hml hown hW hK hT hS.1 (t_X12_begins l D cy tx base Z K N Ma Ra J13 hS.2.1 a0 hz_a0 hk_a0 b1 k2 x5 k4 (iv_mono h10 (by decide) (by decide))) s_X12_393 ⟨rfl, rfl, ⟨Nat.le_of_ble_eq_true rfl, Nat.le_of_ble_eq_true rfl⟩, ⟨Nat.le_of_ble_eq_true rfl, Nat.le_of_ble_eq_true rfl⟩⟩ hz_a0 hk_a0 (by decide) rfl rfl hl.1 rfl (Nat.le_of_ble_eq_true rfl) dX12_rounds_34) rfl rfl (fun H locs M26 R27 J25 hS f23 g24 E28 => ?_)
      have eR27 := Fr.nil g24 rfl
      subst eR27
      have p29 := E28
      have k30 : M26 a0 30 = x5 := p29
      refine lv_aload_n hx hb dX12_rounds_37 rfl (lv_at hl 0 rfl) ?_
      refine lv_iconst (v := 0) hx hb dX12_rounds_38 (by decide) ?_
      refine tw_puti hx hb hW hown hK hS f_X12_407_11 hz_a0 hk_a0 rfl rfl (lo := (-2147483648)) (hi := 2147483647) rfl (iv_mono (iv_c (c := 0) (n := 0) (by decide)) (by decide) (by decide)) rfl dX12_rounds_39 (fun H locs M33 hS k31 f32 => ?_)
      refine lv_aload_n hx hb dX12_rounds_42 rfl (lv_at hl 0 rfl) ?_
      refine lv_iconst (v := 0) hx hb dX12_rounds_43 (by decide) ?_
      refine tw_gov hS (md_runV (As := [.int 0]) (rest := []) hx hb hml hown hW hK hT hS.1 (t_X12_keepsDay l D cy tx base Z K N M33 Ra J25 hS.2.1 a0 hz_a0 hk_a0 0 (iv_mono (iv_c (c := 0) (n := 0) (by decide)) (by decide) (by decide))) s_X12_478 ⟨rfl, rfl, ⟨Nat.le_of_ble_eq_true rfl, Nat.le_of_ble_eq_true rfl⟩, ⟨Nat.le_of_ble_eq_true rfl, Nat.le_of_ble_eq_true rfl⟩⟩ hz_a0 hk_a0 (by decide) rfl rfl hl.1 rfl (Nat.le_of_ble_eq_true rfl) dX12_rounds_44) rfl rfl (fun H locs M37 R38 J36 hS f34 g35 E39 => ?_)
      have eR38 := Fr.nil g35 rfl
      subst eR38
      refine lv_iconst (v := 1) hx hb dX12_rounds_47 (by decide) ?_
      refine lv_istore_n (lv' := [(2, .int 1), (0, .ref (base + a0)), (1, .int a1)]) hx hb dX12_rounds_48 rfl hl (by decide) rfl (fun ls hl => ?_)
      have W49_41 : ∀ (n_41 : Nat) (x40 : Int32) (M41 : MT) (R42 : RT) (J43 : JT) (H : Heap) (locs : List Loc) (ls : Array Slot) (h_x40 : iv 1 301 x40) (hm_41 : 301 - x40.toInt < (n_41 : Int)) (hS : SB D cy base Z K N Lt_X12_rounds LRt_X12_rounds Ma Ra M41 R42 J43 s H locs) (hl : lv_has ls 4 [(2, .int x40), (0, .ref (base + a0)), (1, .int a1)]), W p l e (md_rm 5 0 0) s m args below meth c H locs 0 0 Q (F0 m 49 ls []) := by
        intro n_41
        induction n_41 with
        | zero =>
          intro x40 M41 R42 J43 H locs ls h_x40 hm_41 hS hl
          exfalso
          have := (h22).1; have := (h22).2; have := (h_x40).1; have := (h_x40).2; omega
        | succ n_41 ih_41 =>
          intro x40 M41 R42 J43 H locs ls h_x40 hm_41 hS hl
          have f44 := hS.2.2.1
          have g45 := hS.2.2.2
          refine lv_iload_n hx hb dX12_rounds_49 rfl (lv_at hl 0 rfl) ?_
          refine lv_sipush (v := 300) hx hb dX12_rounds_50 (by decide) ?_
          refine lv_icmp_gt (tgt := 210) hx hb dX12_rounds_53 (by decide) (fun c46 => ?_) (fun c46 => ?_)
          · have q47 : 300 < x40.toInt := ti_lt c46
            have h48 : iv 301 301 x40 := iv_gtL (y := 300) h_x40 (iv_c (c := 300) (n := 300) (by decide)) q47 (by decide)
            refine lv_bipush (v := (-2)) hx hb dX12_rounds_210 (by decide) ?_
            exact tw_endi hx hb hr hlocks hK hT hS hQ ((iv_mono (iv_c (c := (-2)) (n := (-2)) (by decide)) (by decide) (by decide))) dX12_rounds_212
          · have q49 : x40.toInt ≤ 300 := ti_nlt c46
            have h50 : iv 1 300 x40 := iv_leL (y := 300) h_x40 (iv_c (c := 300) (n := 300) (by decide)) q49 (by decide)
            refine lv_iconst (v := 0) hx hb dX12_rounds_56 (by decide) ?_
            refine lv_istore_n (lv' := [(3, .int 0), (2, .int x40), (0, .ref (base + a0)), (1, .int a1)]) hx hb dX12_rounds_57 rfl hl (by decide) rfl (fun ls hl => ?_)
            have W58_52 : ∀ (n_52 : Nat) (x51 : Int32) (M52 : MT) (R53 : RT) (J54 : JT) (H : Heap) (locs : List Loc) (ls : Array Slot) (h_x51 : iv 0 8 x51) (hm_52 : 8 - x51.toInt < (n_52 : Int)) (hS : SB D cy base Z K N Lt_X12_rounds LRt_X12_rounds Ma Ra M52 R53 J54 s H locs) (hl : lv_has ls 4 [(3, .int x51), (2, .int x40), (0, .ref (base + a0)), (1, .int a1)]), W p l e (md_rm 5 0 0) s m args below meth c H locs 0 0 Q (F0 m 58 ls []) := by
              intro n_52
              induction n_52 with
              | zero =>
                intro x51 M52 R53 J54 H locs ls h_x51 hm_52 hS hl
                exfalso
                have := (h22).1; have := (h22).2; have := (h_x51).1; have := (h_x51).2; omega
              | succ n_52 ih_52 =>
                intro x51 M52 R53 J54 H locs ls h_x51 hm_52 hS hl
                have f55 := hS.2.2.1
                have g56 := hS.2.2.2
                refine lv_iload_n hx hb dX12_rounds_58 rfl (lv_at hl 0 rfl) ?_
                refine lv_aload_n hx hb dX12_rounds_59 rfl (lv_at hl 2 rfl) ?_
                refine tw_geti hx hb hW hown hK hS f_X12_351_11 hz_a0 hk_a0 (lo := 0) (hi := 8) rfl dX12_rounds_60 (fun x59 k58 h57 => ?_)
                refine lv_icmp_ge (tgt := 108) hx hb dX12_rounds_63 (by decide) (fun c60 => ?_) (fun c60 => ?_)
                · have q61 : x59.toInt ≤ x51.toInt := ti_le c60
                  refine lv_aload_n hx hb dX12_rounds_108 rfl (lv_at hl 2 rfl) ?_
                  refine lv_iload_n hx hb dX12_rounds_109 rfl (lv_at hl 1 rfl) ?_
                  refine tw_gov hS (md_runV (As := [.int x40]) (rest := []) hx hb hml hown hW hK hT hS.1 (t_X12_keepsDay l D cy tx base Z K N M52 R53 J54 hS.2.1 a0 hz_a0 hk_a0 x40 (iv_mono h50 (by decide) (by decide))) s_X12_478 ⟨rfl, rfl, ⟨Nat.le_of_ble_eq_true rfl, Nat.le_of_ble_eq_true rfl⟩, ⟨Nat.le_of_ble_eq_true rfl, Nat.le_of_ble_eq_true rfl⟩⟩ hz_a0 hk_a0 (by decide) rfl rfl hl.1 rfl (Nat.le_of_ble_eq_true rfl) dX12_rounds_110) rfl rfl (fun H locs M65 R66 J64 hS f62 g63 E67 => ?_)
                  have eR66 := Fr.nil g63 rfl
                  subst eR66
                  refine lv_iconst (v := 0) hx hb dX12_rounds_113 (by decide) ?_
                  refine lv_istore_n (lv' := [(3, .int 0), (2, .int x40), (0, .ref (base + a0)), (1, .int a1)]) hx hb dX12_rounds_114 rfl hl (by decide) rfl (fun ls hl => ?_)
                  have W115_69 : ∀ (n_69 : Nat) (x68 : Int32) (M69 : MT) (R70 : RT) (J71 : JT) (H : Heap) (locs : List Loc) (ls : Array Slot) (h_x68 : iv 0 300 x68) (hm_69 : 300 - x68.toInt < (n_69 : Int)) (hS : SB D cy base Z K N Lt_X12_rounds LRt_X12_rounds Ma Ra M69 R70 J71 s H locs) (hl : lv_has ls 4 [(3, .int x68), (2, .int x40), (0, .ref (base + a0)), (1, .int a1)]), W p l e (md_rm 5 0 0) s m args below meth c H locs 0 0 Q (F0 m 115 ls []) := by
                    intro n_69
                    induction n_69 with
                    | zero =>
                      intro x68 M69 R70 J71 H locs ls h_x68 hm_69 hS hl
                      exfalso
                      have := (h22).1; have := (h22).2; have := (h_x68).1; have := (h_x68).2; omega
                    | succ n_69 ih_69 =>
                      intro x68 M69 R70 J71 H locs ls h_x68 hm_69 hS hl
                      have f72 := hS.2.2.1
                      have g73 := hS.2.2.2
                      refine lv_iload_n hx hb dX12_rounds_115 rfl (lv_at hl 0 rfl) ?_
                      refine lv_iload_n hx hb dX12_rounds_116 rfl (lv_at hl 1 rfl) ?_
                      refine lv_icmp_ge (tgt := 204) hx hb dX12_rounds_117 (by decide) (fun c74 => ?_) (fun c74 => ?_)
                      · have q75 : x40.toInt ≤ x68.toInt := ti_le c74
                        have h76 : iv 1 300 x68 := iv_geL (y := x40) h_x68 h50 q75 (by decide)
                        refine tw_iinc (lv' := fun x79 => [(2, .int x79), (3, .int x68), (0, .ref (base + a0)), (1, .int a1)]) (lo := 2) (hi := 301) hx hb dX12_rounds_204 hl (k := 1) rfl h50 (by decide) ⟨by decide, by decide⟩ ⟨by decide, by decide⟩ (by decide) (fun _ => rfl) (fun x79 ls e78 h77 hl => ?_)
                        refine lv_goto (tgt := 49) hx hb dX12_rounds_207 (by decide) ?_
                        have hm80 : 301 - x79.toInt < (n_41 : Int) := by
                          have := (h22).1; have := (h22).2; have := (h50).1; have := (h50).2; have := (h77).1; have := (h77).2; omega
                        exact ih_41 x79 M69 R70 J71 H locs _ (iv_mono h77 (by decide) (by decide)) hm80 hS (lv_sub hl [0, 2, 3] rfl)
                      · have q81 : x68.toInt < x40.toInt := ti_nle c74
                        have h82 : iv 0 299 x68 := iv_ltL (y := x40) h_x68 h50 q81 (by decide)
                        refine lv_aload_n hx hb dX12_rounds_120 rfl (lv_at hl 2 rfl) ?_
                        refine lv_iload_n hx hb dX12_rounds_121 rfl (lv_at hl 1 rfl) ?_
                        refine lv_iload_n hx hb dX12_rounds_122 rfl (lv_at hl 0 rfl) ?_
                        refine tw_goi hS (md_runV (As := [.int x40, .int x68]) (rest := []) hx hb hml hown hW hK hT hS.1 (t_X12_isAgain l D cy tx base Z K N M69 R70 J71 hS.2.1 a0 hz_a0 hk_a0 x40 h50 x68 (iv_mono h82 (by decide) (by decide))) s_X12_481 ⟨rfl, rfl, ⟨Nat.le_of_ble_eq_true rfl, Nat.le_of_ble_eq_true rfl⟩, ⟨Nat.le_of_ble_eq_true rfl, Nat.le_of_ble_eq_true rfl⟩⟩ hz_a0 hk_a0 (by decide) rfl rfl hl.1 rfl (Nat.le_of_ble_eq_true rfl) dX12_rounds_123) rfl rfl (fun x89 H locs M86 R87 J85 hS f83 g84 E88 => ?_)
                        have eM86 := Fr.nil f83 rfl
                        subst eM86
                        have eR87 := Fr.nil g84 rfl
                        subst eR87
                        have h_x89 := E88
                        refine lv_if_ne (tgt := 132) hx hb dX12_rounds_126 (by decide) (fun c90 => ?_) (fun c90 => ?_)
                        · have q91 : ¬ x89.toInt = 0 := ti_ne c90
                          have h92 : iv 1 1 x89 := ⟨by have := (h_x89).1; have := ((iv_c (c := 0) (n := 0) (by decide))).1; have := ((iv_c (c := 0) (n := 0) (by decide))).2; omega, by have := (h_x89).2; have := ((iv_c (c := 0) (n := 0) (by decide))).1; have := ((iv_c (c := 0) (n := 0) (by decide))).2; omega⟩
                          refine lv_iload_n hx hb dX12_rounds_132 rfl (lv_at hl 3 rfl) ?_
                          refine lv_iconst (v := 3) hx hb dX12_rounds_133 (by decide) ?_
                          refine lv_icmp_ge (tgt := 170) hx hb dX12_rounds_134 (by decide) (fun c93 => False.elim (by have q : 3 ≤ a1.toInt := ti_le c93; have := (h22).1; have := (h22).2; omega)) (fun c93 => ?_)
                          have q94 : a1.toInt < 3 := ti_nle c93
                          refine lv_iload_n hx hb dX12_rounds_137 rfl (lv_at hl 3 rfl) ?_
                          refine lv_if_ne (tgt := 145) hx hb dX12_rounds_138 (by decide) (fun c95 => ?_) (fun c95 => ?_)
                          · have q96 : ¬ a1.toInt = 0 := ti_ne c95
                            have h97 : iv 1 2 a1 := ⟨by have := (h22).1; have := ((iv_c (c := 0) (n := 0) (by decide))).1; have := ((iv_c (c := 0) (n := 0) (by decide))).2; omega, by have := (h22).2; have := ((iv_c (c := 0) (n := 0) (by decide))).1; have := ((iv_c (c := 0) (n := 0) (by decide))).2; omega⟩
                            refine lv_iload_n hx hb dX12_rounds_145 rfl (lv_at hl 3 rfl) ?_
                            refine lv_iconst (v := 1) hx hb dX12_rounds_146 (by decide) ?_
                            refine lv_icmp_ne (tgt := 156) hx hb dX12_rounds_147 (by decide) (fun c98 => ?_) (fun c98 => ?_)
                            · have q99 : ¬ a1.toInt = 1 := ti_ne c98
                              have h100 : iv 2 2 a1 := ⟨by have := (h97).1; have := ((iv_c (c := 1) (n := 1) (by decide))).1; have := ((iv_c (c := 1) (n := 1) (by decide))).2; omega, by have := (h97).2; have := ((iv_c (c := 1) (n := 1) (by decide))).1; have := ((iv_c (c := 1) (n := 1) (by decide))).2; omega⟩
                              refine lv_aload_n hx hb dX12_rounds_156 rfl (lv_at hl 2 rfl) ?_
                              refine tw_getr hx hb hW hown hK hS f_X12_99_11 hz_a0 hk_a0 (t := 14) (n := 301) rfl dX12_rounds_157 (fun b101 k102 hz_b101 hk_b101 hn_b101 => ?_)
                              have hn_b101 := hn_b101 (by decide)
                              refine lv_iload_n hx hb dX12_rounds_160 rfl (lv_at hl 1 rfl) ?_
                              refine tw_iald hx hb hK hS hz_b101 hk_b101 (Or.inl rfl) hn_b101 (lo := (-2147483648)) (hi := 2147483647) h50 ⟨by decide, by decide⟩ rg_u14 dX12_rounds_161 (fun x105 k104 h103 => ?_)
                              refine lv_aload_n hx hb dX12_rounds_162 rfl (lv_at hl 2 rfl) ?_
                              refine tw_getrk hx hb hW hown hK hS f_X12_99_11 hz_a0 hk_a0 (b := b101) k102 dX12_rounds_163 ?_
                              refine lv_iload_n hx hb dX12_rounds_166 rfl (lv_at hl 0 rfl) ?_
                              refine tw_iald hx hb hK hS hz_b101 hk_b101 (Or.inl rfl) hn_b101 (lo := (-2147483648)) (hi := 2147483647) h82 ⟨by decide, by decide⟩ rg_u14 dX12_rounds_167 (fun x108 k107 h106 => ?_)
                              refine lv_isub hx hb dX12_rounds_168 ?_
                              refine tw_top (fun x110 => ?_)
                              have h109 := iv_any x110
                              exact tw_endi hx hb hr hlocks hK hT hS hQ (h109) dX12_rounds_169
                            · have q111 : a1.toInt = 1 := ti_eq c98
                              have h112 : iv 1 1 a1 := ⟨by have := (h97).1; have := ((iv_c (c := 1) (n := 1) (by decide))).1; omega, by have := (h97).2; have := ((iv_c (c := 1) (n := 1) (by decide))).2; omega⟩
                              refine lv_iload_n hx hb dX12_rounds_150 rfl (lv_at hl 1 rfl) ?_
                              refine lv_iload_n hx hb dX12_rounds_151 rfl (lv_at hl 0 rfl) ?_
                              refine tw_isub (lo := (-298)) (hi := 300) hx hb h50 h82 ⟨by decide, by decide⟩ ⟨by decide, by decide⟩ dX12_rounds_152 (fun x115 e114 h113 => ?_)
                              refine lv_goto (tgt := 169) hx hb dX12_rounds_153 (by decide) ?_
                              exact tw_endi hx hb hr hlocks hK hT hS hQ ((iv_mono h113 (by decide) (by decide))) dX12_rounds_169
                          · have q116 : a1.toInt = 0 := ti_eq c95
                            have h117 : iv 0 0 a1 := ⟨by have := (h22).1; have := ((iv_c (c := 0) (n := 0) (by decide))).1; omega, by have := (h22).2; have := ((iv_c (c := 0) (n := 0) (by decide))).2; omega⟩
                            refine lv_iload_n hx hb dX12_rounds_141 rfl (lv_at hl 0 rfl) ?_
                            refine lv_goto (tgt := 169) hx hb dX12_rounds_142 (by decide) ?_
                            exact tw_endi hx hb hr hlocks hK hT hS hQ ((iv_mono h82 (by decide) (by decide))) dX12_rounds_169
                        · have q118 : x89.toInt = 0 := ti_eq c90
                          have h119 : iv 0 0 x89 := ⟨by have := (h_x89).1; have := ((iv_c (c := 0) (n := 0) (by decide))).1; omega, by have := (h_x89).2; have := ((iv_c (c := 0) (n := 0) (by decide))).2; omega⟩
                          refine lv_goto (tgt := 198) hx hb dX12_rounds_129 (by decide) ?_
                          refine tw_iinc (lv' := fun x122 => [(3, .int x122), (2, .int x40), (0, .ref (base + a0)), (1, .int a1)]) (lo := 1) (hi := 300) hx hb dX12_rounds_198 hl (k := 0) rfl h82 (by decide) ⟨by decide, by decide⟩ ⟨by decide, by decide⟩ (by decide) (fun _ => rfl) (fun x122 ls e121 h120 hl => ?_)
                          refine lv_goto (tgt := 115) hx hb dX12_rounds_201 (by decide) ?_
                          have hm123 : 300 - x122.toInt < (n_69 : Int) := by
                            have := (h22).1; have := (h22).2; have := (h120).1; have := (h120).2; have := (h82).1; have := (h82).2; omega
                          exact ih_69 x122 M69 R70 J85 H locs _ (iv_mono h120 (by decide) (by decide)) hm123 hS hl
                  have hm124 : 300 - (0 : Int32).toInt < (((301 : Nat) : Int) : Int) := by
                    have := (h22).1; have := (h22).2; have : (0 : Int32).toInt = 0 := (by decide); omega
                  exact W115_69 301 0 M65 R53 J64 H locs _ (iv_mono (iv_c (c := 0) (n := 0) (by decide)) (by decide) (by decide)) hm124 hS hl
                · have q125 : x51.toInt < x59.toInt := ti_nle c60
                  have h126 : iv 0 7 x51 := iv_ltL (y := x59) h_x51 h57 q125 (by decide)
                  have h127 : iv 1 8 x59 := iv_gtL (y := x51) h57 h_x51 q125 (by decide)
                  refine lv_aload_n hx hb dX12_rounds_66 rfl (lv_at hl 2 rfl) ?_
                  refine lv_aload_n hx hb dX12_rounds_67 rfl (lv_at hl 2 rfl) ?_
                  have k128 : R53 a0 25 = some b1 := (Fr.kp (k := 25) g56 hk_a0 rfl).trans k2
                  refine tw_getrk hx hb hW hown hK hS f_X12_45_11 hz_a0 hk_a0 (b := b1) k128 dX12_rounds_68 ?_
                  refine lv_iconst (v := 3) hx hb dX12_rounds_71 (by decide) ?_
                  refine tw_iald hx hb hK hS hz_b1 hk_b1 (Or.inr (by decide)) hn_b1 (lo := (-2147483648)) (hi := 2147483647) (iv_c (c := 3) (n := 3) (by decide)) ⟨by decide, by decide⟩ (rg_c (k0 := 3) rfl rfl rfl) dX12_rounds_72 (fun x131 k130 h129 => ?_)
                  refine tw_puti hx hb hW hown hK hS f_X12_348_11 hz_a0 hk_a0 rfl rfl (lo := (-2147483648)) (hi := 2147483647) rfl h129 rfl dX12_rounds_73 (fun H locs M134 hS k132 f133 => ?_)
                  refine lv_aload_n hx hb dX12_rounds_76 rfl (lv_at hl 2 rfl) ?_
                  refine lv_aload_n hx hb dX12_rounds_77 rfl (lv_at hl 2 rfl) ?_
                  refine tw_getr hx hb hW hown hK hS f_X12_54_11 hz_a0 hk_a0 (t := 31) (n := 8) rfl dX12_rounds_78 (fun b135 k136 hz_b135 hk_b135 hn_b135 => ?_)
                  have hn_b135 := hn_b135 (by decide)
                  refine lv_iload_n hx hb dX12_rounds_81 rfl (lv_at hl 0 rfl) ?_
                  refine tw_iald hx hb hK hS hz_b135 hk_b135 (Or.inr (by decide)) hn_b135 (lo := 0) (hi := 11) h126 ⟨by decide, by decide⟩ rg_u31 dX12_rounds_82 (fun x139 k138 h137 => ?_)
                  refine lv_iload_n hx hb dX12_rounds_83 rfl (lv_at hl 0 rfl) ?_
                  refine tw_gov hS (md_runV (As := [.int x139, .int x51]) (rest := []) hx hb hml hown hW hK hT hS.1 (t_X12_asks l D cy tx base Z K N M134 R53 J54 hS.2.1 a0 hz_a0 hk_a0 x139 h137 x51 (iv_mono h126 (by decide) (by decide)) (Codes.fr co_a0 hTy hz_a0 hk_a0 hS.2.2.1 hS.2.2.2 rfl)) s_X12_396 ⟨rfl, rfl, ⟨Nat.le_of_ble_eq_true rfl, Nat.le_of_ble_eq_true rfl⟩, ⟨Nat.le_of_ble_eq_true rfl, Nat.le_of_ble_eq_true rfl⟩⟩ hz_a0 hk_a0 (by decide) rfl rfl hl.1 rfl (Nat.le_of_ble_eq_true rfl) dX12_rounds_84) rfl rfl (fun H locs M143 R144 J142 hS f140 g141 E145 => ?_)
                  have eR144 := Fr.nil g141 rfl
                  subst eR144
                  refine lv_aload_n hx hb dX12_rounds_87 rfl (lv_at hl 2 rfl) ?_
                  refine lv_iconst (v := 0) hx hb dX12_rounds_88 (by decide) ?_
                  refine lv_aload_n hx hb dX12_rounds_89 rfl (lv_at hl 2 rfl) ?_
                  refine tw_getrk hx hb hW hown hK hS f_X12_54_11 hz_a0 hk_a0 (b := b135) k136 dX12_rounds_90 ?_
                  refine lv_iload_n hx hb dX12_rounds_93 rfl (lv_at hl 0 rfl) ?_
                  have k146 : M143 b135 x51.toNatClampNeg = x139 := (Fr.kpa f140 hk_b135 rfl x51.toNatClampNeg).trans k138
                  refine tw_ialk hx hb hK hS hz_b135 hk_b135 (Or.inr (by decide)) hn_b135 h126 ⟨by decide, by decide⟩ (v := x139) k146 dX12_rounds_94 ?_
                  refine lv_aload_n hx hb dX12_rounds_95 rfl (lv_at hl 2 rfl) ?_
                  refine tw_goi hS (md_runV (As := []) (rest := [.int x139, .int 0, .ref (base + a0)]) hx hb hml hown hW hK hT hS.1 (t_X12_settles_ l D cy tx base Z K N M143 R53 J142 hS.2.1 a0 hz_a0 hk_a0) s_X12_399 ⟨rfl, rfl, ⟨Nat.le_of_ble_eq_true rfl, Nat.le_of_ble_eq_true rfl⟩, ⟨Nat.le_of_ble_eq_true rfl, Nat.le_of_ble_eq_true rfl⟩⟩ hz_a0 hk_a0 (by decide) rfl rfl hl.1 rfl (Nat.le_of_ble_eq_true rfl) dX12_rounds_96) rfl rfl (fun x153 H locs M150 R151 J149 hS f147 g148 E152 => ?_)
                  have eR151 := Fr.nil g148 rfl
                  subst eR151
                  have h_x153 := E152
                  refine tw_gov hS (md_runV (As := [.int 0, .int x139, .int x153]) (rest := []) hx hb hml hown hW hK hT hS.1 (t_X12_counts l D cy tx base Z K N M150 R53 J149 hS.2.1 a0 hz_a0 hk_a0 0 (iv_mono (iv_c (c := 0) (n := 0) (by decide)) (by decide) (by decide)) x139 h137 x153 h_x153) s_X12_413 ⟨rfl, rfl, ⟨Nat.le_of_ble_eq_true rfl, Nat.le_of_ble_eq_true rfl⟩, ⟨Nat.le_of_ble_eq_true rfl, Nat.le_of_ble_eq_true rfl⟩⟩ hz_a0 hk_a0 (by decide) rfl rfl hl.1 rfl (Nat.le_of_ble_eq_true rfl) dX12_rounds_99) rfl rfl (fun H locs M157 R158 J156 hS f154 g155 E159 => ?_)
                  have eR158 := Fr.nil g155 rfl
                  subst eR158
                  refine tw_iinc (lv' := fun x162 => [(3, .int x162), (2, .int x40), (0, .ref (base + a0)), (1, .int a1)]) (lo := 1) (hi := 8) hx hb dX12_rounds_102 hl (k := 0) rfl h126 (by decide) ⟨by decide, by decide⟩ ⟨by decide, by decide⟩ (by decide) (fun _ => rfl) (fun x162 ls e161 h160 hl => ?_)
                  refine lv_goto (tgt := 58) hx hb dX12_rounds_105 (by decide) ?_
                  have hm163 : 8 - x162.toInt < (n_52 : Int) := by
                    have := (h22).1; have := (h22).2; have := (h160).1; have := (h160).2; have := (h126).1; have := (h126).2; omega
                  exact ih_52 x162 M157 R53 J156 H locs _ (iv_mono h160 (by decide) (by decide)) hm163 hS hl
            have hm164 : 8 - (0 : Int32).toInt < (((9 : Nat) : Int) : Int) := by
              have := (h22).1; have := (h22).2; have : (0 : Int32).toInt = 0 := (by decide); omega
            exact W58_52 9 0 M41 R42 J43 H locs _ (iv_mono (iv_c (c := 0) (n := 0) (by decide)) (by decide) (by decide)) hm164 hS hl
      have hm165 : 301 - (1 : Int32).toInt < (((301 : Nat) : Int) : Int) := by
        have := (h22).1; have := (h22).2; have : (1 : Int32).toInt = 1 := (by decide); omega
      exact W49_41 301 1 M37 Ra J36 H locs _ (iv_mono (iv_c (c := 1) (n := 1) (by decide)) (by decide) (by decide)) hm165 hS hl
    · have q166 : x17.toInt = 0 := ti_eq c19
      have h167 : iv 0 0 x17 := ⟨by have := (h_x17).1; have := ((iv_c (c := 0) (n := 0) (by decide))).1; omega, by have := (h_x17).2; have := ((iv_c (c := 0) (n := 0) (by decide))).2; omega⟩
      refine lv_aload_n hx hb dX12_rounds_21 rfl (lv_at hl 0 rfl) ?_
      refine lv_iload_n hx hb dX12_rounds_22 rfl (lv_at hl 1 rfl) ?_
      refine lv_iconst (v := 3) hx hb dX12_rounds_23 (by decide) ?_
      refine lv_isub hx hb dX12_rounds_24 ?_
      refine lv_topi (fun x170 e169 => ?_)
      have h168 := iv_any x170
      refine tw_goi hS (md_runV (As := [.int x170]) (rest := []) hx hb hml hown hW hK hT hS.1 (t_X12_isMember l D cy tx base Z K N Ma Ra J13 hS.2.1 a0 hz_a0 hk_a0 x170 h168) s_X12_319 ⟨rfl, rfl, ⟨Nat.le_of_ble_eq_true rfl, Nat.le_of_ble_eq_true rfl⟩, ⟨Nat.le_of_ble_eq_true rfl, Nat.le_of_ble_eq_true rfl⟩⟩ hz_a0 hk_a0 (by decide) rfl rfl hl.1 rfl (Nat.le_of_ble_eq_true rfl) dX12_rounds_25) rfl rfl (fun x177 H locs M174 R175 J173 hS f171 g172 E176 => ?_)
      have eM174 := Fr.nil f171 rfl
      subst eM174
      have eR175 := Fr.nil g172 rfl
      subst eR175
      obtain ⟨h_x177, p178⟩ := E176
      refine lv_if_ne (tgt := 33) hx hb dX12_rounds_28 (by decide) (fun c179 => ?_) (fun c179 => ?_)
      · have q180 : ¬ x177.toInt = 0 := ti_ne c179
        have h181 : iv 1 1 x177 := ⟨by have := (h_x177).1; have := ((iv_c (c := 0) (n := 0) (by decide))).1; have := ((iv_c (c := 0) (n := 0) (by decide))).2; omega, by have := (h_x177).2; have := ((iv_c (c := 0) (n := 0) (by decide))).1; have := ((iv_c (c := 0) (n := 0) (by decide))).2; omega⟩
        have h182 : iv 0 9 x170 := ⟨by have := (p178 c179).1; have := (h168).1; omega, by have := (p178 c179).2; have := (h168).2; omega⟩
        have h183 := rd_what e169 h182
        refine lv_aload_n hx hb dX12_rounds_33 rfl (lv_at hl 0 rfl) ?_
        refine tw_gov hS (md_runV (As := []) (rest := []) hx hb hml hown hW hK hT hS.1 (t_X12_begins l D cy tx base Z K N Ma Ra J173 hS.2.1 a0 hz_a0 hk_a0 b1 k2 x5 k4 (iv_mono h10 (by decide) (by decide))) s_X12_393 ⟨rfl, rfl, ⟨Nat.le_of_ble_eq_true rfl, Nat.le_of_ble_eq_true rfl⟩, ⟨Nat.le_of_ble_eq_true rfl, Nat.le_of_ble_eq_true rfl⟩⟩ hz_a0 hk_a0 (by decide) rfl rfl hl.1 rfl (Nat.le_of_ble_eq_true rfl) dX12_rounds_34) rfl rfl (fun H locs M187 R188 J186 hS f184 g185 E189 => ?_)
        have eR188 := Fr.nil g185 rfl
        subst eR188
        have p190 := E189
        have k191 : M187 a0 30 = x5 := p190
        refine lv_aload_n hx hb dX12_rounds_37 rfl (lv_at hl 0 rfl) ?_
        refine lv_iconst (v := 0) hx hb dX12_rounds_38 (by decide) ?_
        refine tw_puti hx hb hW hown hK hS f_X12_407_11 hz_a0 hk_a0 rfl rfl (lo := (-2147483648)) (hi := 2147483647) rfl (iv_mono (iv_c (c := 0) (n := 0) (by decide)) (by decide) (by decide)) rfl dX12_rounds_39 (fun H locs M194 hS k192 f193 => ?_)
        refine lv_aload_n hx hb dX12_rounds_42 rfl (lv_at hl 0 rfl) ?_
        refine lv_iconst (v := 0) hx hb dX12_rounds_43 (by decide) ?_
        refine tw_gov hS (md_runV (As := [.int 0]) (rest := []) hx hb hml hown hW hK hT hS.1 (t_X12_keepsDay l D cy tx base Z K N M194 Ra J186 hS.2.1 a0 hz_a0 hk_a0 0 (iv_mono (iv_c (c := 0) (n := 0) (by decide)) (by decide) (by decide))) s_X12_478 ⟨rfl, rfl, ⟨Nat.le_of_ble_eq_true rfl, Nat.le_of_ble_eq_true rfl⟩, ⟨Nat.le_of_ble_eq_true rfl, Nat.le_of_ble_eq_true rfl⟩⟩ hz_a0 hk_a0 (by decide) rfl rfl hl.1 rfl (Nat.le_of_ble_eq_true rfl) dX12_rounds_44) rfl rfl (fun H locs M198 R199 J197 hS f195 g196 E200 => ?_)
        have eR199 := Fr.nil g196 rfl
        subst eR199
        refine lv_iconst (v := 1) hx hb dX12_rounds_47 (by decide) ?_
        refine lv_istore_n (lv' := [(2, .int 1), (0, .ref (base + a0)), (1, .int a1)]) hx hb dX12_rounds_48 rfl hl (by decide) rfl (fun ls hl => ?_)
        have W49_202 : ∀ (n_202 : Nat) (x201 : Int32) (M202 : MT) (R203 : RT) (J204 : JT) (H : Heap) (locs : List Loc) (ls : Array Slot) (h_x201 : iv 1 301 x201) (hm_202 : 301 - x201.toInt < (n_202 : Int)) (hS : SB D cy base Z K N Lt_X12_rounds LRt_X12_rounds Ma Ra M202 R203 J204 s H locs) (hl : lv_has ls 4 [(2, .int x201), (0, .ref (base + a0)), (1, .int a1)]), W p l e (md_rm 5 0 0) s m args below meth c H locs 0 0 Q (F0 m 49 ls []) := by
          intro n_202
          induction n_202 with
          | zero =>
            intro x201 M202 R203 J204 H locs ls h_x201 hm_202 hS hl
            exfalso
            have := (h183).1; have := (h183).2; have := (h_x201).1; have := (h_x201).2; omega
          | succ n_202 ih_202 =>
            intro x201 M202 R203 J204 H locs ls h_x201 hm_202 hS hl
            have f205 := hS.2.2.1
            have g206 := hS.2.2.2
            refine lv_iload_n hx hb dX12_rounds_49 rfl (lv_at hl 0 rfl) ?_
            refine lv_sipush (v := 300) hx hb dX12_rounds_50 (by decide) ?_
            refine lv_icmp_gt (tgt := 210) hx hb dX12_rounds_53 (by decide) (fun c207 => ?_) (fun c207 => ?_)
            · have q208 : 300 < x201.toInt := ti_lt c207
              have h209 : iv 301 301 x201 := iv_gtL (y := 300) h_x201 (iv_c (c := 300) (n := 300) (by decide)) q208 (by decide)
              refine lv_bipush (v := (-2)) hx hb dX12_rounds_210 (by decide) ?_
              exact tw_endi hx hb hr hlocks hK hT hS hQ ((iv_mono (iv_c (c := (-2)) (n := (-2)) (by decide)) (by decide) (by decide))) dX12_rounds_212
            · have q210 : x201.toInt ≤ 300 := ti_nlt c207
              have h211 : iv 1 300 x201 := iv_leL (y := 300) h_x201 (iv_c (c := 300) (n := 300) (by decide)) q210 (by decide)
              refine lv_iconst (v := 0) hx hb dX12_rounds_56 (by decide) ?_
              refine lv_istore_n (lv' := [(3, .int 0), (2, .int x201), (0, .ref (base + a0)), (1, .int a1)]) hx hb dX12_rounds_57 rfl hl (by decide) rfl (fun ls hl => ?_)
              have W58_213 : ∀ (n_213 : Nat) (x212 : Int32) (M213 : MT) (R214 : RT) (J215 : JT) (H : Heap) (locs : List Loc) (ls : Array Slot) (h_x212 : iv 0 8 x212) (hm_213 : 8 - x212.toInt < (n_213 : Int)) (hS : SB D cy base Z K N Lt_X12_rounds LRt_X12_rounds Ma Ra M213 R214 J215 s H locs) (hl : lv_has ls 4 [(3, .int x212), (2, .int x201), (0, .ref (base + a0)), (1, .int a1)]), W p l e (md_rm 5 0 0) s m args below meth c H locs 0 0 Q (F0 m 58 ls []) := by
                intro n_213
                induction n_213 with
                | zero =>
                  intro x212 M213 R214 J215 H locs ls h_x212 hm_213 hS hl
                  exfalso
                  have := (h183).1; have := (h183).2; have := (h_x212).1; have := (h_x212).2; omega
                | succ n_213 ih_213 =>
                  intro x212 M213 R214 J215 H locs ls h_x212 hm_213 hS hl
                  have f216 := hS.2.2.1
                  have g217 := hS.2.2.2
                  refine lv_iload_n hx hb dX12_rounds_58 rfl (lv_at hl 0 rfl) ?_
                  refine lv_aload_n hx hb dX12_rounds_59 rfl (lv_at hl 2 rfl) ?_
                  refine tw_geti hx hb hW hown hK hS f_X12_351_11 hz_a0 hk_a0 (lo := 0) (hi := 8) rfl dX12_rounds_60 (fun x220 k219 h218 => ?_)
                  refine lv_icmp_ge (tgt := 108) hx hb dX12_rounds_63 (by decide) (fun c221 => ?_) (fun c221 => ?_)
                  · have q222 : x220.toInt ≤ x212.toInt := ti_le c221
                    refine lv_aload_n hx hb dX12_rounds_108 rfl (lv_at hl 2 rfl) ?_
                    refine lv_iload_n hx hb dX12_rounds_109 rfl (lv_at hl 1 rfl) ?_
                    refine tw_gov hS (md_runV (As := [.int x201]) (rest := []) hx hb hml hown hW hK hT hS.1 (t_X12_keepsDay l D cy tx base Z K N M213 R214 J215 hS.2.1 a0 hz_a0 hk_a0 x201 (iv_mono h211 (by decide) (by decide))) s_X12_478 ⟨rfl, rfl, ⟨Nat.le_of_ble_eq_true rfl, Nat.le_of_ble_eq_true rfl⟩, ⟨Nat.le_of_ble_eq_true rfl, Nat.le_of_ble_eq_true rfl⟩⟩ hz_a0 hk_a0 (by decide) rfl rfl hl.1 rfl (Nat.le_of_ble_eq_true rfl) dX12_rounds_110) rfl rfl (fun H locs M226 R227 J225 hS f223 g224 E228 => ?_)
                    have eR227 := Fr.nil g224 rfl
                    subst eR227
                    refine lv_iconst (v := 0) hx hb dX12_rounds_113 (by decide) ?_
                    refine lv_istore_n (lv' := [(3, .int 0), (2, .int x201), (0, .ref (base + a0)), (1, .int a1)]) hx hb dX12_rounds_114 rfl hl (by decide) rfl (fun ls hl => ?_)
                    have W115_230 : ∀ (n_230 : Nat) (x229 : Int32) (M230 : MT) (R231 : RT) (J232 : JT) (H : Heap) (locs : List Loc) (ls : Array Slot) (h_x229 : iv 0 300 x229) (hm_230 : 300 - x229.toInt < (n_230 : Int)) (hS : SB D cy base Z K N Lt_X12_rounds LRt_X12_rounds Ma Ra M230 R231 J232 s H locs) (hl : lv_has ls 4 [(3, .int x229), (2, .int x201), (0, .ref (base + a0)), (1, .int a1)]), W p l e (md_rm 5 0 0) s m args below meth c H locs 0 0 Q (F0 m 115 ls []) := by
                      intro n_230
                      induction n_230 with
                      | zero =>
                        intro x229 M230 R231 J232 H locs ls h_x229 hm_230 hS hl
                        exfalso
                        have := (h183).1; have := (h183).2; have := (h_x229).1; have := (h_x229).2; omega
                      | succ n_230 ih_230 =>
                        intro x229 M230 R231 J232 H locs ls h_x229 hm_230 hS hl
                        have f233 := hS.2.2.1
                        have g234 := hS.2.2.2
                        refine lv_iload_n hx hb dX12_rounds_115 rfl (lv_at hl 0 rfl) ?_
                        refine lv_iload_n hx hb dX12_rounds_116 rfl (lv_at hl 1 rfl) ?_
                        refine lv_icmp_ge (tgt := 204) hx hb dX12_rounds_117 (by decide) (fun c235 => ?_) (fun c235 => ?_)
                        · have q236 : x201.toInt ≤ x229.toInt := ti_le c235
                          have h237 : iv 1 300 x229 := iv_geL (y := x201) h_x229 h211 q236 (by decide)
                          refine tw_iinc (lv' := fun x240 => [(2, .int x240), (3, .int x229), (0, .ref (base + a0)), (1, .int a1)]) (lo := 2) (hi := 301) hx hb dX12_rounds_204 hl (k := 1) rfl h211 (by decide) ⟨by decide, by decide⟩ ⟨by decide, by decide⟩ (by decide) (fun _ => rfl) (fun x240 ls e239 h238 hl => ?_)
                          refine lv_goto (tgt := 49) hx hb dX12_rounds_207 (by decide) ?_
                          have hm241 : 301 - x240.toInt < (n_202 : Int) := by
                            have := (h183).1; have := (h183).2; have := (h211).1; have := (h211).2; have := (h238).1; have := (h238).2; omega
                          exact ih_202 x240 M230 R231 J232 H locs _ (iv_mono h238 (by decide) (by decide)) hm241 hS (lv_sub hl [0, 2, 3] rfl)
                        · have q242 : x229.toInt < x201.toInt := ti_nle c235
                          have h243 : iv 0 299 x229 := iv_ltL (y := x201) h_x229 h211 q242 (by decide)
                          refine lv_aload_n hx hb dX12_rounds_120 rfl (lv_at hl 2 rfl) ?_
                          refine lv_iload_n hx hb dX12_rounds_121 rfl (lv_at hl 1 rfl) ?_
                          refine lv_iload_n hx hb dX12_rounds_122 rfl (lv_at hl 0 rfl) ?_
                          refine tw_goi hS (md_runV (As := [.int x201, .int x229]) (rest := []) hx hb hml hown hW hK hT hS.1 (t_X12_isAgain l D cy tx base Z K N M230 R231 J232 hS.2.1 a0 hz_a0 hk_a0 x201 h211 x229 (iv_mono h243 (by decide) (by decide))) s_X12_481 ⟨rfl, rfl, ⟨Nat.le_of_ble_eq_true rfl, Nat.le_of_ble_eq_true rfl⟩, ⟨Nat.le_of_ble_eq_true rfl, Nat.le_of_ble_eq_true rfl⟩⟩ hz_a0 hk_a0 (by decide) rfl rfl hl.1 rfl (Nat.le_of_ble_eq_true rfl) dX12_rounds_123) rfl rfl (fun x250 H locs M247 R248 J246 hS f244 g245 E249 => ?_)
                          have eM247 := Fr.nil f244 rfl
                          subst eM247
                          have eR248 := Fr.nil g245 rfl
                          subst eR248
                          have h_x250 := E249
                          refine lv_if_ne (tgt := 132) hx hb dX12_rounds_126 (by decide) (fun c251 => ?_) (fun c251 => ?_)
                          · have q252 : ¬ x250.toInt = 0 := ti_ne c251
                            have h253 : iv 1 1 x250 := ⟨by have := (h_x250).1; have := ((iv_c (c := 0) (n := 0) (by decide))).1; have := ((iv_c (c := 0) (n := 0) (by decide))).2; omega, by have := (h_x250).2; have := ((iv_c (c := 0) (n := 0) (by decide))).1; have := ((iv_c (c := 0) (n := 0) (by decide))).2; omega⟩
                            refine lv_iload_n hx hb dX12_rounds_132 rfl (lv_at hl 3 rfl) ?_
                            refine lv_iconst (v := 3) hx hb dX12_rounds_133 (by decide) ?_
                            refine lv_icmp_ge (tgt := 170) hx hb dX12_rounds_134 (by decide) (fun c254 => ?_) (fun c254 => False.elim (by have q : a1.toInt < 3 := ti_nle c254; have := (h183).1; have := (h183).2; omega))
                            have q255 : 3 ≤ a1.toInt := ti_le c254
                            refine lv_aload_n hx hb dX12_rounds_170 rfl (lv_at hl 2 rfl) ?_
                            refine tw_getr hx hb hW hown hK hS f_X12_96_11 hz_a0 hk_a0 (t := 14) (n := 3010) rfl dX12_rounds_171 (fun b256 k257 hz_b256 hk_b256 hn_b256 => ?_)
                            have hn_b256 := hn_b256 (by decide)
                            refine lv_bipush (v := 10) hx hb dX12_rounds_174 (by decide) ?_
                            refine lv_iload_n hx hb dX12_rounds_176 rfl (lv_at hl 1 rfl) ?_
                            refine tw_icmul (k := 10) (lo := 10) (hi := 3000) hx hb (by decide) h211 (by decide) ⟨by decide, by decide⟩ ⟨by decide, by decide⟩ dX12_rounds_177 (fun x260 e259 h258 => ?_)
                            refine lv_iload_n hx hb dX12_rounds_178 rfl (lv_at hl 3 rfl) ?_
                            refine tw_iadd (lo := 13) (hi := 3012) hx hb h258 h183 ⟨by decide, by decide⟩ ⟨by decide, by decide⟩ dX12_rounds_179 (fun x263 e262 h261 => ?_)
                            refine lv_iconst (v := 3) hx hb dX12_rounds_180 (by decide) ?_
                            refine tw_isub (lo := 10) (hi := 3009) hx hb h261 (iv_c (c := 3) (n := 3) (by decide)) ⟨by decide, by decide⟩ ⟨by decide, by decide⟩ dX12_rounds_181 (fun x266 e265 h264 => ?_)
                            have e265 : x266.toInt = x263.toInt - 3 := e265
                            refine tw_iald hx hb hK hS hz_b256 hk_b256 (Or.inl rfl) hn_b256 (lo := (-2147483648)) (hi := 2147483647) h264 ⟨by decide, by decide⟩ rg_u14 dX12_rounds_182 (fun x269 k268 h267 => ?_)
                            refine lv_aload_n hx hb dX12_rounds_183 rfl (lv_at hl 2 rfl) ?_
                            refine tw_getrk hx hb hW hown hK hS f_X12_96_11 hz_a0 hk_a0 (b := b256) k257 dX12_rounds_184 ?_
                            refine lv_bipush (v := 10) hx hb dX12_rounds_187 (by decide) ?_
                            refine lv_iload_n hx hb dX12_rounds_189 rfl (lv_at hl 0 rfl) ?_
                            refine tw_icmul (k := 10) (lo := 0) (hi := 2990) hx hb (by decide) h243 (by decide) ⟨by decide, by decide⟩ ⟨by decide, by decide⟩ dX12_rounds_190 (fun x272 e271 h270 => ?_)
                            refine lv_iload_n hx hb dX12_rounds_191 rfl (lv_at hl 3 rfl) ?_
                            refine tw_iadd (lo := 3) (hi := 3002) hx hb h270 h183 ⟨by decide, by decide⟩ ⟨by decide, by decide⟩ dX12_rounds_192 (fun x275 e274 h273 => ?_)
                            refine lv_iconst (v := 3) hx hb dX12_rounds_193 (by decide) ?_
                            refine tw_isub (lo := 0) (hi := 2999) hx hb h273 (iv_c (c := 3) (n := 3) (by decide)) ⟨by decide, by decide⟩ ⟨by decide, by decide⟩ dX12_rounds_194 (fun x278 e277 h276 => ?_)
                            have e277 : x278.toInt = x275.toInt - 3 := e277
                            refine tw_iald hx hb hK hS hz_b256 hk_b256 (Or.inl rfl) hn_b256 (lo := (-2147483648)) (hi := 2147483647) h276 ⟨by decide, by decide⟩ rg_u14 dX12_rounds_195 (fun x281 k280 h279 => ?_)
                            refine lv_isub hx hb dX12_rounds_196 ?_
                            refine tw_top (fun x283 => ?_)
                            have h282 := iv_any x283
                            exact tw_endi hx hb hr hlocks hK hT hS hQ (h282) dX12_rounds_197
                          · have q284 : x250.toInt = 0 := ti_eq c251
                            have h285 : iv 0 0 x250 := ⟨by have := (h_x250).1; have := ((iv_c (c := 0) (n := 0) (by decide))).1; omega, by have := (h_x250).2; have := ((iv_c (c := 0) (n := 0) (by decide))).2; omega⟩
                            refine lv_goto (tgt := 198) hx hb dX12_rounds_129 (by decide) ?_
                            refine tw_iinc (lv' := fun x288 => [(3, .int x288), (2, .int x201), (0, .ref (base + a0)), (1, .int a1)]) (lo := 1) (hi := 300) hx hb dX12_rounds_198 hl (k := 0) rfl h243 (by decide) ⟨by decide, by decide⟩ ⟨by decide, by decide⟩ (by decide) (fun _ => rfl) (fun x288 ls e287 h286 hl => ?_)
                            refine lv_goto (tgt := 115) hx hb dX12_rounds_201 (by decide) ?_
                            have hm289 : 300 - x288.toInt < (n_230 : Int) := by
                              have := (h183).1; have := (h183).2; have := (h243).1; have := (h243).2; have := (h286).1; have := (h286).2; omega
                            exact ih_230 x288 M230 R231 J246 H locs _ (iv_mono h286 (by decide) (by decide)) hm289 hS hl
                    have hm290 : 300 - (0 : Int32).toInt < (((301 : Nat) : Int) : Int) := by
                      have := (h183).1; have := (h183).2; have : (0 : Int32).toInt = 0 := (by decide); omega
                    exact W115_230 301 0 M226 R214 J225 H locs _ (iv_mono (iv_c (c := 0) (n := 0) (by decide)) (by decide) (by decide)) hm290 hS hl
                  · have q291 : x212.toInt < x220.toInt := ti_nle c221
                    have h292 : iv 0 7 x212 := iv_ltL (y := x220) h_x212 h218 q291 (by decide)
                    have h293 : iv 1 8 x220 := iv_gtL (y := x212) h218 h_x212 q291 (by decide)
                    refine lv_aload_n hx hb dX12_rounds_66 rfl (lv_at hl 2 rfl) ?_
                    refine lv_aload_n hx hb dX12_rounds_67 rfl (lv_at hl 2 rfl) ?_
                    have k294 : R214 a0 25 = some b1 := (Fr.kp (k := 25) g217 hk_a0 rfl).trans k2
                    refine tw_getrk hx hb hW hown hK hS f_X12_45_11 hz_a0 hk_a0 (b := b1) k294 dX12_rounds_68 ?_
                    refine lv_iconst (v := 3) hx hb dX12_rounds_71 (by decide) ?_
                    refine tw_iald hx hb hK hS hz_b1 hk_b1 (Or.inr (by decide)) hn_b1 (lo := (-2147483648)) (hi := 2147483647) (iv_c (c := 3) (n := 3) (by decide)) ⟨by decide, by decide⟩ (rg_c (k0 := 3) rfl rfl rfl) dX12_rounds_72 (fun x297 k296 h295 => ?_)
                    refine tw_puti hx hb hW hown hK hS f_X12_348_11 hz_a0 hk_a0 rfl rfl (lo := (-2147483648)) (hi := 2147483647) rfl h295 rfl dX12_rounds_73 (fun H locs M300 hS k298 f299 => ?_)
                    refine lv_aload_n hx hb dX12_rounds_76 rfl (lv_at hl 2 rfl) ?_
                    refine lv_aload_n hx hb dX12_rounds_77 rfl (lv_at hl 2 rfl) ?_
                    refine tw_getr hx hb hW hown hK hS f_X12_54_11 hz_a0 hk_a0 (t := 31) (n := 8) rfl dX12_rounds_78 (fun b301 k302 hz_b301 hk_b301 hn_b301 => ?_)
                    have hn_b301 := hn_b301 (by decide)
                    refine lv_iload_n hx hb dX12_rounds_81 rfl (lv_at hl 0 rfl) ?_
                    refine tw_iald hx hb hK hS hz_b301 hk_b301 (Or.inr (by decide)) hn_b301 (lo := 0) (hi := 11) h292 ⟨by decide, by decide⟩ rg_u31 dX12_rounds_82 (fun x305 k304 h303 => ?_)
                    refine lv_iload_n hx hb dX12_rounds_83 rfl (lv_at hl 0 rfl) ?_
                    refine tw_gov hS (md_runV (As := [.int x305, .int x212]) (rest := []) hx hb hml hown hW hK hT hS.1 (t_X12_asks l D cy tx base Z K N M300 R214 J215 hS.2.1 a0 hz_a0 hk_a0 x305 h303 x212 (iv_mono h292 (by decide) (by decide)) (Codes.fr co_a0 hTy hz_a0 hk_a0 hS.2.2.1 hS.2.2.2 rfl)) s_X12_396 ⟨rfl, rfl, ⟨Nat.le_of_ble_eq_true rfl, Nat.le_of_ble_eq_true rfl⟩, ⟨Nat.le_of_ble_eq_true rfl, Nat.le_of_ble_eq_true rfl⟩⟩ hz_a0 hk_a0 (by decide) rfl rfl hl.1 rfl (Nat.le_of_ble_eq_true rfl) dX12_rounds_84) rfl rfl (fun H locs M309 R310 J308 hS f306 g307 E311 => ?_)
                    have eR310 := Fr.nil g307 rfl
                    subst eR310
                    refine lv_aload_n hx hb dX12_rounds_87 rfl (lv_at hl 2 rfl) ?_
                    refine lv_iconst (v := 0) hx hb dX12_rounds_88 (by decide) ?_
                    refine lv_aload_n hx hb dX12_rounds_89 rfl (lv_at hl 2 rfl) ?_
                    refine tw_getrk hx hb hW hown hK hS f_X12_54_11 hz_a0 hk_a0 (b := b301) k302 dX12_rounds_90 ?_
                    refine lv_iload_n hx hb dX12_rounds_93 rfl (lv_at hl 0 rfl) ?_
                    have k312 : M309 b301 x212.toNatClampNeg = x305 := (Fr.kpa f306 hk_b301 rfl x212.toNatClampNeg).trans k304
                    refine tw_ialk hx hb hK hS hz_b301 hk_b301 (Or.inr (by decide)) hn_b301 h292 ⟨by decide, by decide⟩ (v := x305) k312 dX12_rounds_94 ?_
                    refine lv_aload_n hx hb dX12_rounds_95 rfl (lv_at hl 2 rfl) ?_
                    refine tw_goi hS (md_runV (As := []) (rest := [.int x305, .int 0, .ref (base + a0)]) hx hb hml hown hW hK hT hS.1 (t_X12_settles_ l D cy tx base Z K N M309 R214 J308 hS.2.1 a0 hz_a0 hk_a0) s_X12_399 ⟨rfl, rfl, ⟨Nat.le_of_ble_eq_true rfl, Nat.le_of_ble_eq_true rfl⟩, ⟨Nat.le_of_ble_eq_true rfl, Nat.le_of_ble_eq_true rfl⟩⟩ hz_a0 hk_a0 (by decide) rfl rfl hl.1 rfl (Nat.le_of_ble_eq_true rfl) dX12_rounds_96) rfl rfl (fun x319 H locs M316 R317 J315 hS f313 g314 E318 => ?_)
                    have eR317 := Fr.nil g314 rfl
                    subst eR317
                    have h_x319 := E318
                    refine tw_gov hS (md_runV (As := [.int 0, .int x305, .int x319]) (rest := []) hx hb hml hown hW hK hT hS.1 (t_X12_counts l D cy tx base Z K N M316 R214 J315 hS.2.1 a0 hz_a0 hk_a0 0 (iv_mono (iv_c (c := 0) (n := 0) (by decide)) (by decide) (by decide)) x305 h303 x319 h_x319) s_X12_413 ⟨rfl, rfl, ⟨Nat.le_of_ble_eq_true rfl, Nat.le_of_ble_eq_true rfl⟩, ⟨Nat.le_of_ble_eq_true rfl, Nat.le_of_ble_eq_true rfl⟩⟩ hz_a0 hk_a0 (by decide) rfl rfl hl.1 rfl (Nat.le_of_ble_eq_true rfl) dX12_rounds_99) rfl rfl (fun H locs M323 R324 J322 hS f320 g321 E325 => ?_)
                    have eR324 := Fr.nil g321 rfl
                    subst eR324
                    refine tw_iinc (lv' := fun x328 => [(3, .int x328), (2, .int x201), (0, .ref (base + a0)), (1, .int a1)]) (lo := 1) (hi := 8) hx hb dX12_rounds_102 hl (k := 0) rfl h292 (by decide) ⟨by decide, by decide⟩ ⟨by decide, by decide⟩ (by decide) (fun _ => rfl) (fun x328 ls e327 h326 hl => ?_)
                    refine lv_goto (tgt := 58) hx hb dX12_rounds_105 (by decide) ?_
                    have hm329 : 8 - x328.toInt < (n_213 : Int) := by
                      have := (h183).1; have := (h183).2; have := (h292).1; have := (h292).2; have := (h326).1; have := (h326).2; omega
                    exact ih_213 x328 M323 R214 J322 H locs _ (iv_mono h326 (by decide) (by decide)) hm329 hS hl
              have hm330 : 8 - (0 : Int32).toInt < (((9 : Nat) : Int) : Int) := by
                have := (h183).1; have := (h183).2; have : (0 : Int32).toInt = 0 := (by decide); omega
              exact W58_213 9 0 M202 R203 J204 H locs _ (iv_mono (iv_c (c := 0) (n := 0) (by decide)) (by decide) (by decide)) hm330 hS hl
        have hm331 : 301 - (1 : Int32).toInt < (((301 : Nat) : Int) : Int) := by
          have := (h183).1; have := (h183).2; have : (1 : Int32).toInt = 1 := (by decide); omega
        exact W49_202 301 1 M198 Ra J197 H locs _ (iv_mono (iv_c (c := 1) (n := 1) (by decide)) (by decide) (by decide)) hm331 hS hl
      · have q332 : x177.toInt = 0 := ti_eq c179
        have h333 : iv 0 0 x177 := ⟨by have := (h_x177).1; have := ((iv_c (c := 0) (n := 0) (by decide))).1; omega, by have := (h_x177).2; have := ((iv_c (c := 0) (n := 0) (by decide))).2; omega⟩
        refine lv_iconst (v := (-1)) hx hb dX12_rounds_31 (by decide) ?_
        exact tw_endi hx hb hr hlocks hK hT hS hQ ((iv_mono (iv_c (c := (-1)) (n := (-1)) (by decide)) (by decide) (by decide))) dX12_rounds_32
def Lt_X12_says : WL := [(12, 23, 24), (12, 28, 29), (12, 30, 31), (14, 0, 2000000), (30, 0, 2000000), (31, 0, 2000000)]
def LRt_X12_says : WL := []
set_option maxRecDepth 100000 in
set_option maxHeartbeats 4000000 in
theorem t_X12_says (l : Launch) (D : va_G) (cy : Nat → ClassId) (tx : (Nat → Nat) × (Nat → Nat)) (base Z : Nat) (K N : Nat → Nat) (Ma : MT) (Ra : RT) (Ja : JT) (hTy : Ty Z K N Ma Ra) (a0 : Nat) (hz_a0 : a0 < Z) (hk_a0 : K a0 = 12) (a1 : Int32) (h_a1 : iv (-2147483648) 2147483647 a1) (a2 : Int32) (h_a2 : iv (-2147483648) 2147483647 a2) (co_a0 : Codes Ma Ra a0) : Met l yX12_says [Cond.code yX12_says cX12_says 3 (some .int)] (md_rm 4 0 0) (va_Pc [.ref (base + a0), .int a1, .int a2] (md_U D cy tx base Z K N Ma Ra Ja)) (mQi D cy tx base (fun r u => TP Z K N Lt_X12_says LRt_X12_says Ma Ra u ∧ (iv (-2147483648) 2147483647 r))) 0 0 (fun q => base ≤ q) := by
  refine tw_ofW (L := Lt_X12_says) (LR := LRt_X12_says) (by decide) (Nat.le_of_ble_eq_true rfl) hTy ?_
  intro p e s m args below meth c Q ls hx hb hr hlocks hown hml hW hK hT hS hQ hl
  have hl : lv_has ls 3 [(0, .ref (base + a0)), (1, .int a1), (2, .int a2)] := hl
  refine lv_aload_n hx hb dX12_says_0 rfl (lv_at hl 0 rfl) ?_
  refine lv_iload_n hx hb dX12_says_1 rfl (lv_at hl 1 rfl) ?_
  refine tw_goi hS (md_runV (As := [.int a1]) (rest := []) hx hb hml hown hW hK hT hS.1 (t_X12_isPresent l D cy tx base Z K N Ma Ra Ja hS.2.1 a0 hz_a0 hk_a0 a1 h_a1) s_X12_390 ⟨rfl, rfl, ⟨Nat.le_of_ble_eq_true rfl, Nat.le_of_ble_eq_true rfl⟩, ⟨Nat.le_of_ble_eq_true rfl, Nat.le_of_ble_eq_true rfl⟩⟩ hz_a0 hk_a0 (by decide) rfl rfl hl.1 rfl (Nat.le_of_ble_eq_true rfl) dX12_says_2) rfl rfl (fun x7 H locs M4 R5 J3 hS f1 g2 E6 => ?_)
  have eM4 := Fr.nil f1 rfl
  subst eM4
  have eR5 := Fr.nil g2 rfl
  subst eR5
  obtain ⟨h_x7, p8⟩ := E6
  refine lv_if_eq (tgt := 16) hx hb dX12_says_5 (by decide) (fun c9 => ?_) (fun c9 => ?_)
  · have q10 : x7.toInt = 0 := ti_eq c9
    have h11 : iv 0 0 x7 := ⟨by have := (h_x7).1; have := ((iv_c (c := 0) (n := 0) (by decide))).1; omega, by have := (h_x7).2; have := ((iv_c (c := 0) (n := 0) (by decide))).2; omega⟩
    refine lv_iconst (v := (-1)) hx hb dX12_says_16 (by decide) ?_
    exact tw_endi hx hb hr hlocks hK hT hS hQ ((iv_mono (iv_c (c := (-1)) (n := (-1)) (by decide)) (by decide) (by decide))) dX12_says_17
  · have q12 : ¬ x7.toInt = 0 := ti_ne c9
    have h13 : iv 1 1 x7 := ⟨by have := (h_x7).1; have := ((iv_c (c := 0) (n := 0) (by decide))).1; have := ((iv_c (c := 0) (n := 0) (by decide))).2; omega, by have := (h_x7).2; have := ((iv_c (c := 0) (n := 0) (by decide))).1; have := ((iv_c (c := 0) (n := 0) (by decide))).2; omega⟩
    have h14 : iv 0 9 a1 := ⟨by have := (p8 c9).1; have := (h_a1).1; omega, by have := (p8 c9).2; have := (h_a1).2; omega⟩
    refine lv_aload_n hx hb dX12_says_8 rfl (lv_at hl 0 rfl) ?_
    refine lv_iload_n hx hb dX12_says_9 rfl (lv_at hl 2 rfl) ?_
    refine tw_goi hS (md_runV (As := [.int a2]) (rest := []) hx hb hml hown hW hK hT hS.1 (t_X12_isPoint l D cy tx base Z K N Ma Ra J3 hS.2.1 a0 hz_a0 hk_a0 a2 h_a2) s_X12_327 ⟨rfl, rfl, ⟨Nat.le_of_ble_eq_true rfl, Nat.le_of_ble_eq_true rfl⟩, ⟨Nat.le_of_ble_eq_true rfl, Nat.le_of_ble_eq_true rfl⟩⟩ hz_a0 hk_a0 (by decide) rfl rfl hl.1 rfl (Nat.le_of_ble_eq_true rfl) dX12_says_10) rfl rfl (fun x21 H locs M18 R19 J17 hS f15 g16 E20 => ?_)
    have eM18 := Fr.nil f15 rfl
    subst eM18
    have eR19 := Fr.nil g16 rfl
    subst eR19
    obtain ⟨h_x21, p22⟩ := E20
    refine lv_if_ne (tgt := 18) hx hb dX12_says_13 (by decide) (fun c23 => ?_) (fun c23 => ?_)
    · have q24 : ¬ x21.toInt = 0 := ti_ne c23
      have h25 : iv 1 1 x21 := ⟨by have := (h_x21).1; have := ((iv_c (c := 0) (n := 0) (by decide))).1; have := ((iv_c (c := 0) (n := 0) (by decide))).2; omega, by have := (h_x21).2; have := ((iv_c (c := 0) (n := 0) (by decide))).1; have := ((iv_c (c := 0) (n := 0) (by decide))).2; omega⟩
      have h26 : iv 0 11 a2 := ⟨by have := (p22 c23).1; have := (h_a2).1; omega, by have := (p22 c23).2; have := (h_a2).2; omega⟩
      refine lv_aload_n hx hb dX12_says_18 rfl (lv_at hl 0 rfl) ?_
      obtain ⟨b27, k28, hz_b27, hk_b27, hn_b27⟩ := hS.2.1.ref hz_a0 hk_a0 (show rtR 12 25 = (23, 226, 0) from rfl)
      have hn_b27 := hn_b27 (by decide)
      obtain ⟨x31, k29⟩ : ∃ x, Ma b27 (4 : Int32).toNatClampNeg = x := ⟨_, rfl⟩
      have h30 : iv 0 8 x31 := by rw [← k29]; exact hS.2.1.int hz_b27 hk_b27 (show rgI 23 (4 : Int32).toNatClampNeg = (0, 8) from rfl)
      refine tw_gov hS (md_runV (As := []) (rest := []) hx hb hml hown hW hK hT hS.1 (t_X12_begins l D cy tx base Z K N Ma Ra J17 hS.2.1 a0 hz_a0 hk_a0 b27 k28 x31 k29 (iv_mono h30 (by decide) (by decide))) s_X12_393 ⟨rfl, rfl, ⟨Nat.le_of_ble_eq_true rfl, Nat.le_of_ble_eq_true rfl⟩, ⟨Nat.le_of_ble_eq_true rfl, Nat.le_of_ble_eq_true rfl⟩⟩ hz_a0 hk_a0 (by decide) rfl rfl hl.1 rfl (Nat.le_of_ble_eq_true rfl) dX12_says_19) rfl rfl (fun H locs M35 R36 J34 hS f32 g33 E37 => ?_)
      have eR36 := Fr.nil g33 rfl
      subst eR36
      have p38 := E37
      have k39 : M35 a0 30 = x31 := p38
      refine lv_aload_n hx hb dX12_says_22 rfl (lv_at hl 0 rfl) ?_
      refine lv_iload_n hx hb dX12_says_23 rfl (lv_at hl 2 rfl) ?_
      refine lv_iconst (v := (-1)) hx hb dX12_says_24 (by decide) ?_
      refine tw_gov hS (md_runV (As := [.int a2, .int (-1)]) (rest := []) hx hb hml hown hW hK hT hS.1 (t_X12_wordsForAll l D cy tx base Z K N M35 Ra J34 hS.2.1 a0 hz_a0 hk_a0 a2 h26 (-1) (iv_mono (iv_c (c := (-1)) (n := (-1)) (by decide)) (by decide) (by decide))) s_X12_370 ⟨rfl, rfl, ⟨Nat.le_of_ble_eq_true rfl, Nat.le_of_ble_eq_true rfl⟩, ⟨Nat.le_of_ble_eq_true rfl, Nat.le_of_ble_eq_true rfl⟩⟩ hz_a0 hk_a0 (by decide) rfl rfl hl.1 rfl (Nat.le_of_ble_eq_true rfl) dX12_says_25) rfl rfl (fun H locs M43 R44 J42 hS f40 g41 E45 => ?_)
      have eM43 := Fr.nil f40 rfl
      subst eM43
      have eR44 := Fr.nil g41 rfl
      subst eR44
      refine lv_aload_n hx hb dX12_says_28 rfl (lv_at hl 0 rfl) ?_
      refine lv_iload_n hx hb dX12_says_29 rfl (lv_at hl 1 rfl) ?_
      refine lv_iload_n hx hb dX12_says_30 rfl (lv_at hl 2 rfl) ?_
      refine lv_iconst (v := (-1)) hx hb dX12_says_31 (by decide) ?_
      refine tw_goi hS (md_runV (As := [.int a1, .int a2, .int (-1)]) (rest := []) hx hb hml hown hW hK hT hS.1 (t_X12_saying l D cy tx base Z K N M35 Ra J42 hS.2.1 a0 hz_a0 hk_a0 a1 h14 a2 h26 (-1) (iv_mono (iv_c (c := (-1)) (n := (-1)) (by decide)) (by decide) (by decide)) (Codes.fr co_a0 hTy hz_a0 hk_a0 hS.2.2.1 hS.2.2.2 rfl)) s_X12_373 ⟨rfl, rfl, ⟨Nat.le_of_ble_eq_true rfl, Nat.le_of_ble_eq_true rfl⟩, ⟨Nat.le_of_ble_eq_true rfl, Nat.le_of_ble_eq_true rfl⟩⟩ hz_a0 hk_a0 (by decide) rfl rfl hl.1 rfl (Nat.le_of_ble_eq_true rfl) dX12_says_32) rfl rfl (fun x52 H locs M49 R50 J48 hS f46 g47 E51 => ?_)
      have eR50 := Fr.nil g47 rfl
      subst eR50
      have h_x52 := E51
      exact tw_endi hx hb hr hlocks hK hT hS hQ (h_x52) dX12_says_35
    · have q53 : x21.toInt = 0 := ti_eq c23
      have h54 : iv 0 0 x21 := ⟨by have := (h_x21).1; have := ((iv_c (c := 0) (n := 0) (by decide))).1; omega, by have := (h_x21).2; have := ((iv_c (c := 0) (n := 0) (by decide))).2; omega⟩
      refine lv_iconst (v := (-1)) hx hb dX12_says_16 (by decide) ?_
      exact tw_endi hx hb hr hlocks hK hT hS hQ ((iv_mono (iv_c (c := (-1)) (n := (-1)) (by decide)) (by decide) (by decide))) dX12_says_17
def Lt_X12_seed : WL := [(14, 0, 2000000), (23, 6, 7)]
def LRt_X12_seed : WL := []
set_option maxRecDepth 100000 in
set_option maxHeartbeats 4000000 in
theorem t_X12_seed (l : Launch) (D : va_G) (cy : Nat → ClassId) (tx : (Nat → Nat) × (Nat → Nat)) (base Z : Nat) (K N : Nat → Nat) (Ma : MT) (Ra : RT) (Ja : JT) (hTy : Ty Z K N Ma Ra) (a0 : Nat) (hz_a0 : a0 < Z) (hk_a0 : K a0 = 12) (a1 : Int32) (h_a1 : iv (-2147483648) 2147483647 a1) : Met l yX12_seed [Cond.code yX12_seed cX12_seed 3 (some .int)] (md_rm 2 0 0) (va_Pc [.ref (base + a0), .int a1] (md_U D cy tx base Z K N Ma Ra Ja)) (mQi D cy tx base (fun r u => TP Z K N Lt_X12_seed LRt_X12_seed Ma Ra u ∧ (iv (-2) 2147483647 r))) 0 0 (fun q => base ≤ q) := by
  refine tw_ofW (L := Lt_X12_seed) (LR := LRt_X12_seed) (by decide) (Nat.le_of_ble_eq_true rfl) hTy ?_
  intro p e s m args below meth c Q ls hx hb hr hlocks hown hml hW hK hT hS hQ hl
  have hl : lv_has ls 3 [(0, .ref (base + a0)), (1, .int a1)] := hl
  refine lv_iload_n hx hb dX12_seed_0 rfl (lv_at hl 1 rfl) ?_
  refine lv_if_ge (tgt := 10) hx hb dX12_seed_1 (by decide) (fun c1 => ?_) (fun c1 => ?_)
  · have q2 : 0 ≤ a1.toInt := ti_le c1
    have h3 : iv 0 2147483647 a1 := iv_geL (y := 0) h_a1 (iv_c (c := 0) (n := 0) (by decide)) q2 (by decide)
    refine lv_aload_n hx hb dX12_seed_10 rfl (lv_at hl 0 rfl) ?_
    refine tw_getr hx hb hW hown hK hS f_X12_45_11 hz_a0 hk_a0 (t := 23) (n := 226) rfl dX12_seed_11 (fun b4 k5 hz_b4 hk_b4 hn_b4 => ?_)
    have hn_b4 := hn_b4 (by decide)
    refine lv_bipush (v := 6) hx hb dX12_seed_14 (by decide) ?_
    refine tw_iald hx hb hK hS hz_b4 hk_b4 (Or.inr (by decide)) hn_b4 (lo := 0) (hi := 2147483647) (iv_c (c := 6) (n := 6) (by decide)) ⟨by decide, by decide⟩ (rg_c (k0 := 6) rfl rfl rfl) dX12_seed_16 (fun x8 k7 h6 => ?_)
    refine lv_istore_n (lv' := [(2, .int x8), (0, .ref (base + a0)), (1, .int a1)]) hx hb dX12_seed_17 rfl hl (by decide) rfl (fun ls hl => ?_)
    refine lv_aload_n hx hb dX12_seed_18 rfl (lv_at hl 1 rfl) ?_
    refine tw_getrk hx hb hW hown hK hS f_X12_45_11 hz_a0 hk_a0 (b := b4) k5 dX12_seed_19 ?_
    refine lv_bipush (v := 6) hx hb dX12_seed_22 (by decide) ?_
    refine lv_iload_n hx hb dX12_seed_24 rfl (lv_at hl 2 rfl) ?_
    refine tw_iast hx hb hK hS hz_b4 hk_b4 (Or.inr (by decide)) hn_b4 (iv_c (c := 6) (n := 6) (by decide)) ⟨by decide, by decide⟩ h3 (rg_cs (k0 := 6) rfl rfl rfl ⟨by decide, by decide⟩) (jl := 6) (jh := 6) ⟨by decide, by decide⟩ rfl dX12_seed_25 (fun H locs M11 hS k9 f10 => ?_)
    refine lv_iload_n hx hb dX12_seed_26 rfl (lv_at hl 0 rfl) ?_
    exact tw_endi hx hb hr hlocks hK hT hS hQ ((iv_mono h6 (by decide) (by decide))) dX12_seed_27
  · have q12 : a1.toInt < 0 := ti_nle c1
    have h13 : iv (-2147483648) (-1) a1 := iv_ltL (y := 0) h_a1 (iv_c (c := 0) (n := 0) (by decide)) q12 (by decide)
    refine lv_aload_n hx hb dX12_seed_4 rfl (lv_at hl 0 rfl) ?_
    refine lv_iconst (v := 0) hx hb dX12_seed_5 (by decide) ?_
    refine tw_goi hS (md_runV (As := [.int 0]) (rest := []) hx hb hml hown hW hK hT hS.1 (t_X12_refuses l D cy tx base Z K N Ma Ra Ja hS.2.1 a0 hz_a0 hk_a0 0 (iv_mono (iv_c (c := 0) (n := 0) (by decide)) (by decide) (by decide))) s_X12_338 ⟨rfl, rfl, ⟨Nat.le_of_ble_eq_true rfl, Nat.le_of_ble_eq_true rfl⟩, ⟨Nat.le_of_ble_eq_true rfl, Nat.le_of_ble_eq_true rfl⟩⟩ hz_a0 hk_a0 (by decide) rfl rfl hl.1 rfl (Nat.le_of_ble_eq_true rfl) dX12_seed_6) rfl rfl (fun x20 H locs M17 R18 J16 hS f14 g15 E19 => ?_)
    have eR18 := Fr.nil g15 rfl
    subst eR18
    have h_x20 := E19
    exact tw_endi hx hb hr hlocks hK hT hS hQ ((iv_mono h_x20 (by decide) (by decide))) dX12_seed_9
def Lt_X12_sides : WL := [(12, 23, 24), (12, 28, 29), (12, 30, 33), (14, 0, 2000000), (30, 0, 2000000), (31, 0, 2000000)]
def LRt_X12_sides : WL := []
set_option maxRecDepth 100000 in
set_option maxHeartbeats 4000000 in
theorem t_X12_sides (l : Launch) (D : va_G) (cy : Nat → ClassId) (tx : (Nat → Nat) × (Nat → Nat)) (base Z : Nat) (K N : Nat → Nat) (Ma : MT) (Ra : RT) (Ja : JT) (hTy : Ty Z K N Ma Ra) (a0 : Nat) (hz_a0 : a0 < Z) (hk_a0 : K a0 = 12) (a1 : Int32) (h_a1 : iv (-2147483648) 2147483647 a1) (a2 : Int32) (h_a2 : iv (-2147483648) 2147483647 a2) (a3 : Int32) (h_a3 : iv (-2147483648) 2147483647 a3) (co_a0 : Codes Ma Ra a0) (sd : Nat) (k_sd : Ra a0 25 = some sd) (e4 : Int32) (k_e4 : Ma sd (4 : Int32).toNatClampNeg = e4) (h_e4 : iv 0 8 e4) : Met l yX12_sides [Cond.code yX12_sides cX12_sides 6 (some .int)] (md_rm 6 0 0) (va_Pc [.ref (base + a0), .int a1, .int a2, .int a3] (md_U D cy tx base Z K N Ma Ra Ja)) (mQi D cy tx base (fun r u => TP Z K N Lt_X12_sides LRt_X12_sides Ma Ra u ∧ (iv (-2147483648) 2147483647 r))) 0 0 (fun q => base ≤ q) := by
  refine tw_ofW (L := Lt_X12_sides) (LR := LRt_X12_sides) (by decide) (Nat.le_of_ble_eq_true rfl) hTy ?_
  intro p e s m args below meth c Q ls hx hb hr hlocks hown hml hW hK hT hS hQ hl
  have hl : lv_has ls 6 [(0, .ref (base + a0)), (1, .int a1), (2, .int a2), (3, .int a3)] := hl
  obtain ⟨hz_sd, hk_sd, hn_sd⟩ := hTy.refn hz_a0 hk_a0 (show rtR 12 25 = (23, 226, 0) from rfl) k_sd
  have hn_sd := hn_sd (by decide)
  refine lv_aload_n hx hb dX12_sides_0 rfl (lv_at hl 0 rfl) ?_
  refine lv_iload_n hx hb dX12_sides_1 rfl (lv_at hl 1 rfl) ?_
  refine tw_goi hS (md_runV (As := [.int a1]) (rest := []) hx hb hml hown hW hK hT hS.1 (t_X12_isSet l D cy tx base Z K N Ma Ra Ja hS.2.1 a0 hz_a0 hk_a0 a1 h_a1) s_X12_404 ⟨rfl, rfl, ⟨Nat.le_of_ble_eq_true rfl, Nat.le_of_ble_eq_true rfl⟩, ⟨Nat.le_of_ble_eq_true rfl, Nat.le_of_ble_eq_true rfl⟩⟩ hz_a0 hk_a0 (by decide) rfl rfl hl.1 rfl (Nat.le_of_ble_eq_true rfl) dX12_sides_2) rfl rfl (fun x7 H locs M4 R5 J3 hS f1 g2 E6 => ?_)
  have eM4 := Fr.nil f1 rfl
  subst eM4
  have eR5 := Fr.nil g2 rfl
  subst eR5
  have h_x7 := E6
  refine lv_if_eq (tgt := 72) hx hb dX12_sides_5 (by decide) (fun c8 => ?_) (fun c8 => ?_)
  · have q9 : x7.toInt = 0 := ti_eq c8
    have h10 : iv 0 0 x7 := ⟨by have := (h_x7).1; have := ((iv_c (c := 0) (n := 0) (by decide))).1; omega, by have := (h_x7).2; have := ((iv_c (c := 0) (n := 0) (by decide))).2; omega⟩
    refine lv_ldcw hx hb hown (hW _ w_8_46 rfl) dX12_sides_72 ?_
    exact tw_endi hx hb hr hlocks hK hT hS hQ ((iv_mono (iv_c (c := (-1000000)) (n := (-1000000)) (by decide)) (by decide) (by decide))) dX12_sides_75
  · have q11 : ¬ x7.toInt = 0 := ti_ne c8
    have h12 : iv 1 1 x7 := ⟨by have := (h_x7).1; have := ((iv_c (c := 0) (n := 0) (by decide))).1; have := ((iv_c (c := 0) (n := 0) (by decide))).2; omega, by have := (h_x7).2; have := ((iv_c (c := 0) (n := 0) (by decide))).1; have := ((iv_c (c := 0) (n := 0) (by decide))).2; omega⟩
    refine lv_aload_n hx hb dX12_sides_8 rfl (lv_at hl 0 rfl) ?_
    refine lv_iload_n hx hb dX12_sides_9 rfl (lv_at hl 2 rfl) ?_
    refine tw_goi hS (md_runV (As := [.int a2]) (rest := []) hx hb hml hown hW hK hT hS.1 (t_X12_isSet l D cy tx base Z K N Ma Ra J3 hS.2.1 a0 hz_a0 hk_a0 a2 h_a2) s_X12_404 ⟨rfl, rfl, ⟨Nat.le_of_ble_eq_true rfl, Nat.le_of_ble_eq_true rfl⟩, ⟨Nat.le_of_ble_eq_true rfl, Nat.le_of_ble_eq_true rfl⟩⟩ hz_a0 hk_a0 (by decide) rfl rfl hl.1 rfl (Nat.le_of_ble_eq_true rfl) dX12_sides_10) rfl rfl (fun x19 H locs M16 R17 J15 hS f13 g14 E18 => ?_)
    have eM16 := Fr.nil f13 rfl
    subst eM16
    have eR17 := Fr.nil g14 rfl
    subst eR17
    have h_x19 := E18
    refine lv_if_eq (tgt := 72) hx hb dX12_sides_13 (by decide) (fun c20 => ?_) (fun c20 => ?_)
    · have q21 : x19.toInt = 0 := ti_eq c20
      have h22 : iv 0 0 x19 := ⟨by have := (h_x19).1; have := ((iv_c (c := 0) (n := 0) (by decide))).1; omega, by have := (h_x19).2; have := ((iv_c (c := 0) (n := 0) (by decide))).2; omega⟩
      refine lv_ldcw hx hb hown (hW _ w_8_46 rfl) dX12_sides_72 ?_
      exact tw_endi hx hb hr hlocks hK hT hS hQ ((iv_mono (iv_c (c := (-1000000)) (n := (-1000000)) (by decide)) (by decide) (by decide))) dX12_sides_75
    · have q23 : ¬ x19.toInt = 0 := ti_ne c20
      have h24 : iv 1 1 x19 := ⟨by have := (h_x19).1; have := ((iv_c (c := 0) (n := 0) (by decide))).1; have := ((iv_c (c := 0) (n := 0) (by decide))).2; omega, by have := (h_x19).2; have := ((iv_c (c := 0) (n := 0) (by decide))).1; have := ((iv_c (c := 0) (n := 0) (by decide))).2; omega⟩
      refine lv_iload_n hx hb dX12_sides_16 rfl (lv_at hl 1 rfl) ?_
      refine lv_if_eq (tgt := 72) hx hb dX12_sides_17 (by decide) (fun c25 => ?_) (fun c25 => ?_)
      · have q26 : a1.toInt = 0 := ti_eq c25
        have h27 : iv 0 0 a1 := ⟨by have := (h_a1).1; have := ((iv_c (c := 0) (n := 0) (by decide))).1; omega, by have := (h_a1).2; have := ((iv_c (c := 0) (n := 0) (by decide))).2; omega⟩
        refine lv_ldcw hx hb hown (hW _ w_8_46 rfl) dX12_sides_72 ?_
        exact tw_endi hx hb hr hlocks hK hT hS hQ ((iv_mono (iv_c (c := (-1000000)) (n := (-1000000)) (by decide)) (by decide) (by decide))) dX12_sides_75
      · have q28 : ¬ a1.toInt = 0 := ti_ne c25
        refine lv_iload_n hx hb dX12_sides_20 rfl (lv_at hl 2 rfl) ?_
        refine lv_if_eq (tgt := 72) hx hb dX12_sides_21 (by decide) (fun c29 => ?_) (fun c29 => ?_)
        · have q30 : a2.toInt = 0 := ti_eq c29
          have h31 : iv 0 0 a2 := ⟨by have := (h_a2).1; have := ((iv_c (c := 0) (n := 0) (by decide))).1; omega, by have := (h_a2).2; have := ((iv_c (c := 0) (n := 0) (by decide))).2; omega⟩
          refine lv_ldcw hx hb hown (hW _ w_8_46 rfl) dX12_sides_72 ?_
          exact tw_endi hx hb hr hlocks hK hT hS hQ ((iv_mono (iv_c (c := (-1000000)) (n := (-1000000)) (by decide)) (by decide) (by decide))) dX12_sides_75
        · have q32 : ¬ a2.toInt = 0 := ti_ne c29
          refine lv_iload_n hx hb dX12_sides_24 rfl (lv_at hl 1 rfl) ?_
          refine lv_iload_n hx hb dX12_sides_25 rfl (lv_at hl 2 rfl) ?_
          refine lv_iand hx hb dX12_sides_26 ?_
          refine tw_top (fun x34 => ?_)
          have h33 := iv_any x34
          refine lv_if_ne (tgt := 72) hx hb dX12_sides_27 (by decide) (fun c35 => ?_) (fun c35 => ?_)
          · have q36 : ¬ x34.toInt = 0 := ti_ne c35
            refine lv_ldcw hx hb hown (hW _ w_8_46 rfl) dX12_sides_72 ?_
            exact tw_endi hx hb hr hlocks hK hT hS hQ ((iv_mono (iv_c (c := (-1000000)) (n := (-1000000)) (by decide)) (by decide) (by decide))) dX12_sides_75
          · have q37 : x34.toInt = 0 := ti_eq c35
            have h38 : iv 0 0 x34 := ⟨by have := (h33).1; have := ((iv_c (c := 0) (n := 0) (by decide))).1; omega, by have := (h33).2; have := ((iv_c (c := 0) (n := 0) (by decide))).2; omega⟩
            refine lv_iload_n hx hb dX12_sides_30 rfl (lv_at hl 1 rfl) ?_
            refine lv_iload_n hx hb dX12_sides_31 rfl (lv_at hl 2 rfl) ?_
            refine lv_ior hx hb dX12_sides_32 ?_
            refine tw_top (fun x40 => ?_)
            have h39 := iv_any x40
            refine lv_aload_n hx hb dX12_sides_33 rfl (lv_at hl 0 rfl) ?_
            refine tw_getrk hx hb hW hown hK hS f_X12_45_11 hz_a0 hk_a0 (b := sd) k_sd dX12_sides_34 ?_
            refine lv_iconst (v := 2) hx hb dX12_sides_37 (by decide) ?_
            refine tw_iald hx hb hK hS hz_sd hk_sd (Or.inr (by decide)) hn_sd (lo := (-2147483648)) (hi := 2147483647) (iv_c (c := 2) (n := 2) (by decide)) ⟨by decide, by decide⟩ (rg_c (k0 := 2) rfl rfl rfl) dX12_sides_38 (fun x43 k42 h41 => ?_)
            refine lv_iconst (v := (-1)) hx hb dX12_sides_39 (by decide) ?_
            refine lv_ixor hx hb dX12_sides_40 ?_
            refine tw_top (fun x45 => ?_)
            have h44 := iv_any x45
            refine lv_iand hx hb dX12_sides_41 ?_
            refine tw_top (fun x47 => ?_)
            have h46 := iv_any x47
            refine lv_if_ne (tgt := 72) hx hb dX12_sides_42 (by decide) (fun c48 => ?_) (fun c48 => ?_)
            · have q49 : ¬ x47.toInt = 0 := ti_ne c48
              refine lv_ldcw hx hb hown (hW _ w_8_46 rfl) dX12_sides_72 ?_
              exact tw_endi hx hb hr hlocks hK hT hS hQ ((iv_mono (iv_c (c := (-1000000)) (n := (-1000000)) (by decide)) (by decide) (by decide))) dX12_sides_75
            · have q50 : x47.toInt = 0 := ti_eq c48
              have h51 : iv 0 0 x47 := ⟨by have := (h46).1; have := ((iv_c (c := 0) (n := 0) (by decide))).1; omega, by have := (h46).2; have := ((iv_c (c := 0) (n := 0) (by decide))).2; omega⟩
              refine lv_aload_n hx hb dX12_sides_45 rfl (lv_at hl 0 rfl) ?_
              refine tw_getrk hx hb hW hown hK hS f_X12_45_11 hz_a0 hk_a0 (b := sd) k_sd dX12_sides_46 ?_
              refine lv_iconst (v := 4) hx hb dX12_sides_49 (by decide) ?_
              refine tw_ialk hx hb hK hS hz_sd hk_sd (Or.inr (by decide)) hn_sd (iv_c (c := 4) (n := 4) (by decide)) ⟨by decide, by decide⟩ (v := e4) k_e4 dX12_sides_50 ?_
              refine lv_i2l hx hb dX12_sides_51 rfl ?_
              refine lv_lconst (v := 1) hx hb dX12_sides_52 (by decide) ?_
              refine lv_ldc2 hx hb hown (hW _ w_7_141 rfl) dX12_sides_53 ?_
              refine tw_goi hS (md_runS (As := [.long e4.toInt64, .long 1, .long 4]) (rest := []) hx hb hml hown hW hK hT hS.1 (t_X12_in l D cy tx base Z K N Ma Ra J15 hS.2.1 (e4.toInt64) (1) (4)) s_X12_155 ⟨rfl, rfl, ⟨Nat.le_of_ble_eq_true rfl, Nat.le_of_ble_eq_true rfl⟩, ⟨Nat.le_of_ble_eq_true rfl, Nat.le_of_ble_eq_true rfl⟩⟩ rfl hl.1 rfl (Nat.le_of_ble_eq_true rfl) dX12_sides_56) rfl rfl (fun x58 H locs M55 R56 J54 hS f52 g53 E57 => ?_)
              have eM55 := Fr.nil f52 rfl
              subst eM55
              have eR56 := Fr.nil g53 rfl
              subst eR56
              obtain ⟨h_x58, p59⟩ := E57
              refine lv_if_eq (tgt := 72) hx hb dX12_sides_59 (by decide) (fun c60 => ?_) (fun c60 => ?_)
              · have q61 : x58.toInt = 0 := ti_eq c60
                have h62 : iv 0 0 x58 := ⟨by have := (h_x58).1; have := ((iv_c (c := 0) (n := 0) (by decide))).1; omega, by have := (h_x58).2; have := ((iv_c (c := 0) (n := 0) (by decide))).2; omega⟩
                refine lv_ldcw hx hb hown (hW _ w_8_46 rfl) dX12_sides_72 ?_
                exact tw_endi hx hb hr hlocks hK hT hS hQ ((iv_mono (iv_c (c := (-1000000)) (n := (-1000000)) (by decide)) (by decide) (by decide))) dX12_sides_75
              · have q63 : ¬ x58.toInt = 0 := ti_ne c60
                have h64 : iv 1 1 x58 := ⟨by have := (h_x58).1; have := ((iv_c (c := 0) (n := 0) (by decide))).1; have := ((iv_c (c := 0) (n := 0) (by decide))).2; omega, by have := (h_x58).2; have := ((iv_c (c := 0) (n := 0) (by decide))).1; have := ((iv_c (c := 0) (n := 0) (by decide))).2; omega⟩
                have h65 : iv 1 4 e4 := in2iv (p59 c60) ((jv_c (x := 1) (n := 1) (by decide))).1 ((jv_c (x := 4) (n := 4) (by decide))).2
                refine lv_iload_n hx hb dX12_sides_62 rfl (lv_at hl 3 rfl) ?_
                refine lv_i2l hx hb dX12_sides_63 rfl ?_
                refine lv_lconst (v := 0) hx hb dX12_sides_64 (by decide) ?_
                refine lv_lconst (v := 1) hx hb dX12_sides_65 (by decide) ?_
                refine tw_goi hS (md_runS (As := [.long a3.toInt64, .long 0, .long 1]) (rest := []) hx hb hml hown hW hK hT hS.1 (t_X12_in l D cy tx base Z K N Ma Ra J54 hS.2.1 (a3.toInt64) (0) (1)) s_X12_155 ⟨rfl, rfl, ⟨Nat.le_of_ble_eq_true rfl, Nat.le_of_ble_eq_true rfl⟩, ⟨Nat.le_of_ble_eq_true rfl, Nat.le_of_ble_eq_true rfl⟩⟩ rfl hl.1 rfl (Nat.le_of_ble_eq_true rfl) dX12_sides_66) rfl rfl (fun x72 H locs M69 R70 J68 hS f66 g67 E71 => ?_)
                have eM69 := Fr.nil f66 rfl
                subst eM69
                have eR70 := Fr.nil g67 rfl
                subst eR70
                obtain ⟨h_x72, p73⟩ := E71
                refine lv_if_ne (tgt := 76) hx hb dX12_sides_69 (by decide) (fun c74 => ?_) (fun c74 => ?_)
                · have q75 : ¬ x72.toInt = 0 := ti_ne c74
                  have h76 : iv 1 1 x72 := ⟨by have := (h_x72).1; have := ((iv_c (c := 0) (n := 0) (by decide))).1; have := ((iv_c (c := 0) (n := 0) (by decide))).2; omega, by have := (h_x72).2; have := ((iv_c (c := 0) (n := 0) (by decide))).1; have := ((iv_c (c := 0) (n := 0) (by decide))).2; omega⟩
                  have h77 : iv 0 1 a3 := in2iv (p73 c74) ((jv_c (x := 0) (n := 0) (by decide))).1 ((jv_c (x := 1) (n := 1) (by decide))).2
                  refine lv_iconst (v := 1) hx hb dX12_sides_76 (by decide) ?_
                  refine lv_istore (lv' := [(4, .int 1), (0, .ref (base + a0)), (1, .int a1), (2, .int a2), (3, .int a3)]) hx hb dX12_sides_77 hl (by decide) rfl (fun ls hl => ?_)
                  refine lv_iconst (v := 0) hx hb dX12_sides_79 (by decide) ?_
                  refine lv_istore (lv' := [(5, .int 0), (4, .int 1), (0, .ref (base + a0)), (1, .int a1), (2, .int a2), (3, .int a3)]) hx hb dX12_sides_80 hl (by decide) rfl (fun ls hl => ?_)
                  have W82_80 : ∀ (n_80 : Nat) (x78 : Int32) (x79 : Int32) (M80 : MT) (R81 : RT) (J82 : JT) (H : Heap) (locs : List Loc) (ls : Array Slot) (h_x78 : iv 1 6561 x78) (h_x79 : iv 0 4 x79) (w0_80 : x79.toInt ≤ e4.toInt) (w1_80 : (x79.toInt = 0 ∧ x78.toInt = 1) ∨ (x79.toInt = 1 ∧ x78.toInt = 9) ∨ (x79.toInt = 2 ∧ x78.toInt = 81) ∨ (x79.toInt = 3 ∧ x78.toInt = 729) ∨ (x79.toInt = 4 ∧ x78.toInt = 6561)) (hm_80 : 4 - x79.toInt < (n_80 : Int)) (hS : SB D cy base Z K N Lt_X12_sides LRt_X12_sides Ma Ra M80 R81 J82 s H locs) (hl : lv_has ls 6 [(4, .int x78), (5, .int x79), (0, .ref (base + a0)), (1, .int a1), (2, .int a2), (3, .int a3)]), W p l e (md_rm 6 0 0) s m args below meth c H locs 0 0 Q (F0 m 82 ls []) := by
                    intro n_80
                    induction n_80 with
                    | zero =>
                      intro x78 x79 M80 R81 J82 H locs ls h_x78 h_x79 w0_80 w1_80 hm_80 hS hl
                      exfalso
                      have := (h_a1).1; have := (h_a1).2; have := (h_a2).1; have := (h_a2).2; have := (h77).1; have := (h77).2; have := (h65).1; have := (h65).2; have := (h_x78).1; have := (h_x78).2; have := (h_x79).1; have := (h_x79).2; omega
                    | succ n_80 ih_80 =>
                      intro x78 x79 M80 R81 J82 H locs ls h_x78 h_x79 w0_80 w1_80 hm_80 hS hl
                      have f83 := hS.2.2.1
                      have g84 := hS.2.2.2
                      refine lv_iload hx hb dX12_sides_82 (lv_at hl 1 rfl) ?_
                      refine lv_aload_n hx hb dX12_sides_84 rfl (lv_at hl 2 rfl) ?_
                      have k85 : R81 a0 25 = some sd := (Fr.kp (k := 25) g84 hk_a0 rfl).trans k_sd
                      refine tw_getrk hx hb hW hown hK hS f_X12_45_11 hz_a0 hk_a0 (b := sd) k85 dX12_sides_85 ?_
                      refine lv_iconst (v := 4) hx hb dX12_sides_88 (by decide) ?_
                      have k86 : M80 sd (4 : Int32).toNatClampNeg = e4 := (Fr.kp (k := (4 : Int32).toNatClampNeg) f83 hk_sd rfl).trans k_e4
                      refine tw_ialk hx hb hK hS hz_sd hk_sd (Or.inr (by decide)) hn_sd (iv_c (c := 4) (n := 4) (by decide)) ⟨by decide, by decide⟩ (v := e4) k86 dX12_sides_89 ?_
                      refine lv_icmp_ge (tgt := 106) hx hb dX12_sides_90 (by decide) (fun c87 => ?_) (fun c87 => ?_)
                      · have q88 : e4.toInt ≤ x79.toInt := ti_le c87
                        have h89 : iv 1 4 x79 := iv_geL (y := e4) h_x79 h65 q88 (by decide)
                        refine lv_iconst (v := 0) hx hb dX12_sides_106 (by decide) ?_
                        refine lv_istore (lv' := [(5, .int 0), (4, .int x78), (0, .ref (base + a0)), (1, .int a1), (2, .int a2), (3, .int a3)]) hx hb dX12_sides_107 hl (by decide) rfl (fun ls hl => ?_)
                        have W109_91 : ∀ (n_91 : Nat) (x90 : Int32) (M91 : MT) (R92 : RT) (J93 : JT) (H : Heap) (locs : List Loc) (ls : Array Slot) (h_x90 : iv 0 6561 x90) (hm_91 : 6561 - x90.toInt < (n_91 : Int)) (hS : SB D cy base Z K N Lt_X12_sides LRt_X12_sides Ma Ra M91 R92 J93 s H locs) (hl : lv_has ls 6 [(5, .int x90), (4, .int x78), (0, .ref (base + a0)), (1, .int a1), (2, .int a2), (3, .int a3)]), W p l e (md_rm 6 0 0) s m args below meth c H locs 0 0 Q (F0 m 109 ls []) := by
                          intro n_91
                          induction n_91 with
                          | zero =>
                            intro x90 M91 R92 J93 H locs ls h_x90 hm_91 hS hl
                            exfalso
                            have := (h_a1).1; have := (h_a1).2; have := (h_a2).1; have := (h_a2).2; have := (h77).1; have := (h77).2; have := (h65).1; have := (h65).2; have := (h_x90).1; have := (h_x90).2; omega
                          | succ n_91 ih_91 =>
                            intro x90 M91 R92 J93 H locs ls h_x90 hm_91 hS hl
                            have f94 := hS.2.2.1
                            have g95 := hS.2.2.2
                            refine lv_iload hx hb dX12_sides_109 (lv_at hl 0 rfl) ?_
                            refine lv_iload hx hb dX12_sides_111 (lv_at hl 1 rfl) ?_
                            refine lv_icmp_ge (tgt := 139) hx hb dX12_sides_113 (by decide) (fun c96 => ?_) (fun c96 => ?_)
                            · have q97 : x78.toInt ≤ x90.toInt := ti_le c96
                              have h98 : iv 1 6561 x90 := iv_geL (y := x78) h_x90 h_x78 q97 (by decide)
                              have W139_101 : ∀ (n_101 : Nat) (x99 : Int32) (x100 : Int32) (M101 : MT) (R102 : RT) (J103 : JT) (H : Heap) (locs : List Loc) (ls : Array Slot) (h_x99 : iv 0 6561 x99) (h_x100 : iv 0 6561 x100) (hm_101 : x99.toInt - 0 < (n_101 : Int)) (hS : SB D cy base Z K N Lt_X12_sides LRt_X12_sides Ma Ra M101 R102 J103 s H locs) (hl : lv_has ls 6 [(4, .int x99), (5, .int x100), (0, .ref (base + a0)), (1, .int a1), (2, .int a2), (3, .int a3)]), W p l e (md_rm 6 0 0) s m args below meth c H locs 0 0 Q (F0 m 139 ls []) := by
                                intro n_101
                                induction n_101 with
                                | zero =>
                                  intro x99 x100 M101 R102 J103 H locs ls h_x99 h_x100 hm_101 hS hl
                                  exfalso
                                  have := (h_a1).1; have := (h_a1).2; have := (h_a2).1; have := (h_a2).2; have := (h77).1; have := (h77).2; have := (h65).1; have := (h65).2; have := (h_x99).1; have := (h_x99).2; omega
                                | succ n_101 ih_101 =>
                                  intro x99 x100 M101 R102 J103 H locs ls h_x99 h_x100 hm_101 hS hl
                                  have f104 := hS.2.2.1
                                  have g105 := hS.2.2.2
                                  refine lv_iload hx hb dX12_sides_139 (lv_at hl 0 rfl) ?_
                                  refine lv_bipush (v := 9) hx hb dX12_sides_141 (by decide) ?_
                                  refine lv_icmp_le (tgt := 216) hx hb dX12_sides_143 (by decide) (fun c106 => ?_) (fun c106 => ?_)
                                  · have q107 : x99.toInt ≤ 9 := ti_le c106
                                    have h108 : iv 0 9 x99 := iv_leL (y := 9) h_x99 (iv_c (c := 9) (n := 9) (by decide)) q107 (by decide)
                                    refine lv_aload_n hx hb dX12_sides_216 rfl (lv_at hl 2 rfl) ?_
                                    refine lv_iconst (v := 0) hx hb dX12_sides_217 (by decide) ?_
                                    refine lv_iconst (v := 1) hx hb dX12_sides_218 (by decide) ?_
                                    refine tw_goi hS (md_runV (As := [.int 0, .int 1]) (rest := []) hx hb hml hown hW hK hT hS.1 (t_X12_best l D cy tx base Z K N M101 R102 J103 hS.2.1 a0 hz_a0 hk_a0 0 (iv_mono (iv_c (c := 0) (n := 0) (by decide)) (by decide) (by decide)) 1 (iv_mono (iv_c (c := 1) (n := 1) (by decide)) (by decide) (by decide))) s_X12_466 ⟨rfl, rfl, ⟨Nat.le_of_ble_eq_true rfl, Nat.le_of_ble_eq_true rfl⟩, ⟨Nat.le_of_ble_eq_true rfl, Nat.le_of_ble_eq_true rfl⟩⟩ hz_a0 hk_a0 (by decide) rfl rfl hl.1 rfl (Nat.le_of_ble_eq_true rfl) dX12_sides_219) rfl rfl (fun x115 H locs M112 R113 J111 hS f109 g110 E114 => ?_)
                                    have eM112 := Fr.nil f109 rfl
                                    subst eM112
                                    have eR113 := Fr.nil g110 rfl
                                    subst eR113
                                    have h_x115 := E114
                                    refine lv_istore (lv' := [(5, .int x115), (4, .int x99), (0, .ref (base + a0)), (1, .int a1), (2, .int a2), (3, .int a3)]) hx hb dX12_sides_222 hl (by decide) rfl (fun ls hl => ?_)
                                    refine lv_iload_n hx hb dX12_sides_224 rfl (lv_at hl 5 rfl) ?_
                                    refine lv_if_ne (tgt := 237) hx hb dX12_sides_225 (by decide) (fun c116 => ?_) (fun c116 => ?_)
                                    · have q117 : ¬ a3.toInt = 0 := ti_ne c116
                                      have h118 : iv 1 1 a3 := ⟨by have := (h77).1; have := ((iv_c (c := 0) (n := 0) (by decide))).1; have := ((iv_c (c := 0) (n := 0) (by decide))).2; omega, by have := (h77).2; have := ((iv_c (c := 0) (n := 0) (by decide))).1; have := ((iv_c (c := 0) (n := 0) (by decide))).2; omega⟩
                                      refine lv_iload hx hb dX12_sides_237 (lv_at hl 0 rfl) ?_
                                      refine lv_if_ne (tgt := 246) hx hb dX12_sides_239 (by decide) (fun c119 => ?_) (fun c119 => ?_)
                                      · have q120 : ¬ x115.toInt = 0 := ti_ne c119
                                        refine lv_iload hx hb dX12_sides_246 (lv_at hl 0 rfl) ?_
                                        refine lv_iconst (v := 1) hx hb dX12_sides_248 (by decide) ?_
                                        refine lv_icmp_ne (tgt := 256) hx hb dX12_sides_249 (by decide) (fun c121 => ?_) (fun c121 => ?_)
                                        · have q122 : ¬ x115.toInt = 1 := ti_ne c121
                                          refine lv_iconst (v := 2) hx hb dX12_sides_256 (by decide) ?_
                                          exact tw_endi hx hb hr hlocks hK hT hS hQ ((iv_mono (iv_c (c := 2) (n := 2) (by decide)) (by decide) (by decide))) dX12_sides_257
                                        · have q123 : x115.toInt = 1 := ti_eq c121
                                          have h124 : iv 1 1 x115 := ⟨by have := (h_x115).1; have := ((iv_c (c := 1) (n := 1) (by decide))).1; omega, by have := (h_x115).2; have := ((iv_c (c := 1) (n := 1) (by decide))).2; omega⟩
                                          refine lv_iconst (v := 0) hx hb dX12_sides_252 (by decide) ?_
                                          refine lv_goto (tgt := 257) hx hb dX12_sides_253 (by decide) ?_
                                          exact tw_endi hx hb hr hlocks hK hT hS hQ ((iv_mono (iv_c (c := 0) (n := 0) (by decide)) (by decide) (by decide))) dX12_sides_257
                                      · have q125 : x115.toInt = 0 := ti_eq c119
                                        have h126 : iv 0 0 x115 := ⟨by have := (h_x115).1; have := ((iv_c (c := 0) (n := 0) (by decide))).1; omega, by have := (h_x115).2; have := ((iv_c (c := 0) (n := 0) (by decide))).2; omega⟩
                                        refine lv_iconst (v := 1) hx hb dX12_sides_242 (by decide) ?_
                                        refine lv_goto (tgt := 257) hx hb dX12_sides_243 (by decide) ?_
                                        exact tw_endi hx hb hr hlocks hK hT hS hQ ((iv_mono (iv_c (c := 1) (n := 1) (by decide)) (by decide) (by decide))) dX12_sides_257
                                    · have q127 : a3.toInt = 0 := ti_eq c116
                                      have h128 : iv 0 0 a3 := ⟨by have := (h77).1; have := ((iv_c (c := 0) (n := 0) (by decide))).1; omega, by have := (h77).2; have := ((iv_c (c := 0) (n := 0) (by decide))).2; omega⟩
                                      refine lv_aload_n hx hb dX12_sides_228 rfl (lv_at hl 2 rfl) ?_
                                      refine lv_iconst (v := 0) hx hb dX12_sides_229 (by decide) ?_
                                      refine lv_iconst (v := 0) hx hb dX12_sides_230 (by decide) ?_
                                      refine tw_goi hS (md_runV (As := [.int 0, .int 0]) (rest := []) hx hb hml hown hW hK hT hS.1 (t_X12_best l D cy tx base Z K N M101 R102 J111 hS.2.1 a0 hz_a0 hk_a0 0 (iv_mono (iv_c (c := 0) (n := 0) (by decide)) (by decide) (by decide)) 0 (iv_mono (iv_c (c := 0) (n := 0) (by decide)) (by decide) (by decide))) s_X12_466 ⟨rfl, rfl, ⟨Nat.le_of_ble_eq_true rfl, Nat.le_of_ble_eq_true rfl⟩, ⟨Nat.le_of_ble_eq_true rfl, Nat.le_of_ble_eq_true rfl⟩⟩ hz_a0 hk_a0 (by decide) rfl rfl hl.1 rfl (Nat.le_of_ble_eq_true rfl) dX12_sides_231) rfl rfl (fun x135 H locs M132 R133 J131 hS f129 g130 E134 => ?_)
                                      have eM132 := Fr.nil f129 rfl
                                      subst eM132
                                      have eR133 := Fr.nil g130 rfl
                                      subst eR133
                                      have h_x135 := E134
                                      refine lv_goto (tgt := 257) hx hb dX12_sides_234 (by decide) ?_
                                      exact tw_endi hx hb hr hlocks hK hT hS hQ (h_x135) dX12_sides_257
                                  · have q136 : 9 < x99.toInt := ti_nle c106
                                    have h137 : iv 10 6561 x99 := iv_gtL (y := 9) h_x99 (iv_c (c := 9) (n := 9) (by decide)) q136 (by decide)
                                    refine lv_iload hx hb dX12_sides_146 (lv_at hl 0 rfl) ?_
                                    refine lv_bipush (v := 9) hx hb dX12_sides_148 (by decide) ?_
                                    refine tw_idiv (lo := 0) (hi := 729) hx hb h137 (iv_c (c := 9) (n := 9) (by decide)) ⟨by decide, by decide⟩ ⟨by decide, by decide⟩ dX12_sides_150 (fun x140 e139 h138 => ?_)
                                    have e139 : x140.toInt = x99.toInt / 9 := e139
                                    refine lv_istore (lv' := [(4, .int x140), (5, .int x100), (0, .ref (base + a0)), (1, .int a1), (2, .int a2), (3, .int a3)]) hx hb dX12_sides_151 hl (by decide) rfl (fun ls hl => ?_)
                                    refine lv_iconst (v := 0) hx hb dX12_sides_153 (by decide) ?_
                                    refine lv_istore (lv' := [(5, .int 0), (4, .int x140), (0, .ref (base + a0)), (1, .int a1), (2, .int a2), (3, .int a3)]) hx hb dX12_sides_154 hl (by decide) rfl (fun ls hl => ?_)
                                    have W156_142 : ∀ (n_142 : Nat) (x141 : Int32) (M142 : MT) (R143 : RT) (J144 : JT) (H : Heap) (locs : List Loc) (ls : Array Slot) (h_x141 : iv 0 729 x141) (hm_142 : 729 - x141.toInt < (n_142 : Int)) (hS : SB D cy base Z K N Lt_X12_sides LRt_X12_sides Ma Ra M142 R143 J144 s H locs) (hl : lv_has ls 6 [(5, .int x141), (4, .int x140), (0, .ref (base + a0)), (1, .int a1), (2, .int a2), (3, .int a3)]), W p l e (md_rm 6 0 0) s m args below meth c H locs 0 0 Q (F0 m 156 ls []) := by
                                      intro n_142
                                      induction n_142 with
                                      | zero =>
                                        intro x141 M142 R143 J144 H locs ls h_x141 hm_142 hS hl
                                        exfalso
                                        have := (h_a1).1; have := (h_a1).2; have := (h_a2).1; have := (h_a2).2; have := (h77).1; have := (h77).2; have := (h65).1; have := (h65).2; have := (h_x141).1; have := (h_x141).2; omega
                                      | succ n_142 ih_142 =>
                                        intro x141 M142 R143 J144 H locs ls h_x141 hm_142 hS hl
                                        have f145 := hS.2.2.1
                                        have g146 := hS.2.2.2
                                        refine lv_iload hx hb dX12_sides_156 (lv_at hl 0 rfl) ?_
                                        refine lv_iload hx hb dX12_sides_158 (lv_at hl 1 rfl) ?_
                                        refine lv_icmp_ge (tgt := 183) hx hb dX12_sides_160 (by decide) (fun c147 => ?_) (fun c147 => ?_)
                                        · have q148 : x140.toInt ≤ x141.toInt := ti_le c147
                                          refine lv_iconst (v := 0) hx hb dX12_sides_183 (by decide) ?_
                                          refine lv_istore (lv' := [(5, .int 0), (4, .int x140), (0, .ref (base + a0)), (1, .int a1), (2, .int a2), (3, .int a3)]) hx hb dX12_sides_184 hl (by decide) rfl (fun ls hl => ?_)
                                          have W186_150 : ∀ (n_150 : Nat) (x149 : Int32) (M150 : MT) (R151 : RT) (J152 : JT) (H : Heap) (locs : List Loc) (ls : Array Slot) (h_x149 : iv 0 729 x149) (hm_150 : 729 - x149.toInt < (n_150 : Int)) (hS : SB D cy base Z K N Lt_X12_sides LRt_X12_sides Ma Ra M150 R151 J152 s H locs) (hl : lv_has ls 6 [(5, .int x149), (4, .int x140), (0, .ref (base + a0)), (1, .int a1), (2, .int a2), (3, .int a3)]), W p l e (md_rm 6 0 0) s m args below meth c H locs 0 0 Q (F0 m 186 ls []) := by
                                            intro n_150
                                            induction n_150 with
                                            | zero =>
                                              intro x149 M150 R151 J152 H locs ls h_x149 hm_150 hS hl
                                              exfalso
                                              have := (h_a1).1; have := (h_a1).2; have := (h_a2).1; have := (h_a2).2; have := (h77).1; have := (h77).2; have := (h65).1; have := (h65).2; have := (h_x149).1; have := (h_x149).2; omega
                                            | succ n_150 ih_150 =>
                                              intro x149 M150 R151 J152 H locs ls h_x149 hm_150 hS hl
                                              have f153 := hS.2.2.1
                                              have g154 := hS.2.2.2
                                              refine lv_iload hx hb dX12_sides_186 (lv_at hl 0 rfl) ?_
                                              refine lv_iload hx hb dX12_sides_188 (lv_at hl 1 rfl) ?_
                                              refine lv_icmp_ge (tgt := 213) hx hb dX12_sides_190 (by decide) (fun c155 => ?_) (fun c155 => ?_)
                                              · have q156 : x140.toInt ≤ x149.toInt := ti_le c155
                                                refine lv_goto (tgt := 139) hx hb dX12_sides_213 (by decide) ?_
                                                have hm157 : x140.toInt - 0 < (n_101 : Int) := by
                                                  have := (h_a1).1; have := (h_a1).2; have := (h_a2).1; have := (h_a2).2; have := (h77).1; have := (h77).2; have := (h65).1; have := (h65).2; have := (h138).1; have := (h138).2; have := (h137).1; have := (h137).2; omega
                                                exact ih_101 x140 x149 M150 R151 J152 H locs _ (iv_mono h138 (by decide) (by decide)) (iv_mono h_x149 (by decide) (by decide)) hm157 hS (lv_sub hl [1, 0, 2, 3, 4, 5] rfl)
                                              · have q158 : x149.toInt < x140.toInt := ti_nle c155
                                                have h159 : iv 0 728 x149 := iv_ltL (y := x140) h_x149 h138 q158 (by decide)
                                                have h160 : iv 1 729 x140 := iv_gtL (y := x149) h138 h_x149 q158 (by decide)
                                                refine lv_aload_n hx hb dX12_sides_193 rfl (lv_at hl 2 rfl) ?_
                                                refine tw_getr hx hb hW hown hK hS f_X12_81_11 hz_a0 hk_a0 (t := 14) (n := 6561) rfl dX12_sides_194 (fun b161 k162 hz_b161 hk_b161 hn_b161 => ?_)
                                                have hn_b161 := hn_b161 (by decide)
                                                refine lv_iload hx hb dX12_sides_197 (lv_at hl 0 rfl) ?_
                                                refine lv_aload_n hx hb dX12_sides_199 rfl (lv_at hl 2 rfl) ?_
                                                refine tw_getr hx hb hW hown hK hS f_X12_84_11 hz_a0 hk_a0 (t := 14) (n := 6561) rfl dX12_sides_200 (fun b163 k164 hz_b163 hk_b163 hn_b163 => ?_)
                                                have hn_b163 := hn_b163 (by decide)
                                                refine lv_iload hx hb dX12_sides_203 (lv_at hl 0 rfl) ?_
                                                refine tw_iald hx hb hK hS hz_b163 hk_b163 (Or.inl rfl) hn_b163 (lo := (-2147483648)) (hi := 2147483647) h159 ⟨by decide, by decide⟩ rg_u14 dX12_sides_205 (fun x167 k166 h165 => ?_)
                                                refine tw_iast hx hb hK hS hz_b161 hk_b161 (Or.inl rfl) hn_b161 h159 ⟨by decide, by decide⟩ h165 (rg_s14 ⟨by decide, by decide⟩) (jl := 0) (jh := 1999999) ⟨by decide, by decide⟩ rfl dX12_sides_206 (fun H locs M170 hS k168 f169 => ?_)
                                                refine tw_iinc (lv' := fun x173 => [(5, .int x173), (4, .int x140), (0, .ref (base + a0)), (1, .int a1), (2, .int a2), (3, .int a3)]) (lo := 1) (hi := 729) hx hb dX12_sides_207 hl (k := 0) rfl h159 (by decide) ⟨by decide, by decide⟩ ⟨by decide, by decide⟩ (by decide) (fun _ => rfl) (fun x173 ls e172 h171 hl => ?_)
                                                refine lv_goto (tgt := 186) hx hb dX12_sides_210 (by decide) ?_
                                                have hm174 : 729 - x173.toInt < (n_150 : Int) := by
                                                  have := (h_a1).1; have := (h_a1).2; have := (h_a2).1; have := (h_a2).2; have := (h77).1; have := (h77).2; have := (h65).1; have := (h65).2; have := (h159).1; have := (h159).2; have := (h171).1; have := (h171).2; omega
                                                exact ih_150 x173 M170 R151 J152 H locs _ (iv_mono h171 (by decide) (by decide)) hm174 hS hl
                                          have hm175 : 729 - (0 : Int32).toInt < (((730 : Nat) : Int) : Int) := by
                                            have := (h_a1).1; have := (h_a1).2; have := (h_a2).1; have := (h_a2).2; have := (h77).1; have := (h77).2; have := (h65).1; have := (h65).2; have : (0 : Int32).toInt = 0 := (by decide); omega
                                          exact W186_150 730 0 M142 R143 J144 H locs _ (iv_mono (iv_c (c := 0) (n := 0) (by decide)) (by decide) (by decide)) hm175 hS hl
                                        · have q176 : x141.toInt < x140.toInt := ti_nle c147
                                          have h177 : iv 0 728 x141 := iv_ltL (y := x140) h_x141 h138 q176 (by decide)
                                          have h178 : iv 1 729 x140 := iv_gtL (y := x141) h138 h_x141 q176 (by decide)
                                          refine lv_aload_n hx hb dX12_sides_163 rfl (lv_at hl 2 rfl) ?_
                                          refine tw_getr hx hb hW hown hK hS f_X12_84_11 hz_a0 hk_a0 (t := 14) (n := 6561) rfl dX12_sides_164 (fun b179 k180 hz_b179 hk_b179 hn_b179 => ?_)
                                          have hn_b179 := hn_b179 (by decide)
                                          refine lv_iload hx hb dX12_sides_167 (lv_at hl 0 rfl) ?_
                                          refine lv_aload_n hx hb dX12_sides_169 rfl (lv_at hl 2 rfl) ?_
                                          refine lv_iload hx hb dX12_sides_170 (lv_at hl 0 rfl) ?_
                                          refine lv_iconst (v := 0) hx hb dX12_sides_172 (by decide) ?_
                                          refine tw_goi hS (md_runV (As := [.int x141, .int 0]) (rest := [.int x141, .ref (base + b179)]) hx hb hml hown hW hK hT hS.1 (t_X12_best l D cy tx base Z K N M142 R143 J144 hS.2.1 a0 hz_a0 hk_a0 x141 h177 0 (iv_mono (iv_c (c := 0) (n := 0) (by decide)) (by decide) (by decide))) s_X12_466 ⟨rfl, rfl, ⟨Nat.le_of_ble_eq_true rfl, Nat.le_of_ble_eq_true rfl⟩, ⟨Nat.le_of_ble_eq_true rfl, Nat.le_of_ble_eq_true rfl⟩⟩ hz_a0 hk_a0 (by decide) rfl rfl hl.1 rfl (Nat.le_of_ble_eq_true rfl) dX12_sides_173) rfl rfl (fun x187 H locs M184 R185 J183 hS f181 g182 E186 => ?_)
                                          have eM184 := Fr.nil f181 rfl
                                          subst eM184
                                          have eR185 := Fr.nil g182 rfl
                                          subst eR185
                                          have h_x187 := E186
                                          refine tw_iast hx hb hK hS hz_b179 hk_b179 (Or.inl rfl) hn_b179 h177 ⟨by decide, by decide⟩ h_x187 (rg_s14 ⟨by decide, by decide⟩) (jl := 0) (jh := 1999999) ⟨by decide, by decide⟩ rfl dX12_sides_176 (fun H locs M190 hS k188 f189 => ?_)
                                          refine tw_iinc (lv' := fun x193 => [(5, .int x193), (4, .int x140), (0, .ref (base + a0)), (1, .int a1), (2, .int a2), (3, .int a3)]) (lo := 1) (hi := 729) hx hb dX12_sides_177 hl (k := 0) rfl h177 (by decide) ⟨by decide, by decide⟩ ⟨by decide, by decide⟩ (by decide) (fun _ => rfl) (fun x193 ls e192 h191 hl => ?_)
                                          refine lv_goto (tgt := 156) hx hb dX12_sides_180 (by decide) ?_
                                          have hm194 : 729 - x193.toInt < (n_142 : Int) := by
                                            have := (h_a1).1; have := (h_a1).2; have := (h_a2).1; have := (h_a2).2; have := (h77).1; have := (h77).2; have := (h65).1; have := (h65).2; have := (h177).1; have := (h177).2; have := (h191).1; have := (h191).2; omega
                                          exact ih_142 x193 M190 R143 J183 H locs _ (iv_mono h191 (by decide) (by decide)) hm194 hS hl
                                    have hm195 : 729 - (0 : Int32).toInt < (((730 : Nat) : Int) : Int) := by
                                      have := (h_a1).1; have := (h_a1).2; have := (h_a2).1; have := (h_a2).2; have := (h77).1; have := (h77).2; have := (h65).1; have := (h65).2; have : (0 : Int32).toInt = 0 := (by decide); omega
                                    exact W156_142 730 0 M101 R102 J103 H locs _ (iv_mono (iv_c (c := 0) (n := 0) (by decide)) (by decide) (by decide)) hm195 hS hl
                              have hm196 : x78.toInt - 0 < (((6562 : Nat) : Int) : Int) := by
                                have := (h_a1).1; have := (h_a1).2; have := (h_a2).1; have := (h_a2).2; have := (h77).1; have := (h77).2; have := (h65).1; have := (h65).2; have := (h_x78).1; have := (h_x78).2; have := (h89).1; have := (h89).2; omega
                              exact W139_101 6562 x78 x90 M91 R92 J93 H locs _ (iv_mono h_x78 (by decide) (by decide)) (iv_mono h98 (by decide) (by decide)) hm196 hS (lv_sub hl [1, 0, 2, 3, 4, 5] rfl)
                            · have q197 : x90.toInt < x78.toInt := ti_nle c96
                              have h198 : iv 0 6560 x90 := iv_ltL (y := x78) h_x90 h_x78 q197 (by decide)
                              refine lv_aload_n hx hb dX12_sides_116 rfl (lv_at hl 2 rfl) ?_
                              refine tw_getr hx hb hW hown hK hS f_X12_81_11 hz_a0 hk_a0 (t := 14) (n := 6561) rfl dX12_sides_117 (fun b199 k200 hz_b199 hk_b199 hn_b199 => ?_)
                              have hn_b199 := hn_b199 (by decide)
                              refine lv_iload hx hb dX12_sides_120 (lv_at hl 0 rfl) ?_
                              refine lv_aload_n hx hb dX12_sides_122 rfl (lv_at hl 2 rfl) ?_
                              refine lv_iload_n hx hb dX12_sides_123 rfl (lv_at hl 3 rfl) ?_
                              refine lv_iload_n hx hb dX12_sides_124 rfl (lv_at hl 4 rfl) ?_
                              refine lv_iload hx hb dX12_sides_125 (lv_at hl 0 rfl) ?_
                              refine lv_iload hx hb dX12_sides_127 (lv_at hl 1 rfl) ?_
                              have k201 : R92 a0 25 = some sd := (Fr.kp (k := 25) g95 hk_a0 rfl).trans k_sd
                              have k202 : M91 sd (4 : Int32).toNatClampNeg = e4 := (Fr.kp (k := (4 : Int32).toNatClampNeg) f94 hk_sd rfl).trans k_e4
                              have q203 : (e4.toInt = 0 ∧ x78.toInt = 1) ∨ (e4.toInt = 1 ∧ x78.toInt = 9) ∨ (e4.toInt = 2 ∧ x78.toInt = 81) ∨ (e4.toInt = 3 ∧ x78.toInt = 729) ∨ (e4.toInt = 4 ∧ x78.toInt = 6561) := by
                                have := (h_a1).1; have := (h_a1).2; have := (h_a2).1; have := (h_a2).2; have := (h77).1; have := (h77).2; have := (h65).1; have := (h65).2; have := (h_x78).1; have := (h_x78).2; have := (h89).1; have := (h89).2; omega
                              refine tw_goi hS (md_runV (As := [.int a1, .int a2, .int x90, .int x78]) (rest := [.int x90, .ref (base + b199)]) hx hb hml hown hW hK hT hS.1 (t_X12_goes l D cy tx base Z K N M91 R92 J93 hS.2.1 a0 hz_a0 hk_a0 a1 h_a1 a2 h_a2 x90 (iv_mono h198 (by decide) (by decide)) x78 h_x78 (Codes.fr co_a0 hTy hz_a0 hk_a0 hS.2.2.1 hS.2.2.2 rfl) sd k201 e4 k202 (iv_mono h65 (by decide) (by decide)) q203) s_X12_462 ⟨rfl, rfl, ⟨Nat.le_of_ble_eq_true rfl, Nat.le_of_ble_eq_true rfl⟩, ⟨Nat.le_of_ble_eq_true rfl, Nat.le_of_ble_eq_true rfl⟩⟩ hz_a0 hk_a0 (by decide) rfl rfl hl.1 rfl (Nat.le_of_ble_eq_true rfl) dX12_sides_129) rfl rfl (fun x210 H locs M207 R208 J206 hS f204 g205 E209 => ?_)
                              have eR208 := Fr.nil g205 rfl
                              subst eR208
                              have h_x210 := E209
                              refine tw_iast hx hb hK hS hz_b199 hk_b199 (Or.inl rfl) hn_b199 h198 ⟨by decide, by decide⟩ h_x210 (rg_s14 ⟨by decide, by decide⟩) (jl := 0) (jh := 1999999) ⟨by decide, by decide⟩ rfl dX12_sides_132 (fun H locs M213 hS k211 f212 => ?_)
                              refine tw_iinc (lv' := fun x216 => [(5, .int x216), (4, .int x78), (0, .ref (base + a0)), (1, .int a1), (2, .int a2), (3, .int a3)]) (lo := 1) (hi := 6561) hx hb dX12_sides_133 hl (k := 0) rfl h198 (by decide) ⟨by decide, by decide⟩ ⟨by decide, by decide⟩ (by decide) (fun _ => rfl) (fun x216 ls e215 h214 hl => ?_)
                              refine lv_goto (tgt := 109) hx hb dX12_sides_136 (by decide) ?_
                              have hm217 : 6561 - x216.toInt < (n_91 : Int) := by
                                have := (h_a1).1; have := (h_a1).2; have := (h_a2).1; have := (h_a2).2; have := (h77).1; have := (h77).2; have := (h65).1; have := (h65).2; have := (h214).1; have := (h214).2; have := (h198).1; have := (h198).2; omega
                              exact ih_91 x216 M213 R92 J206 H locs _ (iv_mono h214 (by decide) (by decide)) hm217 hS hl
                        have hm218 : 6561 - (0 : Int32).toInt < (((6562 : Nat) : Int) : Int) := by
                          have := (h_a1).1; have := (h_a1).2; have := (h_a2).1; have := (h_a2).2; have := (h77).1; have := (h77).2; have := (h65).1; have := (h65).2; have : (0 : Int32).toInt = 0 := (by decide); omega
                        exact W109_91 6562 0 M80 R81 J82 H locs _ (iv_mono (iv_c (c := 0) (n := 0) (by decide)) (by decide) (by decide)) hm218 hS hl
                      · have q219 : x79.toInt < e4.toInt := ti_nle c87
                        have h220 : iv 0 3 x79 := iv_ltL (y := e4) h_x79 h65 q219 (by decide)
                        refine lv_iload hx hb dX12_sides_93 (lv_at hl 0 rfl) ?_
                        refine lv_bipush (v := 9) hx hb dX12_sides_95 (by decide) ?_
                        refine tw_imulc (k := 9) (lo := 9) (hi := 59049) hx hb h_x78 (by decide) (by decide) ⟨by decide, by decide⟩ ⟨by decide, by decide⟩ dX12_sides_97 (fun x223 e222 h221 => ?_)
                        refine lv_istore (lv' := [(4, .int x223), (5, .int x79), (0, .ref (base + a0)), (1, .int a1), (2, .int a2), (3, .int a3)]) hx hb dX12_sides_98 hl (by decide) rfl (fun ls hl => ?_)
                        refine tw_iinc (lv' := fun x226 => [(5, .int x226), (4, .int x223), (0, .ref (base + a0)), (1, .int a1), (2, .int a2), (3, .int a3)]) (lo := 1) (hi := 4) hx hb dX12_sides_100 hl (k := 1) rfl h220 (by decide) ⟨by decide, by decide⟩ ⟨by decide, by decide⟩ (by decide) (fun _ => rfl) (fun x226 ls e225 h224 hl => ?_)
                        refine lv_goto (tgt := 82) hx hb dX12_sides_103 (by decide) ?_
                        have h227 : iv 1 6561 x223 := by
                          have := (h_a1).1; have := (h_a1).2; have := (h_a2).1; have := (h_a2).2; have := (h77).1; have := (h77).2; have := (h65).1; have := (h65).2; have := (h221).1; have := (h221).2; have := (h224).1; have := (h224).2; have := (h_x78).1; have := (h_x78).2; have := (h220).1; have := (h220).2; exact ⟨by omega, by omega⟩
                        have w228 : x226.toInt ≤ e4.toInt := by
                          have := (h_a1).1; have := (h_a1).2; have := (h_a2).1; have := (h_a2).2; have := (h77).1; have := (h77).2; have := (h65).1; have := (h65).2; have := (h221).1; have := (h221).2; have := (h224).1; have := (h224).2; have := (h_x78).1; have := (h_x78).2; have := (h220).1; have := (h220).2; omega
                        have w229 : (x226.toInt = 0 ∧ x223.toInt = 1) ∨ (x226.toInt = 1 ∧ x223.toInt = 9) ∨ (x226.toInt = 2 ∧ x223.toInt = 81) ∨ (x226.toInt = 3 ∧ x223.toInt = 729) ∨ (x226.toInt = 4 ∧ x223.toInt = 6561) := by
                          have := (h_a1).1; have := (h_a1).2; have := (h_a2).1; have := (h_a2).2; have := (h77).1; have := (h77).2; have := (h65).1; have := (h65).2; have := (h221).1; have := (h221).2; have := (h224).1; have := (h224).2; have := (h_x78).1; have := (h_x78).2; have := (h220).1; have := (h220).2; omega
                        have hm230 : 4 - x226.toInt < (n_80 : Int) := by
                          have := (h_a1).1; have := (h_a1).2; have := (h_a2).1; have := (h_a2).2; have := (h77).1; have := (h77).2; have := (h65).1; have := (h65).2; have := (h221).1; have := (h221).2; have := (h224).1; have := (h224).2; have := (h_x78).1; have := (h_x78).2; have := (h220).1; have := (h220).2; omega
                        exact ih_80 x223 x226 M80 R81 J82 H locs _ h227 (iv_mono h224 (by decide) (by decide)) w228 w229 hm230 hS (lv_sub hl [1, 0, 2, 3, 4, 5] rfl)
                  have w231 : (0 : Int32).toInt ≤ e4.toInt := by
                    have := (h_a1).1; have := (h_a1).2; have := (h_a2).1; have := (h_a2).2; have := (h77).1; have := (h77).2; have := (h65).1; have := (h65).2; have : (0 : Int32).toInt = 0 := (by decide); omega
                  have w232 : ((0 : Int32).toInt = 0 ∧ (1 : Int32).toInt = 1) ∨ ((0 : Int32).toInt = 1 ∧ (1 : Int32).toInt = 9) ∨ ((0 : Int32).toInt = 2 ∧ (1 : Int32).toInt = 81) ∨ ((0 : Int32).toInt = 3 ∧ (1 : Int32).toInt = 729) ∨ ((0 : Int32).toInt = 4 ∧ (1 : Int32).toInt = 6561) := by
                    have := (h_a1).1; have := (h_a1).2; have := (h_a2).1; have := (h_a2).2; have := (h77).1; have := (h77).2; have := (h65).1; have := (h65).2; have : (0 : Int32).toInt = 0 := (by decide); have : (1 : Int32).toInt = 1 := (by decide); omega
                  have hm233 : 4 - (0 : Int32).toInt < (((5 : Nat) : Int) : Int) := by
                    have := (h_a1).1; have := (h_a1).2; have := (h_a2).1; have := (h_a2).2; have := (h77).1; have := (h77).2; have := (h65).1; have := (h65).2; have : (0 : Int32).toInt = 0 := (by decide); omega
                  exact W82_80 5 1 0 Ma Ra J68 H locs _ (iv_mono (iv_c (c := 1) (n := 1) (by decide)) (by decide) (by decide)) (iv_mono (iv_c (c := 0) (n := 0) (by decide)) (by decide) (by decide)) w231 w232 hm233 hS (lv_sub hl [1, 0, 2, 3, 4, 5] rfl)
                · have q234 : x72.toInt = 0 := ti_eq c74
                  have h235 : iv 0 0 x72 := ⟨by have := (h_x72).1; have := ((iv_c (c := 0) (n := 0) (by decide))).1; omega, by have := (h_x72).2; have := ((iv_c (c := 0) (n := 0) (by decide))).2; omega⟩
                  refine lv_ldcw hx hb hown (hW _ w_8_46 rfl) dX12_sides_72 ?_
                  exact tw_endi hx hb hr hlocks hK hT hS hQ ((iv_mono (iv_c (c := (-1000000)) (n := (-1000000)) (by decide)) (by decide) (by decide))) dX12_sides_75
def Lt_X12_status : WL := []
def LRt_X12_status : WL := []
set_option maxRecDepth 100000 in
set_option maxHeartbeats 4000000 in
theorem t_X12_status (l : Launch) (D : va_G) (cy : Nat → ClassId) (tx : (Nat → Nat) × (Nat → Nat)) (base Z : Nat) (K N : Nat → Nat) (Ma : MT) (Ra : RT) (Ja : JT) (hTy : Ty Z K N Ma Ra) (a0 : Nat) (hz_a0 : a0 < Z) (hk_a0 : K a0 = 12) (a1 : Int32) (h_a1 : iv (-2147483648) 2147483647 a1) : Met l yX12_status [Cond.code yX12_status cX12_status 2 (some .int)] (md_rm 2 0 0) (va_Pc [.ref (base + a0), .int a1] (md_U D cy tx base Z K N Ma Ra Ja)) (mQi D cy tx base (fun r u => TP Z K N Lt_X12_status LRt_X12_status Ma Ra u ∧ (iv (-2147483648) 2147483647 r))) 0 0 (fun q => base ≤ q) := by
  refine tw_ofW (L := Lt_X12_status) (LR := LRt_X12_status) (by decide) (Nat.le_of_ble_eq_true rfl) hTy ?_
  intro p e s m args below meth c Q ls hx hb hr hlocks hown hml hW hK hT hS hQ hl
  have hl : lv_has ls 2 [(0, .ref (base + a0)), (1, .int a1)] := hl
  refine lv_iload_n hx hb dX12_status_0 rfl (lv_at hl 1 rfl) ?_
  refine lv_i2l hx hb dX12_status_1 rfl ?_
  refine lv_lconst (v := 0) hx hb dX12_status_2 (by decide) ?_
  refine lv_lconst (v := 1) hx hb dX12_status_3 (by decide) ?_
  refine tw_goi hS (md_runS (As := [.long a1.toInt64, .long 0, .long 1]) (rest := []) hx hb hml hown hW hK hT hS.1 (t_X12_in l D cy tx base Z K N Ma Ra Ja hS.2.1 (a1.toInt64) (0) (1)) s_X12_155 ⟨rfl, rfl, ⟨Nat.le_of_ble_eq_true rfl, Nat.le_of_ble_eq_true rfl⟩, ⟨Nat.le_of_ble_eq_true rfl, Nat.le_of_ble_eq_true rfl⟩⟩ rfl hl.1 rfl (Nat.le_of_ble_eq_true rfl) dX12_status_4) rfl rfl (fun x7 H locs M4 R5 J3 hS f1 g2 E6 => ?_)
  have eM4 := Fr.nil f1 rfl
  subst eM4
  have eR5 := Fr.nil g2 rfl
  subst eR5
  obtain ⟨h_x7, p8⟩ := E6
  refine lv_if_eq (tgt := 19) hx hb dX12_status_7 (by decide) (fun c9 => ?_) (fun c9 => ?_)
  · have q10 : x7.toInt = 0 := ti_eq c9
    have h11 : iv 0 0 x7 := ⟨by have := (h_x7).1; have := ((iv_c (c := 0) (n := 0) (by decide))).1; omega, by have := (h_x7).2; have := ((iv_c (c := 0) (n := 0) (by decide))).2; omega⟩
    refine lv_iconst (v := (-1)) hx hb dX12_status_19 (by decide) ?_
    exact tw_endi hx hb hr hlocks hK hT hS hQ ((iv_mono (iv_c (c := (-1)) (n := (-1)) (by decide)) (by decide) (by decide))) dX12_status_20
  · have q12 : ¬ x7.toInt = 0 := ti_ne c9
    have h13 : iv 1 1 x7 := ⟨by have := (h_x7).1; have := ((iv_c (c := 0) (n := 0) (by decide))).1; have := ((iv_c (c := 0) (n := 0) (by decide))).2; omega, by have := (h_x7).2; have := ((iv_c (c := 0) (n := 0) (by decide))).1; have := ((iv_c (c := 0) (n := 0) (by decide))).2; omega⟩
    have h14 : iv 0 1 a1 := in2iv (p8 c9) ((jv_c (x := 0) (n := 0) (by decide))).1 ((jv_c (x := 1) (n := 1) (by decide))).2
    refine lv_aload_n hx hb dX12_status_10 rfl (lv_at hl 0 rfl) ?_
    refine tw_getr hx hb hW hown hK hS f_X12_48_11 hz_a0 hk_a0 (t := 14) (n := 2) rfl dX12_status_11 (fun b15 k16 hz_b15 hk_b15 hn_b15 => ?_)
    have hn_b15 := hn_b15 (by decide)
    refine lv_iload_n hx hb dX12_status_14 rfl (lv_at hl 1 rfl) ?_
    refine tw_iald hx hb hK hS hz_b15 hk_b15 (Or.inl rfl) hn_b15 (lo := (-2147483648)) (hi := 2147483647) h14 ⟨by decide, by decide⟩ rg_u14 dX12_status_15 (fun x19 k18 h17 => ?_)
    refine lv_goto (tgt := 20) hx hb dX12_status_16 (by decide) ?_
    exact tw_endi hx hb hr hlocks hK hT hS hQ (h17) dX12_status_20
def Lt_X12_tells : WL := [(12, 28, 29), (12, 31, 33), (14, 0, 2000000), (30, 0, 2000000)]
def LRt_X12_tells : WL := []
set_option maxRecDepth 100000 in
set_option maxHeartbeats 4000000 in
theorem t_X12_tells (l : Launch) (D : va_G) (cy : Nat → ClassId) (tx : (Nat → Nat) × (Nat → Nat)) (base Z : Nat) (K N : Nat → Nat) (Ma : MT) (Ra : RT) (Ja : JT) (hTy : Ty Z K N Ma Ra) (a0 : Nat) (hz_a0 : a0 < Z) (hk_a0 : K a0 = 12) (a1 : Int32) (h_a1 : iv (-2147483648) 2147483647 a1) (a2 : Int32) (h_a2 : iv (-2147483648) 2147483647 a2) (sd : Nat) (k_sd : Ra a0 25 = some sd) (e0 : Int32) (k_e0 : Ma sd (0 : Int32).toNatClampNeg = e0) (h_e0 : iv 0 10 e0) : Met l yX12_tells [Cond.code yX12_tells cX12_tells 7 (some .int)] (md_rm 7 0 0) (va_Pc [.ref (base + a0), .int a1, .int a2] (md_U D cy tx base Z K N Ma Ra Ja)) (mQi D cy tx base (fun r u => TP Z K N Lt_X12_tells LRt_X12_tells Ma Ra u ∧ (iv (-1) 2147483647 r))) 0 0 (fun q => base ≤ q) := by
  refine tw_ofW (L := Lt_X12_tells) (LR := LRt_X12_tells) (by decide) (Nat.le_of_ble_eq_true rfl) hTy ?_
  intro p e s m args below meth c Q ls hx hb hr hlocks hown hml hW hK hT hS hQ hl
  have hl : lv_has ls 7 [(0, .ref (base + a0)), (1, .int a1), (2, .int a2)] := hl
  obtain ⟨hz_sd, hk_sd, hn_sd⟩ := hTy.refn hz_a0 hk_a0 (show rtR 12 25 = (23, 226, 0) from rfl) k_sd
  have hn_sd := hn_sd (by decide)
  refine lv_aload_n hx hb dX12_tells_0 rfl (lv_at hl 0 rfl) ?_
  refine lv_iload_n hx hb dX12_tells_1 rfl (lv_at hl 1 rfl) ?_
  refine tw_goi hS (md_runV (As := [.int a1]) (rest := []) hx hb hml hown hW hK hT hS.1 (t_X12_canFit l D cy tx base Z K N Ma Ra Ja hS.2.1 a0 hz_a0 hk_a0 a1 h_a1 sd k_sd e0 k_e0 (iv_mono h_e0 (by decide) (by decide))) s_X12_486 ⟨rfl, rfl, ⟨Nat.le_of_ble_eq_true rfl, Nat.le_of_ble_eq_true rfl⟩, ⟨Nat.le_of_ble_eq_true rfl, Nat.le_of_ble_eq_true rfl⟩⟩ hz_a0 hk_a0 (by decide) rfl rfl hl.1 rfl (Nat.le_of_ble_eq_true rfl) dX12_tells_2) rfl rfl (fun x7 H locs M4 R5 J3 hS f1 g2 E6 => ?_)
  have eM4 := Fr.nil f1 rfl
  subst eM4
  have eR5 := Fr.nil g2 rfl
  subst eR5
  obtain ⟨h_x7, p8, p9⟩ := E6
  refine lv_if_eq (tgt := 18) hx hb dX12_tells_5 (by decide) (fun c10 => ?_) (fun c10 => ?_)
  · have q11 : x7.toInt = 0 := ti_eq c10
    have h12 : iv 0 0 x7 := ⟨by have := (h_x7).1; have := ((iv_c (c := 0) (n := 0) (by decide))).1; omega, by have := (h_x7).2; have := ((iv_c (c := 0) (n := 0) (by decide))).2; omega⟩
    refine lv_iconst (v := (-1)) hx hb dX12_tells_18 (by decide) ?_
    exact tw_endi hx hb hr hlocks hK hT hS hQ ((iv_mono (iv_c (c := (-1)) (n := (-1)) (by decide)) (by decide) (by decide))) dX12_tells_19
  · have q13 : ¬ x7.toInt = 0 := ti_ne c10
    have h14 : iv 1 1 x7 := ⟨by have := (h_x7).1; have := ((iv_c (c := 0) (n := 0) (by decide))).1; have := ((iv_c (c := 0) (n := 0) (by decide))).2; omega, by have := (h_x7).2; have := ((iv_c (c := 0) (n := 0) (by decide))).1; have := ((iv_c (c := 0) (n := 0) (by decide))).2; omega⟩
    have h15 : iv 1 5 e0 := ⟨by have := (p8 c10).1; have := (h_e0).1; omega, by have := (p8 c10).2; have := (h_e0).2; omega⟩
    have h16 : iv 1 6 a1 := ⟨by have := (p9 c10).1; have := (h_a1).1; omega, by have := (p9 c10).2; have := (h_a1).2; omega⟩
    refine lv_iload_n hx hb dX12_tells_8 rfl (lv_at hl 2 rfl) ?_
    refine lv_i2l hx hb dX12_tells_9 rfl ?_
    refine lv_lconst (v := 0) hx hb dX12_tells_10 (by decide) ?_
    refine lv_lconst (v := 1) hx hb dX12_tells_11 (by decide) ?_
    refine tw_goi hS (md_runS (As := [.long a2.toInt64, .long 0, .long 1]) (rest := []) hx hb hml hown hW hK hT hS.1 (t_X12_in l D cy tx base Z K N Ma Ra J3 hS.2.1 (a2.toInt64) (0) (1)) s_X12_155 ⟨rfl, rfl, ⟨Nat.le_of_ble_eq_true rfl, Nat.le_of_ble_eq_true rfl⟩, ⟨Nat.le_of_ble_eq_true rfl, Nat.le_of_ble_eq_true rfl⟩⟩ rfl hl.1 rfl (Nat.le_of_ble_eq_true rfl) dX12_tells_12) rfl rfl (fun x23 H locs M20 R21 J19 hS f17 g18 E22 => ?_)
    have eM20 := Fr.nil f17 rfl
    subst eM20
    have eR21 := Fr.nil g18 rfl
    subst eR21
    obtain ⟨h_x23, p24⟩ := E22
    refine lv_if_ne (tgt := 20) hx hb dX12_tells_15 (by decide) (fun c25 => ?_) (fun c25 => ?_)
    · have q26 : ¬ x23.toInt = 0 := ti_ne c25
      have h27 : iv 1 1 x23 := ⟨by have := (h_x23).1; have := ((iv_c (c := 0) (n := 0) (by decide))).1; have := ((iv_c (c := 0) (n := 0) (by decide))).2; omega, by have := (h_x23).2; have := ((iv_c (c := 0) (n := 0) (by decide))).1; have := ((iv_c (c := 0) (n := 0) (by decide))).2; omega⟩
      have h28 : iv 0 1 a2 := in2iv (p24 c25) ((jv_c (x := 0) (n := 0) (by decide))).1 ((jv_c (x := 1) (n := 1) (by decide))).2
      refine lv_iconst (v := 1) hx hb dX12_tells_20 (by decide) ?_
      refine lv_istore_n (lv' := [(3, .int 1), (0, .ref (base + a0)), (1, .int a1), (2, .int a2)]) hx hb dX12_tells_21 rfl hl (by decide) rfl (fun ls hl => ?_)
      refine lv_aload_n hx hb dX12_tells_22 rfl (lv_at hl 1 rfl) ?_
      refine lv_iconst (v := 1) hx hb dX12_tells_23 (by decide) ?_
      refine lv_iload_n hx hb dX12_tells_24 rfl (lv_at hl 2 rfl) ?_
      refine tw_goi hS (md_runV (As := [.int 1, .int a1]) (rest := []) hx hb hml hown hW hK hT hS.1 (t_X12_mostAlike l D cy tx base Z K N Ma Ra J19 hS.2.1 a0 hz_a0 hk_a0 1 (iv_mono (iv_c (c := 1) (n := 1) (by decide)) (by decide) (by decide)) a1 h16 sd k_sd e0 k_e0 (iv_mono h15 (by decide) (by decide))) s_X12_495 ⟨rfl, rfl, ⟨Nat.le_of_ble_eq_true rfl, Nat.le_of_ble_eq_true rfl⟩, ⟨Nat.le_of_ble_eq_true rfl, Nat.le_of_ble_eq_true rfl⟩⟩ hz_a0 hk_a0 (by decide) rfl rfl hl.1 rfl (Nat.le_of_ble_eq_true rfl) dX12_tells_25) rfl rfl (fun x35 H locs M32 R33 J31 hS f29 g30 E34 => ?_)
      have eR33 := Fr.nil g30 rfl
      subst eR33
      have h_x35 := E34
      refine lv_istore (lv' := [(4, .int x35), (3, .int 1), (0, .ref (base + a0)), (1, .int a1), (2, .int a2)]) hx hb dX12_tells_28 hl (by decide) rfl (fun ls hl => ?_)
      refine lv_iconst (v := 2) hx hb dX12_tells_30 (by decide) ?_
      refine lv_istore (lv' := [(5, .int 2), (4, .int x35), (3, .int 1), (0, .ref (base + a0)), (1, .int a1), (2, .int a2)]) hx hb dX12_tells_31 hl (by decide) rfl (fun ls hl => ?_)
      have W33_39 : ∀ (n_39 : Nat) (x36 : Int32) (x37 : Int32) (x38 : Int32) (M39 : MT) (R40 : RT) (J41 : JT) (H : Heap) (locs : List Loc) (ls : Array Slot) (h_x36 : iv 1 2147483647 x36) (h_x37 : iv 0 2147483647 x37) (h_x38 : iv 2 2147483647 x38) (hm_39 : 2147483647 - x38.toInt < (n_39 : Int)) (hS : SB D cy base Z K N Lt_X12_tells LRt_X12_tells Ma Ra M39 R40 J41 s H locs) (hl : lv_has ls 7 [(3, .int x36), (4, .int x37), (5, .int x38), (0, .ref (base + a0)), (1, .int a1), (2, .int a2)]), W p l e (md_rm 7 0 0) s m args below meth c H locs 0 0 Q (F0 m 33 ls []) := by
        intro n_39
        induction n_39 with
        | zero =>
          intro x36 x37 x38 M39 R40 J41 H locs ls h_x36 h_x37 h_x38 hm_39 hS hl
          exfalso
          have := (h16).1; have := (h16).2; have := (h28).1; have := (h28).2; have := (h15).1; have := (h15).2; have := (h_x38).1; have := (h_x38).2; omega
        | succ n_39 ih_39 =>
          intro x36 x37 x38 M39 R40 J41 H locs ls h_x36 h_x37 h_x38 hm_39 hS hl
          have f42 := hS.2.2.1
          have g43 := hS.2.2.2
          refine lv_iload hx hb dX12_tells_33 (lv_at hl 2 rfl) ?_
          refine lv_iconst (v := 1) hx hb dX12_tells_35 (by decide) ?_
          refine lv_aload_n hx hb dX12_tells_36 rfl (lv_at hl 3 rfl) ?_
          have k44 : R40 a0 25 = some sd := (Fr.kp (k := 25) g43 hk_a0 rfl).trans k_sd
          refine tw_getrk hx hb hW hown hK hS f_X12_45_11 hz_a0 hk_a0 (b := sd) k44 dX12_tells_37 ?_
          refine lv_iconst (v := 0) hx hb dX12_tells_40 (by decide) ?_
          have k45 : M39 sd (0 : Int32).toNatClampNeg = e0 := (Fr.kp (k := (0 : Int32).toNatClampNeg) f42 hk_sd rfl).trans k_e0
          refine tw_ialk hx hb hK hS hz_sd hk_sd (Or.inr (by decide)) hn_sd (iv_c (c := 0) (n := 0) (by decide)) ⟨by decide, by decide⟩ (v := e0) k45 dX12_tells_41 ?_
          refine lv_ishl hx hb dX12_tells_42 ?_
          refine tw_top (fun x47 => ?_)
          have h46 := iv_any x47
          refine lv_icmp_ge (tgt := 78) hx hb dX12_tells_43 (by decide) (fun c48 => ?_) (fun c48 => ?_)
          · have q49 : x47.toInt ≤ x38.toInt := ti_le c48
            refine lv_iload_n hx hb dX12_tells_78 rfl (lv_at hl 5 rfl) ?_
            refine lv_if_ne (tgt := 86) hx hb dX12_tells_79 (by decide) (fun c50 => ?_) (fun c50 => ?_)
            · have q51 : ¬ a2.toInt = 0 := ti_ne c50
              have h52 : iv 1 1 a2 := ⟨by have := (h28).1; have := ((iv_c (c := 0) (n := 0) (by decide))).1; have := ((iv_c (c := 0) (n := 0) (by decide))).2; omega, by have := (h28).2; have := ((iv_c (c := 0) (n := 0) (by decide))).1; have := ((iv_c (c := 0) (n := 0) (by decide))).2; omega⟩
              refine lv_iload hx hb dX12_tells_86 (lv_at hl 1 rfl) ?_
              exact tw_endi hx hb hr hlocks hK hT hS hQ ((iv_mono h_x37 (by decide) (by decide))) dX12_tells_88
            · have q53 : a2.toInt = 0 := ti_eq c50
              have h54 : iv 0 0 a2 := ⟨by have := (h28).1; have := ((iv_c (c := 0) (n := 0) (by decide))).1; omega, by have := (h28).2; have := ((iv_c (c := 0) (n := 0) (by decide))).2; omega⟩
              refine lv_iload_n hx hb dX12_tells_82 rfl (lv_at hl 0 rfl) ?_
              refine lv_goto (tgt := 88) hx hb dX12_tells_83 (by decide) ?_
              exact tw_endi hx hb hr hlocks hK hT hS hQ ((iv_mono h_x36 (by decide) (by decide))) dX12_tells_88
          · have q55 : x38.toInt < x47.toInt := ti_nle c48
            have h56 : iv 2 2147483646 x38 := iv_ltL (y := x47) h_x38 h46 q55 (by decide)
            have h57 : iv 3 2147483647 x47 := iv_gtL (y := x38) h46 h_x38 q55 (by decide)
            refine lv_aload_n hx hb dX12_tells_46 rfl (lv_at hl 3 rfl) ?_
            refine lv_iload hx hb dX12_tells_47 (lv_at hl 2 rfl) ?_
            refine lv_iload_n hx hb dX12_tells_49 rfl (lv_at hl 4 rfl) ?_
            have k58 : R40 a0 25 = some sd := (Fr.kp (k := 25) g43 hk_a0 rfl).trans k_sd
            have k59 : M39 sd (0 : Int32).toNatClampNeg = e0 := (Fr.kp (k := (0 : Int32).toNatClampNeg) f42 hk_sd rfl).trans k_e0
            refine tw_goi hS (md_runV (As := [.int x38, .int a1]) (rest := []) hx hb hml hown hW hK hT hS.1 (t_X12_mostAlike l D cy tx base Z K N M39 R40 J41 hS.2.1 a0 hz_a0 hk_a0 x38 (iv_mono h56 (by decide) (by decide)) a1 h16 sd k58 e0 k59 (iv_mono h15 (by decide) (by decide))) s_X12_495 ⟨rfl, rfl, ⟨Nat.le_of_ble_eq_true rfl, Nat.le_of_ble_eq_true rfl⟩, ⟨Nat.le_of_ble_eq_true rfl, Nat.le_of_ble_eq_true rfl⟩⟩ hz_a0 hk_a0 (by decide) rfl rfl hl.1 rfl (Nat.le_of_ble_eq_true rfl) dX12_tells_50) rfl rfl (fun x66 H locs M63 R64 J62 hS f60 g61 E65 => ?_)
            have eR64 := Fr.nil g61 rfl
            subst eR64
            have h_x66 := E65
            refine lv_istore (lv' := [(6, .int x66), (3, .int x36), (4, .int x37), (5, .int x38), (0, .ref (base + a0)), (1, .int a1), (2, .int a2)]) hx hb dX12_tells_53 hl (by decide) rfl (fun ls hl => ?_)
            refine lv_iload hx hb dX12_tells_55 (lv_at hl 0 rfl) ?_
            refine lv_iload hx hb dX12_tells_57 (lv_at hl 2 rfl) ?_
            refine lv_icmp_lt (tgt := 65) hx hb dX12_tells_59 (by decide) (fun c67 => ?_) (fun c67 => ?_)
            · have q68 : x66.toInt < x37.toInt := ti_lt c67
              have h69 : iv 0 2147483646 x66 := iv_ltL (y := x37) h_x66 h_x37 q68 (by decide)
              have h70 : iv 1 2147483647 x37 := iv_gtL (y := x66) h_x37 h_x66 q68 (by decide)
              refine lv_iload hx hb dX12_tells_65 (lv_at hl 3 rfl) ?_
              refine lv_istore_n (lv' := [(3, .int x38), (6, .int x66), (4, .int x37), (5, .int x38), (0, .ref (base + a0)), (1, .int a1), (2, .int a2)]) hx hb dX12_tells_67 rfl hl (by decide) rfl (fun ls hl => ?_)
              refine lv_iload hx hb dX12_tells_68 (lv_at hl 1 rfl) ?_
              refine lv_istore (lv' := [(4, .int x66), (3, .int x38), (6, .int x66), (5, .int x38), (0, .ref (base + a0)), (1, .int a1), (2, .int a2)]) hx hb dX12_tells_70 hl (by decide) rfl (fun ls hl => ?_)
              refine tw_iinc (lv' := fun x73 => [(5, .int x73), (4, .int x66), (3, .int x38), (6, .int x66), (0, .ref (base + a0)), (1, .int a1), (2, .int a2)]) (lo := 3) (hi := 2147483647) hx hb dX12_tells_72 hl (k := 3) rfl h56 (by decide) ⟨by decide, by decide⟩ ⟨by decide, by decide⟩ (by decide) (fun _ => rfl) (fun x73 ls e72 h71 hl => ?_)
              refine lv_goto (tgt := 33) hx hb dX12_tells_75 (by decide) ?_
              have hm74 : 2147483647 - x73.toInt < (n_39 : Int) := by
                have := (h16).1; have := (h16).2; have := (h28).1; have := (h28).2; have := (h15).1; have := (h15).2; have := (h56).1; have := (h56).2; have := (h71).1; have := (h71).2; omega
              exact ih_39 x38 x66 x73 M63 R40 J62 H locs _ (iv_mono h56 (by decide) (by decide)) (iv_mono h69 (by decide) (by decide)) (iv_mono h71 (by decide) (by decide)) hm74 hS (lv_sub hl [2, 1, 0, 4, 5, 6] rfl)
            · have q75 : x37.toInt ≤ x66.toInt := ti_nlt c67
              refine lv_goto (tgt := 72) hx hb dX12_tells_62 (by decide) ?_
              refine tw_iinc (lv' := fun x78 => [(5, .int x78), (6, .int x66), (3, .int x36), (4, .int x37), (0, .ref (base + a0)), (1, .int a1), (2, .int a2)]) (lo := 3) (hi := 2147483647) hx hb dX12_tells_72 hl (k := 3) rfl h56 (by decide) ⟨by decide, by decide⟩ ⟨by decide, by decide⟩ (by decide) (fun _ => rfl) (fun x78 ls e77 h76 hl => ?_)
              refine lv_goto (tgt := 33) hx hb dX12_tells_75 (by decide) ?_
              have hm79 : 2147483647 - x78.toInt < (n_39 : Int) := by
                have := (h16).1; have := (h16).2; have := (h28).1; have := (h28).2; have := (h15).1; have := (h15).2; have := (h56).1; have := (h56).2; have := (h76).1; have := (h76).2; omega
              exact ih_39 x36 x37 x78 M63 R40 J62 H locs _ h_x36 h_x37 (iv_mono h76 (by decide) (by decide)) hm79 hS (lv_sub hl [2, 3, 0, 4, 5, 6] rfl)
      have hm80 : 2147483647 - (2 : Int32).toInt < (((2147483646 : Nat) : Int) : Int) := by
        have := (h16).1; have := (h16).2; have := (h28).1; have := (h28).2; have := (h15).1; have := (h15).2; have : (2 : Int32).toInt = 2 := (by decide); omega
      exact W33_39 2147483646 1 x35 2 M32 Ra J31 H locs _ (iv_mono (iv_c (c := 1) (n := 1) (by decide)) (by decide) (by decide)) h_x35 (iv_mono (iv_c (c := 2) (n := 2) (by decide)) (by decide) (by decide)) hm80 hS (lv_sub hl [2, 1, 0, 3, 4, 5] rfl)
    · have q81 : x23.toInt = 0 := ti_eq c25
      have h82 : iv 0 0 x23 := ⟨by have := (h_x23).1; have := ((iv_c (c := 0) (n := 0) (by decide))).1; omega, by have := (h_x23).2; have := ((iv_c (c := 0) (n := 0) (by decide))).2; omega⟩
      refine lv_iconst (v := (-1)) hx hb dX12_tells_18 (by decide) ?_
      exact tw_endi hx hb hr hlocks hK hT hS hQ ((iv_mono (iv_c (c := (-1)) (n := (-1)) (by decide)) (by decide) (by decide))) dX12_tells_19
def Lt_X12_voice : WL := []
def LRt_X12_voice : WL := []
set_option maxRecDepth 100000 in
set_option maxHeartbeats 4000000 in
theorem t_X12_voice (l : Launch) (D : va_G) (cy : Nat → ClassId) (tx : (Nat → Nat) × (Nat → Nat)) (base Z : Nat) (K N : Nat → Nat) (Ma : MT) (Ra : RT) (Ja : JT) (hTy : Ty Z K N Ma Ra) (a0 : Nat) (hz_a0 : a0 < Z) (hk_a0 : K a0 = 12) (a1 : Int32) (h_a1 : iv (-2147483648) 2147483647 a1) (a2 : Int32) (h_a2 : iv (-2147483648) 2147483647 a2) : Met l yX12_voice [Cond.code yX12_voice cX12_voice 3 (some .int)] (md_rm 2 0 0) (va_Pc [.ref (base + a0), .int a1, .int a2] (md_U D cy tx base Z K N Ma Ra Ja)) (mQi D cy tx base (fun r u => TP Z K N Lt_X12_voice LRt_X12_voice Ma Ra u ∧ (iv (-2147483648) 2147483647 r))) 0 0 (fun q => base ≤ q) := by
  refine tw_ofW (L := Lt_X12_voice) (LR := LRt_X12_voice) (by decide) (Nat.le_of_ble_eq_true rfl) hTy ?_
  intro p e s m args below meth c Q ls hx hb hr hlocks hown hml hW hK hT hS hQ hl
  have hl : lv_has ls 3 [(0, .ref (base + a0)), (1, .int a1), (2, .int a2)] := hl
  refine lv_aload_n hx hb dX12_voice_0 rfl (lv_at hl 0 rfl) ?_
  refine lv_iload_n hx hb dX12_voice_1 rfl (lv_at hl 1 rfl) ?_
  refine tw_goi hS (md_runV (As := [.int a1]) (rest := []) hx hb hml hown hW hK hT hS.1 (t_X12_isMember l D cy tx base Z K N Ma Ra Ja hS.2.1 a0 hz_a0 hk_a0 a1 h_a1) s_X12_319 ⟨rfl, rfl, ⟨Nat.le_of_ble_eq_true rfl, Nat.le_of_ble_eq_true rfl⟩, ⟨Nat.le_of_ble_eq_true rfl, Nat.le_of_ble_eq_true rfl⟩⟩ hz_a0 hk_a0 (by decide) rfl rfl hl.1 rfl (Nat.le_of_ble_eq_true rfl) dX12_voice_2) rfl rfl (fun x7 H locs M4 R5 J3 hS f1 g2 E6 => ?_)
  have eM4 := Fr.nil f1 rfl
  subst eM4
  have eR5 := Fr.nil g2 rfl
  subst eR5
  obtain ⟨h_x7, p8⟩ := E6
  refine lv_if_eq (tgt := 20) hx hb dX12_voice_5 (by decide) (fun c9 => ?_) (fun c9 => ?_)
  · have q10 : x7.toInt = 0 := ti_eq c9
    have h11 : iv 0 0 x7 := ⟨by have := (h_x7).1; have := ((iv_c (c := 0) (n := 0) (by decide))).1; omega, by have := (h_x7).2; have := ((iv_c (c := 0) (n := 0) (by decide))).2; omega⟩
    refine lv_iconst (v := (-1)) hx hb dX12_voice_20 (by decide) ?_
    exact tw_endi hx hb hr hlocks hK hT hS hQ ((iv_mono (iv_c (c := (-1)) (n := (-1)) (by decide)) (by decide) (by decide))) dX12_voice_21
  · have q12 : ¬ x7.toInt = 0 := ti_ne c9
    have h13 : iv 1 1 x7 := ⟨by have := (h_x7).1; have := ((iv_c (c := 0) (n := 0) (by decide))).1; have := ((iv_c (c := 0) (n := 0) (by decide))).2; omega, by have := (h_x7).2; have := ((iv_c (c := 0) (n := 0) (by decide))).1; have := ((iv_c (c := 0) (n := 0) (by decide))).2; omega⟩
    have h14 : iv 0 9 a1 := ⟨by have := (p8 c9).1; have := (h_a1).1; omega, by have := (p8 c9).2; have := (h_a1).2; omega⟩
    refine lv_iload_n hx hb dX12_voice_8 rfl (lv_at hl 2 rfl) ?_
    refine lv_i2l hx hb dX12_voice_9 rfl ?_
    refine lv_lconst (v := 0) hx hb dX12_voice_10 (by decide) ?_
    refine lv_ldc2 hx hb hown (hW _ w_7_141 rfl) dX12_voice_11 ?_
    refine tw_goi hS (md_runS (As := [.long a2.toInt64, .long 0, .long 4]) (rest := []) hx hb hml hown hW hK hT hS.1 (t_X12_in l D cy tx base Z K N Ma Ra J3 hS.2.1 (a2.toInt64) (0) (4)) s_X12_155 ⟨rfl, rfl, ⟨Nat.le_of_ble_eq_true rfl, Nat.le_of_ble_eq_true rfl⟩, ⟨Nat.le_of_ble_eq_true rfl, Nat.le_of_ble_eq_true rfl⟩⟩ rfl hl.1 rfl (Nat.le_of_ble_eq_true rfl) dX12_voice_14) rfl rfl (fun x21 H locs M18 R19 J17 hS f15 g16 E20 => ?_)
    have eM18 := Fr.nil f15 rfl
    subst eM18
    have eR19 := Fr.nil g16 rfl
    subst eR19
    obtain ⟨h_x21, p22⟩ := E20
    refine lv_if_ne (tgt := 22) hx hb dX12_voice_17 (by decide) (fun c23 => ?_) (fun c23 => ?_)
    · have q24 : ¬ x21.toInt = 0 := ti_ne c23
      have h25 : iv 1 1 x21 := ⟨by have := (h_x21).1; have := ((iv_c (c := 0) (n := 0) (by decide))).1; have := ((iv_c (c := 0) (n := 0) (by decide))).2; omega, by have := (h_x21).2; have := ((iv_c (c := 0) (n := 0) (by decide))).1; have := ((iv_c (c := 0) (n := 0) (by decide))).2; omega⟩
      have h26 : iv 0 4 a2 := in2iv (p22 c23) ((jv_c (x := 0) (n := 0) (by decide))).1 ((jv_c (x := 4) (n := 4) (by decide))).2
      refine lv_iload_n hx hb dX12_voice_22 rfl (lv_at hl 2 rfl) ?_
      refine lv_iconst (v := 2) hx hb dX12_voice_23 (by decide) ?_
      refine lv_icmp_ne (tgt := 46) hx hb dX12_voice_24 (by decide) (fun c27 => ?_) (fun c27 => ?_)
      · have q28 : ¬ a2.toInt = 2 := ti_ne c27
        refine lv_aload_n hx hb dX12_voice_46 rfl (lv_at hl 0 rfl) ?_
        refine tw_getr hx hb hW hown hK hS f_X12_45_11 hz_a0 hk_a0 (t := 23) (n := 226) rfl dX12_voice_47 (fun b29 k30 hz_b29 hk_b29 hn_b29 => ?_)
        have hn_b29 := hn_b29 (by decide)
        refine lv_iload_n hx hb dX12_voice_50 rfl (lv_at hl 2 rfl) ?_
        refine lv_if_ne (tgt := 59) hx hb dX12_voice_51 (by decide) (fun c31 => ?_) (fun c31 => ?_)
        · have q32 : ¬ a2.toInt = 0 := ti_ne c31
          have h33 : iv 1 4 a2 := ⟨by have := (h26).1; have := ((iv_c (c := 0) (n := 0) (by decide))).1; have := ((iv_c (c := 0) (n := 0) (by decide))).2; omega, by have := (h26).2; have := ((iv_c (c := 0) (n := 0) (by decide))).1; have := ((iv_c (c := 0) (n := 0) (by decide))).2; omega⟩
          refine lv_iload_n hx hb dX12_voice_59 rfl (lv_at hl 2 rfl) ?_
          refine lv_iconst (v := 1) hx hb dX12_voice_60 (by decide) ?_
          refine lv_icmp_ne (tgt := 69) hx hb dX12_voice_61 (by decide) (fun c34 => ?_) (fun c34 => ?_)
          · have q35 : ¬ a2.toInt = 1 := ti_ne c34
            have h36 : iv 2 4 a2 := ⟨by have := (h33).1; have := ((iv_c (c := 1) (n := 1) (by decide))).1; have := ((iv_c (c := 1) (n := 1) (by decide))).2; omega, by have := (h33).2; have := ((iv_c (c := 1) (n := 1) (by decide))).1; have := ((iv_c (c := 1) (n := 1) (by decide))).2; omega⟩
            refine lv_iload_n hx hb dX12_voice_69 rfl (lv_at hl 2 rfl) ?_
            refine lv_iconst (v := 3) hx hb dX12_voice_70 (by decide) ?_
            refine lv_icmp_ne (tgt := 79) hx hb dX12_voice_71 (by decide) (fun c37 => ?_) (fun c37 => ?_)
            · have q38 : ¬ a2.toInt = 3 := ti_ne c37
              refine lv_bipush (v := 40) hx hb dX12_voice_79 (by decide) ?_
              refine lv_iload_n hx hb dX12_voice_81 rfl (lv_at hl 1 rfl) ?_
              refine tw_iadd (lo := 40) (hi := 49) hx hb (iv_c (c := 40) (n := 40) (by decide)) h14 ⟨by decide, by decide⟩ ⟨by decide, by decide⟩ dX12_voice_82 (fun x41 e40 h39 => ?_)
              have e40 : x41.toInt = 40 + a1.toInt := e40
              refine tw_iald hx hb hK hS hz_b29 hk_b29 (Or.inr (by decide)) hn_b29 (lo := (-2147483648)) (hi := 2147483647) h39 ⟨by decide, by decide⟩ rg_full dX12_voice_83 (fun x44 k43 h42 => ?_)
              exact tw_endi hx hb hr hlocks hK hT hS hQ (h42) dX12_voice_84
            · have q45 : a2.toInt = 3 := ti_eq c37
              have h46 : iv 3 3 a2 := ⟨by have := (h36).1; have := ((iv_c (c := 3) (n := 3) (by decide))).1; omega, by have := (h36).2; have := ((iv_c (c := 3) (n := 3) (by decide))).2; omega⟩
              refine lv_bipush (v := 30) hx hb dX12_voice_74 (by decide) ?_
              refine lv_goto (tgt := 81) hx hb dX12_voice_76 (by decide) ?_
              refine lv_iload_n hx hb dX12_voice_81 rfl (lv_at hl 1 rfl) ?_
              refine tw_iadd (lo := 30) (hi := 39) hx hb (iv_c (c := 30) (n := 30) (by decide)) h14 ⟨by decide, by decide⟩ ⟨by decide, by decide⟩ dX12_voice_82 (fun x49 e48 h47 => ?_)
              have e48 : x49.toInt = 30 + a1.toInt := e48
              refine tw_iald hx hb hK hS hz_b29 hk_b29 (Or.inr (by decide)) hn_b29 (lo := (-2147483648)) (hi := 2147483647) h47 ⟨by decide, by decide⟩ rg_full dX12_voice_83 (fun x52 k51 h50 => ?_)
              exact tw_endi hx hb hr hlocks hK hT hS hQ (h50) dX12_voice_84
          · have q53 : a2.toInt = 1 := ti_eq c34
            have h54 : iv 1 1 a2 := ⟨by have := (h33).1; have := ((iv_c (c := 1) (n := 1) (by decide))).1; omega, by have := (h33).2; have := ((iv_c (c := 1) (n := 1) (by decide))).2; omega⟩
            refine lv_bipush (v := 20) hx hb dX12_voice_64 (by decide) ?_
            refine lv_goto (tgt := 81) hx hb dX12_voice_66 (by decide) ?_
            refine lv_iload_n hx hb dX12_voice_81 rfl (lv_at hl 1 rfl) ?_
            refine tw_iadd (lo := 20) (hi := 29) hx hb (iv_c (c := 20) (n := 20) (by decide)) h14 ⟨by decide, by decide⟩ ⟨by decide, by decide⟩ dX12_voice_82 (fun x57 e56 h55 => ?_)
            have e56 : x57.toInt = 20 + a1.toInt := e56
            refine tw_iald hx hb hK hS hz_b29 hk_b29 (Or.inr (by decide)) hn_b29 (lo := (-2147483648)) (hi := 2147483647) h55 ⟨by decide, by decide⟩ rg_full dX12_voice_83 (fun x60 k59 h58 => ?_)
            exact tw_endi hx hb hr hlocks hK hT hS hQ (h58) dX12_voice_84
        · have q61 : a2.toInt = 0 := ti_eq c31
          have h62 : iv 0 0 a2 := ⟨by have := (h26).1; have := ((iv_c (c := 0) (n := 0) (by decide))).1; omega, by have := (h26).2; have := ((iv_c (c := 0) (n := 0) (by decide))).2; omega⟩
          refine lv_bipush (v := 10) hx hb dX12_voice_54 (by decide) ?_
          refine lv_goto (tgt := 81) hx hb dX12_voice_56 (by decide) ?_
          refine lv_iload_n hx hb dX12_voice_81 rfl (lv_at hl 1 rfl) ?_
          refine tw_iadd (lo := 10) (hi := 19) hx hb (iv_c (c := 10) (n := 10) (by decide)) h14 ⟨by decide, by decide⟩ ⟨by decide, by decide⟩ dX12_voice_82 (fun x65 e64 h63 => ?_)
          have e64 : x65.toInt = 10 + a1.toInt := e64
          refine tw_iald hx hb hK hS hz_b29 hk_b29 (Or.inr (by decide)) hn_b29 (lo := 0) (hi := 9999) h63 ⟨by decide, by decide⟩ (rg_sv ⟨by decide, by decide⟩) dX12_voice_83 (fun x68 k67 h66 => ?_)
          exact tw_endi hx hb hr hlocks hK hT hS hQ ((iv_mono h66 (by decide) (by decide))) dX12_voice_84
      · have q69 : a2.toInt = 2 := ti_eq c27
        have h70 : iv 2 2 a2 := ⟨by have := (h26).1; have := ((iv_c (c := 2) (n := 2) (by decide))).1; omega, by have := (h26).2; have := ((iv_c (c := 2) (n := 2) (by decide))).2; omega⟩
        refine lv_aload_n hx hb dX12_voice_27 rfl (lv_at hl 0 rfl) ?_
        refine tw_getr hx hb hW hown hK hS f_X12_45_11 hz_a0 hk_a0 (t := 23) (n := 226) rfl dX12_voice_28 (fun b71 k72 hz_b71 hk_b71 hn_b71 => ?_)
        have hn_b71 := hn_b71 (by decide)
        refine lv_iconst (v := 2) hx hb dX12_voice_31 (by decide) ?_
        refine tw_iald hx hb hK hS hz_b71 hk_b71 (Or.inr (by decide)) hn_b71 (lo := (-2147483648)) (hi := 2147483647) (iv_c (c := 2) (n := 2) (by decide)) ⟨by decide, by decide⟩ (rg_c (k0 := 2) rfl rfl rfl) dX12_voice_32 (fun x75 k74 h73 => ?_)
        refine lv_iload_n hx hb dX12_voice_33 rfl (lv_at hl 1 rfl) ?_
        refine tw_goi hS (md_runS (As := [.int x75, .int a1]) (rest := []) hx hb hml hown hW hK hT hS.1 (t_X12_isOf l D cy tx base Z K N Ma Ra J17 hS.2.1 x75 h73 a1 h14) s_X12_322 ⟨rfl, rfl, ⟨Nat.le_of_ble_eq_true rfl, Nat.le_of_ble_eq_true rfl⟩, ⟨Nat.le_of_ble_eq_true rfl, Nat.le_of_ble_eq_true rfl⟩⟩ rfl hl.1 rfl (Nat.le_of_ble_eq_true rfl) dX12_voice_34) rfl rfl (fun x82 H locs M79 R80 J78 hS f76 g77 E81 => ?_)
        have eM79 := Fr.nil f76 rfl
        subst eM79
        have eR80 := Fr.nil g77 rfl
        subst eR80
        have h_x82 := E81
        refine lv_if_eq (tgt := 44) hx hb dX12_voice_37 (by decide) (fun c83 => ?_) (fun c83 => ?_)
        · have q84 : x82.toInt = 0 := ti_eq c83
          have h85 : iv 0 0 x82 := ⟨by have := (h_x82).1; have := ((iv_c (c := 0) (n := 0) (by decide))).1; omega, by have := (h_x82).2; have := ((iv_c (c := 0) (n := 0) (by decide))).2; omega⟩
          refine lv_iconst (v := 0) hx hb dX12_voice_44 (by decide) ?_
          exact tw_endi hx hb hr hlocks hK hT hS hQ ((iv_mono (iv_c (c := 0) (n := 0) (by decide)) (by decide) (by decide))) dX12_voice_45
        · have q86 : ¬ x82.toInt = 0 := ti_ne c83
          have h87 : iv 1 1 x82 := ⟨by have := (h_x82).1; have := ((iv_c (c := 0) (n := 0) (by decide))).1; have := ((iv_c (c := 0) (n := 0) (by decide))).2; omega, by have := (h_x82).2; have := ((iv_c (c := 0) (n := 0) (by decide))).1; have := ((iv_c (c := 0) (n := 0) (by decide))).2; omega⟩
          refine lv_iconst (v := 1) hx hb dX12_voice_40 (by decide) ?_
          refine lv_goto (tgt := 45) hx hb dX12_voice_41 (by decide) ?_
          exact tw_endi hx hb hr hlocks hK hT hS hQ ((iv_mono (iv_c (c := 1) (n := 1) (by decide)) (by decide) (by decide))) dX12_voice_45
    · have q88 : x21.toInt = 0 := ti_eq c23
      have h89 : iv 0 0 x21 := ⟨by have := (h_x21).1; have := ((iv_c (c := 0) (n := 0) (by decide))).1; omega, by have := (h_x21).2; have := ((iv_c (c := 0) (n := 0) (by decide))).2; omega⟩
      refine lv_iconst (v := (-1)) hx hb dX12_voice_20 (by decide) ?_
      exact tw_endi hx hb hr hlocks hK hT hS hQ ((iv_mono (iv_c (c := (-1)) (n := (-1)) (by decide)) (by decide) (by decide))) dX12_voice_21
def Lt_X12_vote : WL := [(12, 23, 24), (12, 28, 29), (12, 30, 33), (14, 0, 2000000), (23, 3, 4), (23, 10, 20), (23, 30, 50), (30, 0, 2000000), (31, 0, 2000000)]
def LRt_X12_vote : WL := []
set_option maxRecDepth 100000 in
set_option maxHeartbeats 4000000 in
theorem t_X12_vote (l : Launch) (D : va_G) (cy : Nat → ClassId) (tx : (Nat → Nat) × (Nat → Nat)) (base Z : Nat) (K N : Nat → Nat) (Ma : MT) (Ra : RT) (Ja : JT) (hTy : Ty Z K N Ma Ra) (a0 : Nat) (hz_a0 : a0 < Z) (hk_a0 : K a0 = 12) (a1 : Int32) (h_a1 : iv (-2147483648) 2147483647 a1) (co_a0 : Codes Ma Ra a0) : Met l yX12_vote [Cond.code yX12_vote cX12_vote 3 (some .int)] (md_rm 5 0 0) (va_Pc [.ref (base + a0), .int a1] (md_U D cy tx base Z K N Ma Ra Ja)) (mQi D cy tx base (fun r u => TP Z K N Lt_X12_vote LRt_X12_vote Ma Ra u ∧ (iv (-2) 2 r))) 0 0 (fun q => base ≤ q) := by
  refine tw_ofW (L := Lt_X12_vote) (LR := LRt_X12_vote) (by decide) (Nat.le_of_ble_eq_true rfl) hTy ?_
  intro p e s m args below meth c Q ls hx hb hr hlocks hown hml hW hK hT hS hQ hl
  have hl : lv_has ls 3 [(0, .ref (base + a0)), (1, .int a1)] := hl
  refine lv_aload_n hx hb dX12_vote_0 rfl (lv_at hl 0 rfl) ?_
  refine lv_iload_n hx hb dX12_vote_1 rfl (lv_at hl 1 rfl) ?_
  refine tw_goi hS (md_runV (As := [.int a1]) (rest := []) hx hb hml hown hW hK hT hS.1 (t_X12_isPoint l D cy tx base Z K N Ma Ra Ja hS.2.1 a0 hz_a0 hk_a0 a1 h_a1) s_X12_327 ⟨rfl, rfl, ⟨Nat.le_of_ble_eq_true rfl, Nat.le_of_ble_eq_true rfl⟩, ⟨Nat.le_of_ble_eq_true rfl, Nat.le_of_ble_eq_true rfl⟩⟩ hz_a0 hk_a0 (by decide) rfl rfl hl.1 rfl (Nat.le_of_ble_eq_true rfl) dX12_vote_2) rfl rfl (fun x7 H locs M4 R5 J3 hS f1 g2 E6 => ?_)
  have eM4 := Fr.nil f1 rfl
  subst eM4
  have eR5 := Fr.nil g2 rfl
  subst eR5
  obtain ⟨h_x7, p8⟩ := E6
  refine lv_if_ne (tgt := 14) hx hb dX12_vote_5 (by decide) (fun c9 => ?_) (fun c9 => ?_)
  · have q10 : ¬ x7.toInt = 0 := ti_ne c9
    have h11 : iv 1 1 x7 := ⟨by have := (h_x7).1; have := ((iv_c (c := 0) (n := 0) (by decide))).1; have := ((iv_c (c := 0) (n := 0) (by decide))).2; omega, by have := (h_x7).2; have := ((iv_c (c := 0) (n := 0) (by decide))).1; have := ((iv_c (c := 0) (n := 0) (by decide))).2; omega⟩
    have h12 : iv 0 11 a1 := ⟨by have := (p8 c9).1; have := (h_a1).1; omega, by have := (p8 c9).2; have := (h_a1).2; omega⟩
    refine lv_aload_n hx hb dX12_vote_14 rfl (lv_at hl 0 rfl) ?_
    obtain ⟨b13, k14, hz_b13, hk_b13, hn_b13⟩ := hS.2.1.ref hz_a0 hk_a0 (show rtR 12 25 = (23, 226, 0) from rfl)
    have hn_b13 := hn_b13 (by decide)
    obtain ⟨x17, k15⟩ : ∃ x, Ma b13 (4 : Int32).toNatClampNeg = x := ⟨_, rfl⟩
    have h16 : iv 0 8 x17 := by rw [← k15]; exact hS.2.1.int hz_b13 hk_b13 (show rgI 23 (4 : Int32).toNatClampNeg = (0, 8) from rfl)
    refine tw_gov hS (md_runV (As := []) (rest := []) hx hb hml hown hW hK hT hS.1 (t_X12_begins l D cy tx base Z K N Ma Ra J3 hS.2.1 a0 hz_a0 hk_a0 b13 k14 x17 k15 (iv_mono h16 (by decide) (by decide))) s_X12_393 ⟨rfl, rfl, ⟨Nat.le_of_ble_eq_true rfl, Nat.le_of_ble_eq_true rfl⟩, ⟨Nat.le_of_ble_eq_true rfl, Nat.le_of_ble_eq_true rfl⟩⟩ hz_a0 hk_a0 (by decide) rfl rfl hl.1 rfl (Nat.le_of_ble_eq_true rfl) dX12_vote_15) rfl rfl (fun H locs M21 R22 J20 hS f18 g19 E23 => ?_)
    have eR22 := Fr.nil g19 rfl
    subst eR22
    have p24 := E23
    have k25 : M21 a0 30 = x17 := p24
    refine lv_aload_n hx hb dX12_vote_18 rfl (lv_at hl 0 rfl) ?_
    refine lv_iload_n hx hb dX12_vote_19 rfl (lv_at hl 1 rfl) ?_
    refine lv_iconst (v := (-1)) hx hb dX12_vote_20 (by decide) ?_
    refine tw_gov hS (md_runV (As := [.int a1, .int (-1)]) (rest := []) hx hb hml hown hW hK hT hS.1 (t_X12_asks l D cy tx base Z K N M21 Ra J20 hS.2.1 a0 hz_a0 hk_a0 a1 h12 (-1) (iv_mono (iv_c (c := (-1)) (n := (-1)) (by decide)) (by decide) (by decide)) (Codes.fr co_a0 hTy hz_a0 hk_a0 hS.2.2.1 hS.2.2.2 rfl)) s_X12_396 ⟨rfl, rfl, ⟨Nat.le_of_ble_eq_true rfl, Nat.le_of_ble_eq_true rfl⟩, ⟨Nat.le_of_ble_eq_true rfl, Nat.le_of_ble_eq_true rfl⟩⟩ hz_a0 hk_a0 (by decide) rfl rfl hl.1 rfl (Nat.le_of_ble_eq_true rfl) dX12_vote_21) rfl rfl (fun H locs M29 R30 J28 hS f26 g27 E31 => ?_)
    have eR30 := Fr.nil g27 rfl
    subst eR30
    refine lv_aload_n hx hb dX12_vote_24 rfl (lv_at hl 0 rfl) ?_
    refine tw_goi hS (md_runV (As := []) (rest := []) hx hb hml hown hW hK hT hS.1 (t_X12_settles_ l D cy tx base Z K N M29 Ra J28 hS.2.1 a0 hz_a0 hk_a0) s_X12_399 ⟨rfl, rfl, ⟨Nat.le_of_ble_eq_true rfl, Nat.le_of_ble_eq_true rfl⟩, ⟨Nat.le_of_ble_eq_true rfl, Nat.le_of_ble_eq_true rfl⟩⟩ hz_a0 hk_a0 (by decide) rfl rfl hl.1 rfl (Nat.le_of_ble_eq_true rfl) dX12_vote_25) rfl rfl (fun x38 H locs M35 R36 J34 hS f32 g33 E37 => ?_)
    have eR36 := Fr.nil g33 rfl
    subst eR36
    have h_x38 := E37
    refine lv_istore_n (lv' := [(2, .int x38), (0, .ref (base + a0)), (1, .int a1)]) hx hb dX12_vote_28 rfl hl (by decide) rfl (fun ls hl => ?_)
    refine lv_aload_n hx hb dX12_vote_29 rfl (lv_at hl 1 rfl) ?_
    refine tw_gov hS (md_runV (As := []) (rest := []) hx hb hml hown hW hK hT hS.1 (t_X12_stays l D cy tx base Z K N M35 Ra J34 hS.2.1 a0 hz_a0 hk_a0) s_X12_401 ⟨rfl, rfl, ⟨Nat.le_of_ble_eq_true rfl, Nat.le_of_ble_eq_true rfl⟩, ⟨Nat.le_of_ble_eq_true rfl, Nat.le_of_ble_eq_true rfl⟩⟩ hz_a0 hk_a0 (by decide) rfl rfl hl.1 rfl (Nat.le_of_ble_eq_true rfl) dX12_vote_30) rfl rfl (fun H locs M42 R43 J41 hS f39 g40 E44 => ?_)
    have eR43 := Fr.nil g40 rfl
    subst eR43
    refine lv_iload_n hx hb dX12_vote_33 rfl (lv_at hl 0 rfl) ?_
    exact tw_endi hx hb hr hlocks hK hT hS hQ ((iv_mono h_x38 (by decide) (by decide))) dX12_vote_34
  · have q45 : x7.toInt = 0 := ti_eq c9
    have h46 : iv 0 0 x7 := ⟨by have := (h_x7).1; have := ((iv_c (c := 0) (n := 0) (by decide))).1; omega, by have := (h_x7).2; have := ((iv_c (c := 0) (n := 0) (by decide))).2; omega⟩
    refine lv_aload_n hx hb dX12_vote_8 rfl (lv_at hl 0 rfl) ?_
    refine lv_iconst (v := 0) hx hb dX12_vote_9 (by decide) ?_
    refine tw_goi hS (md_runV (As := [.int 0]) (rest := []) hx hb hml hown hW hK hT hS.1 (t_X12_refuses l D cy tx base Z K N Ma Ra J3 hS.2.1 a0 hz_a0 hk_a0 0 (iv_mono (iv_c (c := 0) (n := 0) (by decide)) (by decide) (by decide))) s_X12_338 ⟨rfl, rfl, ⟨Nat.le_of_ble_eq_true rfl, Nat.le_of_ble_eq_true rfl⟩, ⟨Nat.le_of_ble_eq_true rfl, Nat.le_of_ble_eq_true rfl⟩⟩ hz_a0 hk_a0 (by decide) rfl rfl hl.1 rfl (Nat.le_of_ble_eq_true rfl) dX12_vote_10) rfl rfl (fun x53 H locs M50 R51 J49 hS f47 g48 E52 => ?_)
    have eR51 := Fr.nil g48 rfl
    subst eR51
    have h_x53 := E52
    exact tw_endi hx hb hr hlocks hK hT hS hQ ((iv_mono h_x53 (by decide) (by decide))) dX12_vote_13
