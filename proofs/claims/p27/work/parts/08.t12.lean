def Lt_X12_chair : WL := [(12, 23, 24), (12, 28, 29), (12, 30, 33), (12, 35, 37), (14, 0, 2000000), (30, 0, 2000000), (31, 0, 2000000), (33, 0, 2000000)]
def LRt_X12_chair : WL := []
set_option maxRecDepth 100000 in
set_option maxHeartbeats 4000000 in
theorem t_X12_chair (l : Launch) (D : va_G) (cy : Nat → ClassId) (tx : (Nat → Nat) × (Nat → Nat)) (base Z : Nat) (K N : Nat → Nat) (Ma : MT) (Ra : RT) (Ja : JT) (hTy : Ty Z K N Ma Ra) (a0 : Nat) (hz_a0 : a0 < Z) (hk_a0 : K a0 = 12) (a1 : Int32) (h_a1 : iv (-2147483648) 2147483647 a1) (a2 : Int32) (h_a2 : iv (-2147483648) 2147483647 a2) (a3 : Int32) (h_a3 : iv (-2147483648) 2147483647 a3) (co_a0 : Codes Ma Ra a0) : Met l yX12_chair [Cond.code yX12_chair cX12_chair 11 (some .int)] (md_rm 6 0 0) (va_Pc [.ref (base + a0), .int a1, .int a2, .int a3] (md_U D cy tx base Z K N Ma Ra Ja)) (mQi D cy tx base (fun r u => TP Z K N Lt_X12_chair LRt_X12_chair Ma Ra u ∧ (iv (-2147483648) 2147483647 r))) 0 0 (fun q => base ≤ q) := by
  refine tw_ofW (L := Lt_X12_chair) (LR := LRt_X12_chair) (by decide) (Nat.le_of_ble_eq_true rfl) hTy ?_
  intro p e s m args below meth c Q ls hx hb hr hlocks hown hml hW hK hT hS hQ hl
  have hl : lv_has ls 11 [(0, .ref (base + a0)), (1, .int a1), (2, .int a2), (3, .int a3)] := hl
  refine lv_aload_n hx hb dX12_chair_0 rfl (lv_at hl 0 rfl) ?_
  refine tw_getr hx hb hW hown hK hS f_X12_45_11 hz_a0 hk_a0 (t := 23) (n := 226) rfl dX12_chair_1 (fun b1 k2 hz_b1 hk_b1 hn_b1 => ?_)
  have hn_b1 := hn_b1 (by decide)
  refine lv_iconst (v := 4) hx hb dX12_chair_4 (by decide) ?_
  refine tw_iald hx hb hK hS hz_b1 hk_b1 (Or.inr (by decide)) hn_b1 (lo := 0) (hi := 8) (iv_c (c := 4) (n := 4) (by decide)) ⟨by decide, by decide⟩ (rg_c (k0 := 4) rfl rfl rfl) dX12_chair_5 (fun x5 k4 h3 => ?_)
  refine lv_istore (lv' := [(4, .int x5), (0, .ref (base + a0)), (1, .int a1), (2, .int a2), (3, .int a3)]) hx hb dX12_chair_6 hl (by decide) rfl (fun ls hl => ?_)
  refine lv_aload_n hx hb dX12_chair_8 rfl (lv_at hl 1 rfl) ?_
  refine lv_iload_n hx hb dX12_chair_9 rfl (lv_at hl 2 rfl) ?_
  refine tw_goi hS (md_runV (As := [.int a1]) (rest := []) hx hb hml hown hW hK hT hS.1 (t_X12_isMember l D cy tx base Z K N Ma Ra Ja hS.2.1 a0 hz_a0 hk_a0 a1 h_a1) s_X12_319 ⟨rfl, rfl, ⟨Nat.le_of_ble_eq_true rfl, Nat.le_of_ble_eq_true rfl⟩, ⟨Nat.le_of_ble_eq_true rfl, Nat.le_of_ble_eq_true rfl⟩⟩ hz_a0 hk_a0 (by decide) rfl rfl hl.1 rfl (Nat.le_of_ble_eq_true rfl) dX12_chair_10) rfl rfl (fun x12 H locs M9 R10 J8 hS f6 g7 E11 => ?_)
  have eM9 := Fr.nil f6 rfl
  subst eM9
  have eR10 := Fr.nil g7 rfl
  subst eR10
  obtain ⟨h_x12, p13⟩ := E11
  refine lv_if_eq (tgt := 41) hx hb dX12_chair_13 (by decide) (fun c14 => ?_) (fun c14 => ?_)
  · have q15 : x12.toInt = 0 := ti_eq c14
    have h16 : iv 0 0 x12 := ⟨by have := (h_x12).1; have := ((iv_c (c := 0) (n := 0) (by decide))).1; omega, by have := (h_x12).2; have := ((iv_c (c := 0) (n := 0) (by decide))).2; omega⟩
    refine lv_ldcw hx hb hown (hW _ w_8_46 rfl) dX12_chair_41 ?_
    exact tw_endi hx hb hr hlocks hK hT hS hQ ((iv_mono (iv_c (c := (-1000000)) (n := (-1000000)) (by decide)) (by decide) (by decide))) dX12_chair_44
  · have q17 : ¬ x12.toInt = 0 := ti_ne c14
    have h18 : iv 1 1 x12 := ⟨by have := (h_x12).1; have := ((iv_c (c := 0) (n := 0) (by decide))).1; have := ((iv_c (c := 0) (n := 0) (by decide))).2; omega, by have := (h_x12).2; have := ((iv_c (c := 0) (n := 0) (by decide))).1; have := ((iv_c (c := 0) (n := 0) (by decide))).2; omega⟩
    have h19 : iv 0 9 a1 := ⟨by have := (p13 c14).1; have := (h_a1).1; omega, by have := (p13 c14).2; have := (h_a1).2; omega⟩
    refine lv_iload hx hb dX12_chair_16 (lv_at hl 0 rfl) ?_
    refine lv_i2l hx hb dX12_chair_18 rfl ?_
    refine lv_lconst (v := 1) hx hb dX12_chair_19 (by decide) ?_
    refine lv_ldc2 hx hb hown (hW _ w_8_120 rfl) dX12_chair_20 ?_
    refine tw_goi hS (md_runS (As := [.long x5.toInt64, .long 1, .long 6]) (rest := []) hx hb hml hown hW hK hT hS.1 (t_X12_in l D cy tx base Z K N Ma Ra J8 hS.2.1 (x5.toInt64) (1) (6)) s_X12_155 ⟨rfl, rfl, ⟨Nat.le_of_ble_eq_true rfl, Nat.le_of_ble_eq_true rfl⟩, ⟨Nat.le_of_ble_eq_true rfl, Nat.le_of_ble_eq_true rfl⟩⟩ rfl hl.1 rfl (Nat.le_of_ble_eq_true rfl) dX12_chair_23) rfl rfl (fun x26 H locs M23 R24 J22 hS f20 g21 E25 => ?_)
    have eM23 := Fr.nil f20 rfl
    subst eM23
    have eR24 := Fr.nil g21 rfl
    subst eR24
    obtain ⟨h_x26, p27⟩ := E25
    have p28 := p27.1
    refine lv_if_eq (tgt := 41) hx hb dX12_chair_26 (by decide) (fun c29 => ?_) (fun c29 => ?_)
    · have q30 : x26.toInt = 0 := ti_eq c29
      have q31 := p27.2 c29
      have q31 : x5.toInt < 1 ∨ 6 < x5.toInt := by rw [Int32.toInt_toInt64] at q31; exact q31
      have h32 : iv 0 0 x26 := ⟨by have := (h_x26).1; have := ((iv_c (c := 0) (n := 0) (by decide))).1; omega, by have := (h_x26).2; have := ((iv_c (c := 0) (n := 0) (by decide))).2; omega⟩
      refine lv_ldcw hx hb hown (hW _ w_8_46 rfl) dX12_chair_41 ?_
      exact tw_endi hx hb hr hlocks hK hT hS hQ ((iv_mono (iv_c (c := (-1000000)) (n := (-1000000)) (by decide)) (by decide) (by decide))) dX12_chair_44
    · have q33 : ¬ x26.toInt = 0 := ti_ne c29
      have h34 : iv 1 1 x26 := ⟨by have := (h_x26).1; have := ((iv_c (c := 0) (n := 0) (by decide))).1; have := ((iv_c (c := 0) (n := 0) (by decide))).2; omega, by have := (h_x26).2; have := ((iv_c (c := 0) (n := 0) (by decide))).1; have := ((iv_c (c := 0) (n := 0) (by decide))).2; omega⟩
      have h35 : iv 1 6 x5 := in2iv (p28 c29) ((jv_c (x := 1) (n := 1) (by decide))).1 ((jv_c (x := 6) (n := 6) (by decide))).2
      refine lv_iload_n hx hb dX12_chair_29 rfl (lv_at hl 4 rfl) ?_
      refine lv_i2l hx hb dX12_chair_30 rfl ?_
      refine lv_lconst (v := 0) hx hb dX12_chair_31 (by decide) ?_
      refine lv_iload hx hb dX12_chair_32 (lv_at hl 0 rfl) ?_
      refine lv_i2l hx hb dX12_chair_34 rfl ?_
      refine tw_goi hS (md_runS (As := [.long a3.toInt64, .long 0, .long x5.toInt64]) (rest := []) hx hb hml hown hW hK hT hS.1 (t_X12_in l D cy tx base Z K N Ma Ra J22 hS.2.1 (a3.toInt64) (0) (x5.toInt64)) s_X12_155 ⟨rfl, rfl, ⟨Nat.le_of_ble_eq_true rfl, Nat.le_of_ble_eq_true rfl⟩, ⟨Nat.le_of_ble_eq_true rfl, Nat.le_of_ble_eq_true rfl⟩⟩ rfl hl.1 rfl (Nat.le_of_ble_eq_true rfl) dX12_chair_35) rfl rfl (fun x42 H locs M39 R40 J38 hS f36 g37 E41 => ?_)
      have eM39 := Fr.nil f36 rfl
      subst eM39
      have eR40 := Fr.nil g37 rfl
      subst eR40
      obtain ⟨h_x42, p43⟩ := E41
      have p44 := p43.1
      refine lv_if_ne (tgt := 45) hx hb dX12_chair_38 (by decide) (fun c45 => ?_) (fun c45 => ?_)
      · have q46 : ¬ x42.toInt = 0 := ti_ne c45
        have h47 : iv 1 1 x42 := ⟨by have := (h_x42).1; have := ((iv_c (c := 0) (n := 0) (by decide))).1; have := ((iv_c (c := 0) (n := 0) (by decide))).2; omega, by have := (h_x42).2; have := ((iv_c (c := 0) (n := 0) (by decide))).1; have := ((iv_c (c := 0) (n := 0) (by decide))).2; omega⟩
        have h48 : iv 0 6 a3 := in2iv (p44 c45) ((jv_c (x := 0) (n := 0) (by decide))).1 ((jv_o h35)).2
        have q49 := (p44 c45).2
        rw [Int32.toInt_toInt64, Int32.toInt_toInt64] at q49
        refine lv_iconst (v := 1) hx hb dX12_chair_45 (by decide) ?_
        refine lv_istore (lv' := [(5, .int 1), (4, .int x5), (0, .ref (base + a0)), (1, .int a1), (2, .int a2), (3, .int a3)]) hx hb dX12_chair_46 hl (by decide) rfl (fun ls hl => ?_)
        refine lv_iconst (v := 0) hx hb dX12_chair_48 (by decide) ?_
        refine lv_istore (lv' := [(6, .int 0), (5, .int 1), (4, .int x5), (0, .ref (base + a0)), (1, .int a1), (2, .int a2), (3, .int a3)]) hx hb dX12_chair_49 hl (by decide) rfl (fun ls hl => ?_)
        have W51_52 : ∀ (n_52 : Nat) (x50 : Int32) (x51 : Int32) (M52 : MT) (R53 : RT) (J54 : JT) (H : Heap) (locs : List Loc) (ls : Array Slot) (h_x50 : iv (-2147483648) 2147483647 x50) (h_x51 : iv 0 6 x51) (hm_52 : 6 - x51.toInt < (n_52 : Int)) (hS : SB D cy base Z K N Lt_X12_chair LRt_X12_chair Ma Ra M52 R53 J54 s H locs) (hl : lv_has ls 11 [(5, .int x50), (6, .int x51), (4, .int x5), (0, .ref (base + a0)), (1, .int a1), (2, .int a2), (3, .int a3)]), W p l e (md_rm 6 0 0) s m args below meth c H locs 0 0 Q (F0 m 51 ls []) := by
          intro n_52
          induction n_52 with
          | zero =>
            intro x50 x51 M52 R53 J54 H locs ls h_x50 h_x51 hm_52 hS hl
            exfalso
            have := (h19).1; have := (h19).2; have := (h_a2).1; have := (h_a2).2; have := (h48).1; have := (h48).2; have := (h_x51).1; have := (h_x51).2; omega
          | succ n_52 ih_52 =>
            intro x50 x51 M52 R53 J54 H locs ls h_x50 h_x51 hm_52 hS hl
            have f55 := hS.2.2.1
            have g56 := hS.2.2.2
            refine lv_iload hx hb dX12_chair_51 (lv_at hl 1 rfl) ?_
            refine lv_iload hx hb dX12_chair_53 (lv_at hl 2 rfl) ?_
            refine lv_icmp_ge (tgt := 71) hx hb dX12_chair_55 (by decide) (fun c57 => ?_) (fun c57 => ?_)
            · have q58 : x5.toInt ≤ x51.toInt := ti_le c57
              have h59 : iv 1 6 x51 := iv_geL (y := x5) h_x51 h35 q58 (by decide)
              refine lv_iconst (v := 0) hx hb dX12_chair_71 (by decide) ?_
              refine lv_istore (lv' := [(6, .int 0), (5, .int x50), (4, .int x5), (0, .ref (base + a0)), (1, .int a1), (2, .int a2), (3, .int a3)]) hx hb dX12_chair_72 hl (by decide) rfl (fun ls hl => ?_)
              refine lv_iconst (v := 0) hx hb dX12_chair_74 (by decide) ?_
              refine lv_istore (lv' := [(7, .int 0), (6, .int 0), (5, .int x50), (4, .int x5), (0, .ref (base + a0)), (1, .int a1), (2, .int a2), (3, .int a3)]) hx hb dX12_chair_75 hl (by decide) rfl (fun ls hl => ?_)
              refine lv_iconst (v := 0) hx hb dX12_chair_77 (by decide) ?_
              refine lv_istore (lv' := [(8, .int 0), (7, .int 0), (6, .int 0), (5, .int x50), (4, .int x5), (0, .ref (base + a0)), (1, .int a1), (2, .int a2), (3, .int a3)]) hx hb dX12_chair_78 hl (by decide) rfl (fun ls hl => ?_)
              have W80_63 : ∀ (n_63 : Nat) (x60 : Int32) (x61 : Int32) (x62 : Int32) (M63 : MT) (R64 : RT) (J65 : JT) (H : Heap) (locs : List Loc) (ls : Array Slot) (h_x60 : iv 0 1 x60) (h_x61 : iv (-2147483648) 2147483647 x61) (h_x62 : iv 0 2147483647 x62) (hm_63 : 2147483647 - x62.toInt < (n_63 : Int)) (hS : SB D cy base Z K N Lt_X12_chair LRt_X12_chair Ma Ra M63 R64 J65 s H locs) (hl : lv_has ls 11 [(6, .int x60), (7, .int x61), (8, .int x62), (5, .int x50), (4, .int x5), (0, .ref (base + a0)), (1, .int a1), (2, .int a2), (3, .int a3)]), W p l e (md_rm 6 0 0) s m args below meth c H locs 0 0 Q (F0 m 80 ls []) := by
                intro n_63
                induction n_63 with
                | zero =>
                  intro x60 x61 x62 M63 R64 J65 H locs ls h_x60 h_x61 h_x62 hm_63 hS hl
                  exfalso
                  have := (h19).1; have := (h19).2; have := (h_a2).1; have := (h_a2).2; have := (h48).1; have := (h48).2; have := (h_x62).1; have := (h_x62).2; omega
                | succ n_63 ih_63 =>
                  intro x60 x61 x62 M63 R64 J65 H locs ls h_x60 h_x61 h_x62 hm_63 hS hl
                  have f66 := hS.2.2.1
                  have g67 := hS.2.2.2
                  refine lv_iload hx hb dX12_chair_80 (lv_at hl 2 rfl) ?_
                  refine lv_iload hx hb dX12_chair_82 (lv_at hl 3 rfl) ?_
                  refine lv_icmp_ge (tgt := 260) hx hb dX12_chair_84 (by decide) (fun c68 => ?_) (fun c68 => ?_)
                  · have q69 : x50.toInt ≤ x62.toInt := ti_le c68
                    refine lv_iload_n hx hb dX12_chair_260 rfl (lv_at hl 8 rfl) ?_
                    refine lv_if_ne (tgt := 269) hx hb dX12_chair_261 (by decide) (fun c70 => ?_) (fun c70 => ?_)
                    · have q71 : ¬ a3.toInt = 0 := ti_ne c70
                      have h72 : iv 1 6 a3 := ⟨by have := (h48).1; have := ((iv_c (c := 0) (n := 0) (by decide))).1; have := ((iv_c (c := 0) (n := 0) (by decide))).2; omega, by have := (h48).2; have := ((iv_c (c := 0) (n := 0) (by decide))).1; have := ((iv_c (c := 0) (n := 0) (by decide))).2; omega⟩
                      refine lv_aload_n hx hb dX12_chair_269 rfl (lv_at hl 5 rfl) ?_
                      refine tw_getr hx hb hW hown hK hS f_X12_87_11 hz_a0 hk_a0 (t := 14) (n := 6) rfl dX12_chair_270 (fun b73 k74 hz_b73 hk_b73 hn_b73 => ?_)
                      have hn_b73 := hn_b73 (by decide)
                      refine lv_iload_n hx hb dX12_chair_273 rfl (lv_at hl 8 rfl) ?_
                      refine lv_iconst (v := 1) hx hb dX12_chair_274 (by decide) ?_
                      refine tw_isub (lo := 0) (hi := 5) hx hb h72 (iv_c (c := 1) (n := 1) (by decide)) ⟨by decide, by decide⟩ ⟨by decide, by decide⟩ dX12_chair_275 (fun x77 e76 h75 => ?_)
                      have e76 : x77.toInt = a3.toInt - 1 := e76
                      refine tw_iald hx hb hK hS hz_b73 hk_b73 (Or.inl rfl) hn_b73 (lo := (-2147483648)) (hi := 2147483647) h75 ⟨by decide, by decide⟩ rg_u14 dX12_chair_276 (fun x80 k79 h78 => ?_)
                      exact tw_endi hx hb hr hlocks hK hT hS hQ (h78) dX12_chair_277
                    · have q81 : a3.toInt = 0 := ti_eq c70
                      have h82 : iv 0 0 a3 := ⟨by have := (h48).1; have := ((iv_c (c := 0) (n := 0) (by decide))).1; omega, by have := (h48).2; have := ((iv_c (c := 0) (n := 0) (by decide))).2; omega⟩
                      refine lv_iload hx hb dX12_chair_264 (lv_at hl 1 rfl) ?_
                      refine lv_goto (tgt := 277) hx hb dX12_chair_266 (by decide) ?_
                      exact tw_endi hx hb hr hlocks hK hT hS hQ (h_x61) dX12_chair_277
                  · have q83 : x62.toInt < x50.toInt := ti_nle c68
                    have h84 : iv 0 2147483646 x62 := iv_ltL (y := x50) h_x62 h_x50 q83 (by decide)
                    have h85 : iv 1 2147483647 x50 := iv_gtL (y := x62) h_x50 h_x62 q83 (by decide)
                    refine lv_aload_n hx hb dX12_chair_87 rfl (lv_at hl 5 rfl) ?_
                    refine lv_iload hx hb dX12_chair_88 (lv_at hl 2 rfl) ?_
                    refine lv_iload hx hb dX12_chair_90 (lv_at hl 4 rfl) ?_
                    refine tw_goi hS (md_runV (As := [.int x62, .int x5]) (rest := []) hx hb hml hown hW hK hT hS.1 (t_X12_isRow l D cy tx base Z K N M63 R64 J65 hS.2.1 a0 hz_a0 hk_a0 x62 (iv_mono h84 (by decide) (by decide)) x5 h35) s_X12_472 ⟨rfl, rfl, ⟨Nat.le_of_ble_eq_true rfl, Nat.le_of_ble_eq_true rfl⟩, ⟨Nat.le_of_ble_eq_true rfl, Nat.le_of_ble_eq_true rfl⟩⟩ hz_a0 hk_a0 (by decide) rfl rfl hl.1 rfl (Nat.le_of_ble_eq_true rfl) dX12_chair_92) rfl rfl (fun x92 H locs M89 R90 J88 hS f86 g87 E91 => ?_)
                    have eR90 := Fr.nil g87 rfl
                    subst eR90
                    have h_x92 := E91
                    clear E91
                    refine lv_if_ne (tgt := 101) hx hb dX12_chair_95 (by decide) (fun c93 => ?_) (fun c93 => ?_)
                    · have q94 : ¬ x92.toInt = 0 := ti_ne c93
                      have h95 : iv 1 1 x92 := ⟨by have := (h_x92).1; have := ((iv_c (c := 0) (n := 0) (by decide))).1; have := ((iv_c (c := 0) (n := 0) (by decide))).2; omega, by have := (h_x92).2; have := ((iv_c (c := 0) (n := 0) (by decide))).1; have := ((iv_c (c := 0) (n := 0) (by decide))).2; omega⟩
                      refine lv_aload_n hx hb dX12_chair_101 rfl (lv_at hl 5 rfl) ?_
                      have k96 : R64 a0 25 = some b1 := (Fr.kp (k := 25) g67 hk_a0 rfl).trans k2
                      have k97 : M89 b1 (4 : Int32).toNatClampNeg = x5 := ((Fr.kp (k := (4 : Int32).toNatClampNeg) f86 hk_b1 rfl).trans (Fr.kp (k := (4 : Int32).toNatClampNeg) f66 hk_b1 rfl)).trans k4
                      refine tw_gov hS (md_runV (As := []) (rest := []) hx hb hml hown hW hK hT hS.1 (t_X12_begins l D cy tx base Z K N M89 R64 J88 hS.2.1 a0 hz_a0 hk_a0 b1 k96 x5 k97 (iv_mono h35 (by decide) (by decide))) s_X12_393 ⟨rfl, rfl, ⟨Nat.le_of_ble_eq_true rfl, Nat.le_of_ble_eq_true rfl⟩, ⟨Nat.le_of_ble_eq_true rfl, Nat.le_of_ble_eq_true rfl⟩⟩ hz_a0 hk_a0 (by decide) rfl rfl hl.1 rfl (Nat.le_of_ble_eq_true rfl) dX12_chair_102) rfl rfl (fun H locs M101 R102 J100 hS f98 g99 E103 => ?_)
                      have eR102 := Fr.nil g99 rfl
                      subst eR102
                      have p104 := E103
                      clear E103
                      have k105 : M101 a0 30 = x5 := p104
                      refine lv_iconst (v := 0) hx hb dX12_chair_105 (by decide) ?_
                      refine lv_istore (lv' := [(9, .int 0), (6, .int x60), (7, .int x61), (8, .int x62), (5, .int x50), (4, .int x5), (0, .ref (base + a0)), (1, .int a1), (2, .int a2), (3, .int a3)]) hx hb dX12_chair_106 hl (by decide) rfl (fun ls hl => ?_)
                      have W108_107 : ∀ (n_107 : Nat) (x106 : Int32) (x112 : Int32) (M107 : MT) (R108 : RT) (J109 : JT) (H : Heap) (locs : List Loc) (ls : Array Slot) (h_x106 : iv 0 6 x106) (h_x112 : iv 1 6 x112) (k113 : M107 a0 30 = x112) (hm_107 : 6 - x106.toInt < (n_107 : Int)) (hS : SB D cy base Z K N Lt_X12_chair LRt_X12_chair Ma Ra M107 R108 J109 s H locs) (hl : lv_has ls 11 [(9, .int x106), (6, .int x60), (7, .int x61), (8, .int x62), (5, .int x50), (4, .int x5), (0, .ref (base + a0)), (1, .int a1), (2, .int a2), (3, .int a3)]), W p l e (md_rm 6 0 0) s m args below meth c H locs 0 0 Q (F0 m 108 ls []) := by
                        intro n_107
                        induction n_107 with
                        | zero =>
                          intro x106 x112 M107 R108 J109 H locs ls h_x106 h_x112 k113 hm_107 hS hl
                          exfalso
                          have := (h19).1; have := (h19).2; have := (h_a2).1; have := (h_a2).2; have := (h48).1; have := (h48).2; have := (h_x106).1; have := (h_x106).2; omega
                        | succ n_107 ih_107 =>
                          intro x106 x112 M107 R108 J109 H locs ls h_x106 h_x112 k113 hm_107 hS hl
                          have f110 := hS.2.2.1
                          have g111 := hS.2.2.2
                          refine lv_iload hx hb dX12_chair_108 (lv_at hl 0 rfl) ?_
                          refine lv_iload hx hb dX12_chair_110 (lv_at hl 5 rfl) ?_
                          refine lv_icmp_ge (tgt := 144) hx hb dX12_chair_112 (by decide) (fun c114 => ?_) (fun c114 => ?_)
                          · have q115 : x5.toInt ≤ x106.toInt := ti_le c114
                            have h116 : iv 1 6 x106 := iv_geL (y := x5) h_x106 h35 q115 (by decide)
                            refine lv_aload_n hx hb dX12_chair_144 rfl (lv_at hl 6 rfl) ?_
                            refine lv_iconst (v := 0) hx hb dX12_chair_145 (by decide) ?_
                            refine tw_puti hx hb hW hown hK hS f_X12_410_11 hz_a0 hk_a0 rfl rfl (lo := (-2147483648)) (hi := 2147483647) rfl (iv_mono (iv_c (c := 0) (n := 0) (by decide)) (by decide) (by decide)) rfl dX12_chair_146 (fun H locs M119 hS k117 f118 => ?_)
                            refine lv_aload_n hx hb dX12_chair_149 rfl (lv_at hl 6 rfl) ?_
                            refine lv_iload_n hx hb dX12_chair_150 rfl (lv_at hl 7 rfl) ?_
                            refine tw_gov hS (md_runV (As := [.int a1]) (rest := []) hx hb hml hown hW hK hT hS.1 (t_X12_passes l D cy tx base Z K N M119 R108 J109 hS.2.1 a0 hz_a0 hk_a0 a1 h19 (Codes.fr co_a0 hTy hz_a0 hk_a0 hS.2.2.1 hS.2.2.2 rfl)) s_X12_417 ⟨rfl, rfl, ⟨Nat.le_of_ble_eq_true rfl, Nat.le_of_ble_eq_true rfl⟩, ⟨Nat.le_of_ble_eq_true rfl, Nat.le_of_ble_eq_true rfl⟩⟩ hz_a0 hk_a0 (by decide) rfl rfl hl.1 rfl (Nat.le_of_ble_eq_true rfl) dX12_chair_151) rfl rfl (fun H locs M123 R124 J122 hS f120 g121 E125 => ?_)
                            have eR124 := Fr.nil g121 rfl
                            subst eR124
                            refine lv_iload hx hb dX12_chair_154 (lv_at hl 1 rfl) ?_
                            have J200_126 : ∀  (M126 : MT) (R127 : RT) (J128 : JT) (H : Heap) (locs : List Loc) (ls : Array Slot) (hS : SB D cy base Z K N Lt_X12_chair LRt_X12_chair Ma Ra M126 R127 J128 s H locs) (hl : lv_has ls 11 [(9, .int x106), (6, .int x60), (7, .int x61), (8, .int x62), (5, .int x50), (4, .int x5), (0, .ref (base + a0)), (1, .int a1), (2, .int a2), (3, .int a3)]), W p l e (md_rm 6 0 0) s m args below meth c H locs 0 0 Q (F0 m 200 ls []) := by
                              intro  M126 R127 J128 H locs ls  hS hl
                              have f129 := hS.2.2.1
                              have g130 := hS.2.2.2
                              refine lv_iconst (v := 1) hx hb dX12_chair_200 (by decide) ?_
                              refine lv_goto (tgt := 205) hx hb dX12_chair_201 (by decide) ?_
                              refine lv_istore (lv' := [(9, .int 1), (6, .int x60), (7, .int x61), (8, .int x62), (5, .int x50), (4, .int x5), (0, .ref (base + a0)), (1, .int a1), (2, .int a2), (3, .int a3)]) hx hb dX12_chair_205 hl (by decide) rfl (fun ls hl => ?_)
                              refine lv_iload hx hb dX12_chair_207 (lv_at hl 0 rfl) ?_
                              refine lv_if_ne (tgt := 215) hx hb dX12_chair_209 (by decide) (fun _ => ?_) (fun h => absurd h (by decide))
                              refine lv_iconst (v := 1) hx hb dX12_chair_215 (by decide) ?_
                              refine lv_istore (lv' := [(6, .int 1), (9, .int 1), (7, .int x61), (8, .int x62), (5, .int x50), (4, .int x5), (0, .ref (base + a0)), (1, .int a1), (2, .int a2), (3, .int a3)]) hx hb dX12_chair_216 hl (by decide) rfl (fun ls hl => ?_)
                              refine lv_aload_n hx hb dX12_chair_218 rfl (lv_at hl 6 rfl) ?_
                              refine tw_geti hx hb hW hown hK hS f_X12_410_11 hz_a0 hk_a0 (lo := (-2147483648)) (hi := 2147483647) rfl dX12_chair_219 (fun x133 k132 h131 => ?_)
                              refine lv_istore (lv' := [(7, .int x133), (6, .int 1), (9, .int 1), (8, .int x62), (5, .int x50), (4, .int x5), (0, .ref (base + a0)), (1, .int a1), (2, .int a2), (3, .int a3)]) hx hb dX12_chair_222 hl (by decide) rfl (fun ls hl => ?_)
                              refine lv_iconst (v := 0) hx hb dX12_chair_224 (by decide) ?_
                              refine lv_istore (lv' := [(10, .int 0), (7, .int x133), (6, .int 1), (9, .int 1), (8, .int x62), (5, .int x50), (4, .int x5), (0, .ref (base + a0)), (1, .int a1), (2, .int a2), (3, .int a3)]) hx hb dX12_chair_225 hl (by decide) rfl (fun ls hl => ?_)
                              have W227_135 : ∀ (n_135 : Nat) (x134 : Int32) (M135 : MT) (R136 : RT) (J137 : JT) (H : Heap) (locs : List Loc) (ls : Array Slot) (h_x134 : iv 0 6 x134) (hm_135 : 6 - x134.toInt < (n_135 : Int)) (hS : SB D cy base Z K N Lt_X12_chair LRt_X12_chair Ma Ra M135 R136 J137 s H locs) (hl : lv_has ls 11 [(10, .int x134), (7, .int x133), (6, .int 1), (9, .int 1), (8, .int x62), (5, .int x50), (4, .int x5), (0, .ref (base + a0)), (1, .int a1), (2, .int a2), (3, .int a3)]), W p l e (md_rm 6 0 0) s m args below meth c H locs 0 0 Q (F0 m 227 ls []) := by
                                intro n_135
                                induction n_135 with
                                | zero =>
                                  intro x134 M135 R136 J137 H locs ls h_x134 hm_135 hS hl
                                  exfalso
                                  have := (h19).1; have := (h19).2; have := (h_a2).1; have := (h_a2).2; have := (h48).1; have := (h48).2; have := (h_x134).1; have := (h_x134).2; omega
                                | succ n_135 ih_135 =>
                                  intro x134 M135 R136 J137 H locs ls h_x134 hm_135 hS hl
                                  have f138 := hS.2.2.1
                                  have g139 := hS.2.2.2
                                  refine lv_iload hx hb dX12_chair_227 (lv_at hl 0 rfl) ?_
                                  refine lv_iload hx hb dX12_chair_229 (lv_at hl 6 rfl) ?_
                                  refine lv_icmp_ge (tgt := 254) hx hb dX12_chair_231 (by decide) (fun c140 => ?_) (fun c140 => ?_)
                                  · have q141 : x5.toInt ≤ x134.toInt := ti_le c140
                                    have h142 : iv 1 6 x134 := iv_geL (y := x5) h_x134 h35 q141 (by decide)
                                    refine tw_iinc (lv' := fun x145 => [(8, .int x145), (10, .int x134), (7, .int x133), (6, .int 1), (9, .int 1), (5, .int x50), (4, .int x5), (0, .ref (base + a0)), (1, .int a1), (2, .int a2), (3, .int a3)]) (lo := 1) (hi := 2147483647) hx hb dX12_chair_254 hl (k := 4) rfl h84 (by decide) ⟨by decide, by decide⟩ ⟨by decide, by decide⟩ (by decide) (fun _ => rfl) (fun x145 ls e144 h143 hl => ?_)
                                    refine lv_goto (tgt := 80) hx hb dX12_chair_257 (by decide) ?_
                                    have hm146 : 2147483647 - x145.toInt < (n_63 : Int) := by
                                      have := (h19).1; have := (h19).2; have := (h_a2).1; have := (h_a2).2; have := (h48).1; have := (h48).2; have := (h143).1; have := (h143).2; have := (h84).1; have := (h84).2; omega
                                    exact ih_63 1 x133 x145 M135 R136 J137 H locs _ (iv_mono (iv_c (c := 1) (n := 1) (by decide)) (by decide) (by decide)) h131 (iv_mono h143 (by decide) (by decide)) hm146 hS (lv_sub hl [3, 2, 0, 5, 6, 7, 8, 9, 10] rfl)
                                  · have q147 : x134.toInt < x5.toInt := ti_nle c140
                                    have h148 : iv 0 5 x134 := iv_ltL (y := x5) h_x134 h35 q147 (by decide)
                                    refine lv_aload_n hx hb dX12_chair_234 rfl (lv_at hl 7 rfl) ?_
                                    refine tw_getr hx hb hW hown hK hS f_X12_87_11 hz_a0 hk_a0 (t := 14) (n := 6) rfl dX12_chair_235 (fun b149 k150 hz_b149 hk_b149 hn_b149 => ?_)
                                    have hn_b149 := hn_b149 (by decide)
                                    refine lv_iload hx hb dX12_chair_238 (lv_at hl 0 rfl) ?_
                                    refine lv_aload_n hx hb dX12_chair_240 rfl (lv_at hl 7 rfl) ?_
                                    refine tw_getr hx hb hW hown hK hS f_X12_54_11 hz_a0 hk_a0 (t := 31) (n := 8) rfl dX12_chair_241 (fun b151 k152 hz_b151 hk_b151 hn_b151 => ?_)
                                    have hn_b151 := hn_b151 (by decide)
                                    refine lv_iload hx hb dX12_chair_244 (lv_at hl 0 rfl) ?_
                                    refine tw_iald hx hb hK hS hz_b151 hk_b151 (Or.inr (by decide)) hn_b151 (lo := 0) (hi := 11) h148 ⟨by decide, by decide⟩ rg_u31 dX12_chair_246 (fun x155 k154 h153 => ?_)
                                    refine tw_iast hx hb hK hS hz_b149 hk_b149 (Or.inl rfl) hn_b149 h148 ⟨by decide, by decide⟩ h153 (rg_s14 ⟨by decide, by decide⟩) (jl := 0) (jh := 1999999) ⟨by decide, by decide⟩ rfl dX12_chair_247 (fun H locs M158 hS k156 f157 => ?_)
                                    refine tw_iinc (lv' := fun x161 => [(10, .int x161), (7, .int x133), (6, .int 1), (9, .int 1), (8, .int x62), (5, .int x50), (4, .int x5), (0, .ref (base + a0)), (1, .int a1), (2, .int a2), (3, .int a3)]) (lo := 1) (hi := 6) hx hb dX12_chair_248 hl (k := 0) rfl h148 (by decide) ⟨by decide, by decide⟩ ⟨by decide, by decide⟩ (by decide) (fun _ => rfl) (fun x161 ls e160 h159 hl => ?_)
                                    refine lv_goto (tgt := 227) hx hb dX12_chair_251 (by decide) ?_
                                    have hm162 : 6 - x161.toInt < (n_135 : Int) := by
                                      have := (h19).1; have := (h19).2; have := (h_a2).1; have := (h_a2).2; have := (h48).1; have := (h48).2; have := (h148).1; have := (h148).2; have := (h159).1; have := (h159).2; omega
                                    exact ih_135 x161 M158 R136 J137 H locs _ (iv_mono h159 (by decide) (by decide)) hm162 hS hl
                              have hm163 : 6 - (0 : Int32).toInt < (((7 : Nat) : Int) : Int) := by
                                have := (h19).1; have := (h19).2; have := (h_a2).1; have := (h_a2).2; have := (h48).1; have := (h48).2; have : (0 : Int32).toInt = 0 := (by decide); omega
                              exact W227_135 7 0 M126 R127 J128 H locs _ (iv_mono (iv_c (c := 0) (n := 0) (by decide)) (by decide) (by decide)) hm163 hS hl
                            refine lv_if_eq (tgt := 200) hx hb dX12_chair_156 (by decide) (fun c164 => ?_) (fun c164 => ?_)
                            · have q165 : x60.toInt = 0 := ti_eq c164
                              have h166 : iv 0 0 x60 := ⟨by have := (h_x60).1; have := ((iv_c (c := 0) (n := 0) (by decide))).1; omega, by have := (h_x60).2; have := ((iv_c (c := 0) (n := 0) (by decide))).2; omega⟩
                              exact J200_126  M123 R108 J122 H locs _  hS hl
                            · have q167 : ¬ x60.toInt = 0 := ti_ne c164
                              have h168 : iv 1 1 x60 := ⟨by have := (h_x60).1; have := ((iv_c (c := 0) (n := 0) (by decide))).1; have := ((iv_c (c := 0) (n := 0) (by decide))).2; omega, by have := (h_x60).2; have := ((iv_c (c := 0) (n := 0) (by decide))).1; have := ((iv_c (c := 0) (n := 0) (by decide))).2; omega⟩
                              refine lv_iload_n hx hb dX12_chair_159 rfl (lv_at hl 8 rfl) ?_
                              refine lv_if_eq (tgt := 175) hx hb dX12_chair_160 (by decide) (fun c169 => ?_) (fun c169 => ?_)
                              · have q170 : a2.toInt = 0 := ti_eq c169
                                have h171 : iv 0 0 a2 := ⟨by have := (h_a2).1; have := ((iv_c (c := 0) (n := 0) (by decide))).1; omega, by have := (h_a2).2; have := ((iv_c (c := 0) (n := 0) (by decide))).2; omega⟩
                                refine lv_aload_n hx hb dX12_chair_175 rfl (lv_at hl 6 rfl) ?_
                                refine tw_geti hx hb hW hown hK hS f_X12_410_11 hz_a0 hk_a0 (lo := (-2147483648)) (hi := 2147483647) rfl dX12_chair_176 (fun x174 k173 h172 => ?_)
                                refine lv_iload hx hb dX12_chair_179 (lv_at hl 2 rfl) ?_
                                refine lv_icmp_lt (tgt := 200) hx hb dX12_chair_181 (by decide) (fun c175 => ?_) (fun c175 => ?_)
                                · have q176 : x174.toInt < x61.toInt := ti_lt c175
                                  have h177 : iv (-2147483648) 2147483646 x174 := iv_ltL (y := x61) h172 h_x61 q176 (by decide)
                                  have h178 : iv (-2147483647) 2147483647 x61 := iv_gtL (y := x174) h_x61 h172 q176 (by decide)
                                  exact J200_126  M123 R108 J122 H locs _  hS hl
                                · have q179 : x61.toInt ≤ x174.toInt := ti_nlt c175
                                  refine lv_aload_n hx hb dX12_chair_184 rfl (lv_at hl 6 rfl) ?_
                                  refine tw_getk hx hb hW hown hK hS f_X12_410_11 hz_a0 hk_a0 (v := x174) k173 dX12_chair_185 ?_
                                  refine lv_iload hx hb dX12_chair_188 (lv_at hl 2 rfl) ?_
                                  have J204_180 : ∀  (M180 : MT) (R181 : RT) (J182 : JT) (H : Heap) (locs : List Loc) (ls : Array Slot) (hS : SB D cy base Z K N Lt_X12_chair LRt_X12_chair Ma Ra M180 R181 J182 s H locs) (hl : lv_has ls 11 [(9, .int x106), (6, .int x60), (7, .int x61), (8, .int x62), (5, .int x50), (4, .int x5), (0, .ref (base + a0)), (1, .int a1), (2, .int a2), (3, .int a3)]), W p l e (md_rm 6 0 0) s m args below meth c H locs 0 0 Q (F0 m 204 ls []) := by
                                    intro  M180 R181 J182 H locs ls  hS hl
                                    have f183 := hS.2.2.1
                                    have g184 := hS.2.2.2
                                    refine lv_iconst (v := 0) hx hb dX12_chair_204 (by decide) ?_
                                    refine lv_istore (lv' := [(9, .int 0), (6, .int x60), (7, .int x61), (8, .int x62), (5, .int x50), (4, .int x5), (0, .ref (base + a0)), (1, .int a1), (2, .int a2), (3, .int a3)]) hx hb dX12_chair_205 hl (by decide) rfl (fun ls hl => ?_)
                                    refine lv_iload hx hb dX12_chair_207 (lv_at hl 0 rfl) ?_
                                    refine lv_if_ne (tgt := 215) hx hb dX12_chair_209 (by decide) (fun h => absurd h (by decide)) (fun _ => ?_)
                                    refine lv_goto (tgt := 254) hx hb dX12_chair_212 (by decide) ?_
                                    refine tw_iinc (lv' := fun x187 => [(8, .int x187), (9, .int 0), (6, .int x60), (7, .int x61), (5, .int x50), (4, .int x5), (0, .ref (base + a0)), (1, .int a1), (2, .int a2), (3, .int a3)]) (lo := 1) (hi := 2147483647) hx hb dX12_chair_254 hl (k := 3) rfl h84 (by decide) ⟨by decide, by decide⟩ ⟨by decide, by decide⟩ (by decide) (fun _ => rfl) (fun x187 ls e186 h185 hl => ?_)
                                    refine lv_goto (tgt := 80) hx hb dX12_chair_257 (by decide) ?_
                                    have hm188 : 2147483647 - x187.toInt < (n_63 : Int) := by
                                      have := (h19).1; have := (h19).2; have := (h171).1; have := (h171).2; have := (h48).1; have := (h48).2; have := (h185).1; have := (h185).2; have := (h84).1; have := (h84).2; omega
                                    exact ih_63 x60 x61 x187 M180 R181 J182 H locs _ (iv_mono h168 (by decide) (by decide)) h_x61 (iv_mono h185 (by decide) (by decide)) hm188 hS (lv_sub hl [2, 3, 0, 4, 5, 6, 7, 8, 9] rfl)
                                  refine lv_icmp_ne (tgt := 204) hx hb dX12_chair_190 (by decide) (fun c189 => ?_) (fun c189 => ?_)
                                  · have q190 : ¬ x174.toInt = x61.toInt := ti_ne c189
                                    exact J204_180  M123 R108 J122 H locs _  hS hl
                                  · have q191 : x174.toInt = x61.toInt := ti_eq c189
                                    refine lv_aload_n hx hb dX12_chair_193 rfl (lv_at hl 6 rfl) ?_
                                    have k192 : M123 a0 30 = x112 := ((Fr.kp (k := 30) f120 hk_a0 rfl).trans (Fr.kp (k := 30) f118 hk_a0 rfl)).trans k113
                                    refine tw_goi hS (md_runV (As := []) (rest := []) hx hb hml hown hW hK hT hS.1 (t_X12_isAhead l D cy tx base Z K N M123 R108 J122 hS.2.1 a0 hz_a0 hk_a0 x112 k192 (iv_mono h_x112 (by decide) (by decide))) s_X12_475 ⟨rfl, rfl, ⟨Nat.le_of_ble_eq_true rfl, Nat.le_of_ble_eq_true rfl⟩, ⟨Nat.le_of_ble_eq_true rfl, Nat.le_of_ble_eq_true rfl⟩⟩ hz_a0 hk_a0 (by decide) rfl rfl hl.1 rfl (Nat.le_of_ble_eq_true rfl) dX12_chair_194) rfl rfl (fun x199 H locs M196 R197 J195 hS f193 g194 E198 => ?_)
                                    have eM196 := Fr.nil f193 rfl
                                    subst eM196
                                    have eR197 := Fr.nil g194 rfl
                                    subst eR197
                                    have h_x199 := E198
                                    clear E198
                                    refine lv_if_eq (tgt := 204) hx hb dX12_chair_197 (by decide) (fun c200 => ?_) (fun c200 => ?_)
                                    · have q201 : x199.toInt = 0 := ti_eq c200
                                      have h202 : iv 0 0 x199 := ⟨by have := (h_x199).1; have := ((iv_c (c := 0) (n := 0) (by decide))).1; omega, by have := (h_x199).2; have := ((iv_c (c := 0) (n := 0) (by decide))).2; omega⟩
                                      exact J204_180  M123 R108 J195 H locs _  hS hl
                                    · have q203 : ¬ x199.toInt = 0 := ti_ne c200
                                      have h204 : iv 1 1 x199 := ⟨by have := (h_x199).1; have := ((iv_c (c := 0) (n := 0) (by decide))).1; have := ((iv_c (c := 0) (n := 0) (by decide))).2; omega, by have := (h_x199).2; have := ((iv_c (c := 0) (n := 0) (by decide))).1; have := ((iv_c (c := 0) (n := 0) (by decide))).2; omega⟩
                                      exact J200_126  M123 R108 J195 H locs _  hS hl
                              · have q205 : ¬ a2.toInt = 0 := ti_ne c169
                                refine lv_aload_n hx hb dX12_chair_163 rfl (lv_at hl 6 rfl) ?_
                                refine tw_geti hx hb hW hown hK hS f_X12_410_11 hz_a0 hk_a0 (lo := (-2147483648)) (hi := 2147483647) rfl dX12_chair_164 (fun x208 k207 h206 => ?_)
                                refine lv_iload hx hb dX12_chair_167 (lv_at hl 2 rfl) ?_
                                refine lv_icmp_le (tgt := 184) hx hb dX12_chair_169 (by decide) (fun c209 => ?_) (fun c209 => ?_)
                                · have q210 : x208.toInt ≤ x61.toInt := ti_le c209
                                  refine lv_aload_n hx hb dX12_chair_184 rfl (lv_at hl 6 rfl) ?_
                                  refine tw_getk hx hb hW hown hK hS f_X12_410_11 hz_a0 hk_a0 (v := x208) k207 dX12_chair_185 ?_
                                  refine lv_iload hx hb dX12_chair_188 (lv_at hl 2 rfl) ?_
                                  have J204_211 : ∀  (M211 : MT) (R212 : RT) (J213 : JT) (H : Heap) (locs : List Loc) (ls : Array Slot) (hS : SB D cy base Z K N Lt_X12_chair LRt_X12_chair Ma Ra M211 R212 J213 s H locs) (hl : lv_has ls 11 [(9, .int x106), (6, .int x60), (7, .int x61), (8, .int x62), (5, .int x50), (4, .int x5), (0, .ref (base + a0)), (1, .int a1), (2, .int a2), (3, .int a3)]), W p l e (md_rm 6 0 0) s m args below meth c H locs 0 0 Q (F0 m 204 ls []) := by
                                    intro  M211 R212 J213 H locs ls  hS hl
                                    have f214 := hS.2.2.1
                                    have g215 := hS.2.2.2
                                    refine lv_iconst (v := 0) hx hb dX12_chair_204 (by decide) ?_
                                    refine lv_istore (lv' := [(9, .int 0), (6, .int x60), (7, .int x61), (8, .int x62), (5, .int x50), (4, .int x5), (0, .ref (base + a0)), (1, .int a1), (2, .int a2), (3, .int a3)]) hx hb dX12_chair_205 hl (by decide) rfl (fun ls hl => ?_)
                                    refine lv_iload hx hb dX12_chair_207 (lv_at hl 0 rfl) ?_
                                    refine lv_if_ne (tgt := 215) hx hb dX12_chair_209 (by decide) (fun h => absurd h (by decide)) (fun _ => ?_)
                                    refine lv_goto (tgt := 254) hx hb dX12_chair_212 (by decide) ?_
                                    refine tw_iinc (lv' := fun x218 => [(8, .int x218), (9, .int 0), (6, .int x60), (7, .int x61), (5, .int x50), (4, .int x5), (0, .ref (base + a0)), (1, .int a1), (2, .int a2), (3, .int a3)]) (lo := 1) (hi := 2147483647) hx hb dX12_chair_254 hl (k := 3) rfl h84 (by decide) ⟨by decide, by decide⟩ ⟨by decide, by decide⟩ (by decide) (fun _ => rfl) (fun x218 ls e217 h216 hl => ?_)
                                    refine lv_goto (tgt := 80) hx hb dX12_chair_257 (by decide) ?_
                                    have hm219 : 2147483647 - x218.toInt < (n_63 : Int) := by
                                      have := (h19).1; have := (h19).2; have := (h_a2).1; have := (h_a2).2; have := (h48).1; have := (h48).2; have := (h216).1; have := (h216).2; have := (h84).1; have := (h84).2; omega
                                    exact ih_63 x60 x61 x218 M211 R212 J213 H locs _ (iv_mono h168 (by decide) (by decide)) h_x61 (iv_mono h216 (by decide) (by decide)) hm219 hS (lv_sub hl [2, 3, 0, 4, 5, 6, 7, 8, 9] rfl)
                                  refine lv_icmp_ne (tgt := 204) hx hb dX12_chair_190 (by decide) (fun c220 => ?_) (fun c220 => ?_)
                                  · have q221 : ¬ x208.toInt = x61.toInt := ti_ne c220
                                    exact J204_211  M123 R108 J122 H locs _  hS hl
                                  · have q222 : x208.toInt = x61.toInt := ti_eq c220
                                    refine lv_aload_n hx hb dX12_chair_193 rfl (lv_at hl 6 rfl) ?_
                                    have k223 : M123 a0 30 = x112 := ((Fr.kp (k := 30) f120 hk_a0 rfl).trans (Fr.kp (k := 30) f118 hk_a0 rfl)).trans k113
                                    refine tw_goi hS (md_runV (As := []) (rest := []) hx hb hml hown hW hK hT hS.1 (t_X12_isAhead l D cy tx base Z K N M123 R108 J122 hS.2.1 a0 hz_a0 hk_a0 x112 k223 (iv_mono h_x112 (by decide) (by decide))) s_X12_475 ⟨rfl, rfl, ⟨Nat.le_of_ble_eq_true rfl, Nat.le_of_ble_eq_true rfl⟩, ⟨Nat.le_of_ble_eq_true rfl, Nat.le_of_ble_eq_true rfl⟩⟩ hz_a0 hk_a0 (by decide) rfl rfl hl.1 rfl (Nat.le_of_ble_eq_true rfl) dX12_chair_194) rfl rfl (fun x230 H locs M227 R228 J226 hS f224 g225 E229 => ?_)
                                    have eM227 := Fr.nil f224 rfl
                                    subst eM227
                                    have eR228 := Fr.nil g225 rfl
                                    subst eR228
                                    have h_x230 := E229
                                    clear E229
                                    refine lv_if_eq (tgt := 204) hx hb dX12_chair_197 (by decide) (fun c231 => ?_) (fun c231 => ?_)
                                    · have q232 : x230.toInt = 0 := ti_eq c231
                                      have h233 : iv 0 0 x230 := ⟨by have := (h_x230).1; have := ((iv_c (c := 0) (n := 0) (by decide))).1; omega, by have := (h_x230).2; have := ((iv_c (c := 0) (n := 0) (by decide))).2; omega⟩
                                      exact J204_211  M123 R108 J226 H locs _  hS hl
                                    · have q234 : ¬ x230.toInt = 0 := ti_ne c231
                                      have h235 : iv 1 1 x230 := ⟨by have := (h_x230).1; have := ((iv_c (c := 0) (n := 0) (by decide))).1; have := ((iv_c (c := 0) (n := 0) (by decide))).2; omega, by have := (h_x230).2; have := ((iv_c (c := 0) (n := 0) (by decide))).1; have := ((iv_c (c := 0) (n := 0) (by decide))).2; omega⟩
                                      exact J200_126  M123 R108 J226 H locs _  hS hl
                                · have q236 : x61.toInt < x208.toInt := ti_nle c209
                                  have h237 : iv (-2147483647) 2147483647 x208 := iv_gtL (y := x61) h206 h_x61 q236 (by decide)
                                  have h238 : iv (-2147483648) 2147483646 x61 := iv_ltL (y := x208) h_x61 h206 q236 (by decide)
                                  refine lv_goto (tgt := 200) hx hb dX12_chair_172 (by decide) ?_
                                  exact J200_126  M123 R108 J122 H locs _  hS hl
                          · have q239 : x106.toInt < x5.toInt := ti_nle c114
                            have h240 : iv 0 5 x106 := iv_ltL (y := x5) h_x106 h35 q239 (by decide)
                            refine lv_aload_n hx hb dX12_chair_115 rfl (lv_at hl 6 rfl) ?_
                            refine tw_getr hx hb hW hown hK hS f_X12_54_11 hz_a0 hk_a0 (t := 31) (n := 8) rfl dX12_chair_116 (fun b241 k242 hz_b241 hk_b241 hn_b241 => ?_)
                            have hn_b241 := hn_b241 (by decide)
                            refine lv_iload hx hb dX12_chair_119 (lv_at hl 0 rfl) ?_
                            refine lv_aload_n hx hb dX12_chair_121 rfl (lv_at hl 6 rfl) ?_
                            have k243 : R108 a0 25 = some b1 := (Fr.kp (k := 25) g111 hk_a0 rfl).trans k2
                            refine tw_getrk hx hb hW hown hK hS f_X12_45_11 hz_a0 hk_a0 (b := b1) k243 dX12_chair_122 ?_
                            refine lv_sipush (v := 170) hx hb dX12_chair_125 (by decide) ?_
                            refine lv_aload_n hx hb dX12_chair_128 rfl (lv_at hl 6 rfl) ?_
                            refine tw_getr hx hb hW hown hK hS f_X12_90_11 hz_a0 hk_a0 (t := 33) (n := 6) rfl dX12_chair_129 (fun b244 k245 hz_b244 hk_b244 hn_b244 => ?_)
                            have hn_b244 := hn_b244 (by decide)
                            refine lv_iload hx hb dX12_chair_132 (lv_at hl 0 rfl) ?_
                            refine tw_iald hx hb hK hS hz_b244 hk_b244 (Or.inr (by decide)) hn_b244 (lo := 0) (hi := 5) h240 ⟨by decide, by decide⟩ rg_u33 dX12_chair_134 (fun x248 k247 h246 => ?_)
                            refine tw_iadd (lo := 170) (hi := 175) hx hb (iv_c (c := 170) (n := 170) (by decide)) h246 ⟨by decide, by decide⟩ ⟨by decide, by decide⟩ dX12_chair_135 (fun x251 e250 h249 => ?_)
                            have e250 : x251.toInt = 170 + x248.toInt := e250
                            refine tw_iald hx hb hK hS hz_b1 hk_b1 (Or.inr (by decide)) hn_b1 (lo := 0) (hi := 11) h249 ⟨by decide, by decide⟩ (rg_so ⟨by decide, by decide⟩) dX12_chair_136 (fun x254 k253 h252 => ?_)
                            refine tw_iast hx hb hK hS hz_b241 hk_b241 (Or.inr (by decide)) hn_b241 h240 ⟨by decide, by decide⟩ h252 (rg_s31 ⟨by decide, by decide⟩) (jl := 0) (jh := 1999999) ⟨by decide, by decide⟩ rfl dX12_chair_137 (fun H locs M257 hS k255 f256 => ?_)
                            refine tw_iinc (lv' := fun x260 => [(9, .int x260), (6, .int x60), (7, .int x61), (8, .int x62), (5, .int x50), (4, .int x5), (0, .ref (base + a0)), (1, .int a1), (2, .int a2), (3, .int a3)]) (lo := 1) (hi := 6) hx hb dX12_chair_138 hl (k := 0) rfl h240 (by decide) ⟨by decide, by decide⟩ ⟨by decide, by decide⟩ (by decide) (fun _ => rfl) (fun x260 ls e259 h258 hl => ?_)
                            refine lv_goto (tgt := 108) hx hb dX12_chair_141 (by decide) ?_
                            have k261 : M257 a0 30 = x112 := (Fr.kp (k := 30) f256 hk_a0 rfl).trans k113
                            have hm262 : 6 - x260.toInt < (n_107 : Int) := by
                              have := (h19).1; have := (h19).2; have := (h_a2).1; have := (h_a2).2; have := (h48).1; have := (h48).2; have := (h240).1; have := (h240).2; have := (h258).1; have := (h258).2; omega
                            exact ih_107 x260 x112 M257 R108 J109 H locs _ (iv_mono h258 (by decide) (by decide)) h_x112 k261 hm262 hS hl
                      have hm263 : 6 - (0 : Int32).toInt < (((7 : Nat) : Int) : Int) := by
                        have := (h19).1; have := (h19).2; have := (h_a2).1; have := (h_a2).2; have := (h48).1; have := (h48).2; have : (0 : Int32).toInt = 0 := (by decide); omega
                      exact W108_107 7 0 x5 M101 R64 J100 H locs _ (iv_mono (iv_c (c := 0) (n := 0) (by decide)) (by decide) (by decide)) h35 k105 hm263 hS hl
                    · have q264 : x92.toInt = 0 := ti_eq c93
                      have h265 : iv 0 0 x92 := ⟨by have := (h_x92).1; have := ((iv_c (c := 0) (n := 0) (by decide))).1; omega, by have := (h_x92).2; have := ((iv_c (c := 0) (n := 0) (by decide))).2; omega⟩
                      refine lv_goto (tgt := 254) hx hb dX12_chair_98 (by decide) ?_
                      refine tw_iinc (lv' := fun x268 => [(8, .int x268), (6, .int x60), (7, .int x61), (5, .int x50), (4, .int x5), (0, .ref (base + a0)), (1, .int a1), (2, .int a2), (3, .int a3)]) (lo := 1) (hi := 2147483647) hx hb dX12_chair_254 hl (k := 2) rfl h84 (by decide) ⟨by decide, by decide⟩ ⟨by decide, by decide⟩ (by decide) (fun _ => rfl) (fun x268 ls e267 h266 hl => ?_)
                      refine lv_goto (tgt := 80) hx hb dX12_chair_257 (by decide) ?_
                      have hm269 : 2147483647 - x268.toInt < (n_63 : Int) := by
                        have := (h19).1; have := (h19).2; have := (h_a2).1; have := (h_a2).2; have := (h48).1; have := (h48).2; have := (h266).1; have := (h266).2; have := (h84).1; have := (h84).2; omega
                      exact ih_63 x60 x61 x268 M89 R64 J88 H locs _ h_x60 h_x61 (iv_mono h266 (by decide) (by decide)) hm269 hS (lv_sub hl [1, 2, 0, 3, 4, 5, 6, 7, 8] rfl)
              have hm270 : 2147483647 - (0 : Int32).toInt < (((2147483648 : Nat) : Int) : Int) := by
                have := (h19).1; have := (h19).2; have := (h_a2).1; have := (h_a2).2; have := (h48).1; have := (h48).2; have : (0 : Int32).toInt = 0 := (by decide); omega
              exact W80_63 2147483648 0 0 0 M52 R53 J54 H locs _ (iv_mono (iv_c (c := 0) (n := 0) (by decide)) (by decide) (by decide)) (iv_mono (iv_c (c := 0) (n := 0) (by decide)) (by decide) (by decide)) (iv_mono (iv_c (c := 0) (n := 0) (by decide)) (by decide) (by decide)) hm270 hS (lv_sub hl [2, 1, 0, 3, 4, 5, 6, 7, 8] rfl)
            · have q271 : x51.toInt < x5.toInt := ti_nle c57
              have h272 : iv 0 5 x51 := iv_ltL (y := x5) h_x51 h35 q271 (by decide)
              refine lv_iload hx hb dX12_chair_58 (lv_at hl 0 rfl) ?_
              refine lv_iload hx hb dX12_chair_60 (lv_at hl 2 rfl) ?_
              refine lv_imul hx hb dX12_chair_62 ?_
              refine tw_top (fun x274 => ?_)
              have h273 := iv_any x274
              refine lv_istore (lv' := [(5, .int x274), (6, .int x51), (4, .int x5), (0, .ref (base + a0)), (1, .int a1), (2, .int a2), (3, .int a3)]) hx hb dX12_chair_63 hl (by decide) rfl (fun ls hl => ?_)
              refine tw_iinc (lv' := fun x277 => [(6, .int x277), (5, .int x274), (4, .int x5), (0, .ref (base + a0)), (1, .int a1), (2, .int a2), (3, .int a3)]) (lo := 1) (hi := 6) hx hb dX12_chair_65 hl (k := 1) rfl h272 (by decide) ⟨by decide, by decide⟩ ⟨by decide, by decide⟩ (by decide) (fun _ => rfl) (fun x277 ls e276 h275 hl => ?_)
              refine lv_goto (tgt := 51) hx hb dX12_chair_68 (by decide) ?_
              have hm278 : 6 - x277.toInt < (n_52 : Int) := by
                have := (h19).1; have := (h19).2; have := (h_a2).1; have := (h_a2).2; have := (h48).1; have := (h48).2; have := (h275).1; have := (h275).2; have := (h272).1; have := (h272).2; omega
              exact ih_52 x274 x277 M52 R53 J54 H locs _ h273 (iv_mono h275 (by decide) (by decide)) hm278 hS (lv_sub hl [1, 0, 2, 3, 4, 5, 6] rfl)
        have hm279 : 6 - (0 : Int32).toInt < (((7 : Nat) : Int) : Int) := by
          have := (h19).1; have := (h19).2; have := (h_a2).1; have := (h_a2).2; have := (h48).1; have := (h48).2; have : (0 : Int32).toInt = 0 := (by decide); omega
        exact W51_52 7 1 0 Ma Ra J38 H locs _ (iv_mono (iv_c (c := 1) (n := 1) (by decide)) (by decide) (by decide)) (iv_mono (iv_c (c := 0) (n := 0) (by decide)) (by decide) (by decide)) hm279 hS (lv_sub hl [1, 0, 2, 3, 4, 5, 6] rfl)
      · have q280 : x42.toInt = 0 := ti_eq c45
        have q281 := p43.2 c45
        have h282 : iv 0 0 x42 := ⟨by have := (h_x42).1; have := ((iv_c (c := 0) (n := 0) (by decide))).1; omega, by have := (h_x42).2; have := ((iv_c (c := 0) (n := 0) (by decide))).2; omega⟩
        refine lv_ldcw hx hb hown (hW _ w_8_46 rfl) dX12_chair_41 ?_
        exact tw_endi hx hb hr hlocks hK hT hS hQ ((iv_mono (iv_c (c := (-1000000)) (n := (-1000000)) (by decide)) (by decide) (by decide))) dX12_chair_44
def Lt_X12_isDigitHere : WL := []
def LRt_X12_isDigitHere : WL := []
set_option maxRecDepth 100000 in
set_option maxHeartbeats 4000000 in
theorem t_X12_isDigitHere (l : Launch) (D : va_G) (cy : Nat → ClassId) (tx : (Nat → Nat) × (Nat → Nat)) (base Z : Nat) (K N : Nat → Nat) (Ma : MT) (Ra : RT) (Ja : JT) (hTy : Ty Z K N Ma Ra) (a0 : Nat) (hz_a0 : a0 < Z) (hk_a0 : K a0 = 12) : Met l yX12_isDigitHere [Cond.code yX12_isDigitHere cX12_isDigitHere 1 (some .boolean)] (md_rm 1 0 0) (va_Pc [.ref (base + a0)] (md_U D cy tx base Z K N Ma Ra Ja)) (mQi D cy tx base (fun r u => TP Z K N Lt_X12_isDigitHere LRt_X12_isDigitHere Ma Ra u ∧ (iv 0 1 r))) 0 0 (fun q => base ≤ q) := by
  refine tw_ofW (L := Lt_X12_isDigitHere) (LR := LRt_X12_isDigitHere) (by decide) (Nat.le_of_ble_eq_true rfl) hTy ?_
  intro p e s m args below meth c Q ls hx hb hr hlocks hown hml hW hK hT hS hQ hl
  have hl : lv_has ls 1 [(0, .ref (base + a0))] := hl
  refine lv_aload_n hx hb dX12_isDigitHere_0 rfl (lv_at hl 0 rfl) ?_
  refine tw_geti hx hb hW hown hK hS f_X12_127_11 hz_a0 hk_a0 (lo := 0) (hi := 400) rfl dX12_isDigitHere_1 (fun x3 k2 h1 => ?_)
  refine lv_aload_n hx hb dX12_isDigitHere_4 rfl (lv_at hl 0 rfl) ?_
  refine tw_geti hx hb hW hown hK hS f_X12_116_11 hz_a0 hk_a0 (lo := 0) (hi := 400) rfl dX12_isDigitHere_5 (fun x6 k5 h4 => ?_)
  refine lv_icmp_ge (tgt := 43) hx hb dX12_isDigitHere_8 (by decide) (fun c7 => ?_) (fun c7 => ?_)
  · have q8 : x6.toInt ≤ x3.toInt := ti_le c7
    refine lv_iconst (v := 0) hx hb dX12_isDigitHere_43 (by decide) ?_
    exact tw_endz hx hb hr hlocks hK hT hS hQ rfl ((iv_mono (iv_c (c := 0) (n := 0) (by decide)) (by decide) (by decide))) dX12_isDigitHere_44
  · have q9 : x3.toInt < x6.toInt := ti_nle c7
    have h10 : iv 0 399 x3 := iv_ltL (y := x6) h1 h4 q9 (by decide)
    have h11 : iv 1 400 x6 := iv_gtL (y := x3) h4 h1 q9 (by decide)
    refine lv_aload_n hx hb dX12_isDigitHere_11 rfl (lv_at hl 0 rfl) ?_
    refine tw_getr hx hb hW hown hK hS f_X12_7_11 hz_a0 hk_a0 (t := 13) (n := 400) rfl dX12_isDigitHere_12 (fun b12 k13 hz_b12 hk_b12 hn_b12 => ?_)
    have hn_b12 := hn_b12 (by decide)
    refine lv_aload_n hx hb dX12_isDigitHere_15 rfl (lv_at hl 0 rfl) ?_
    refine tw_getk hx hb hW hown hK hS f_X12_127_11 hz_a0 hk_a0 (v := x3) k2 dX12_isDigitHere_16 ?_
    refine tw_bald hx hb hK hS hz_b12 hk_b12 hn_b12 h10 ⟨by decide, by decide⟩ dX12_isDigitHere_19 (fun x16 k15 => ?_)
    have h14 := iv_any x16
    refine lv_bipush (v := 48) hx hb dX12_isDigitHere_20 (by decide) ?_
    refine lv_icmp_lt (tgt := 43) hx hb dX12_isDigitHere_22 (by decide) (fun c17 => ?_) (fun c17 => ?_)
    · have q18 : x16.toInt < 48 := ti_lt c17
      have h19 : iv (-2147483648) 47 x16 := iv_ltL (y := 48) h14 (iv_c (c := 48) (n := 48) (by decide)) q18 (by decide)
      refine lv_iconst (v := 0) hx hb dX12_isDigitHere_43 (by decide) ?_
      exact tw_endz hx hb hr hlocks hK hT hS hQ rfl ((iv_mono (iv_c (c := 0) (n := 0) (by decide)) (by decide) (by decide))) dX12_isDigitHere_44
    · have q20 : 48 ≤ x16.toInt := ti_nlt c17
      have h21 : iv 48 2147483647 x16 := iv_geL (y := 48) h14 (iv_c (c := 48) (n := 48) (by decide)) q20 (by decide)
      refine lv_aload_n hx hb dX12_isDigitHere_25 rfl (lv_at hl 0 rfl) ?_
      refine tw_getrk hx hb hW hown hK hS f_X12_7_11 hz_a0 hk_a0 (b := b12) k13 dX12_isDigitHere_26 ?_
      refine lv_aload_n hx hb dX12_isDigitHere_29 rfl (lv_at hl 0 rfl) ?_
      refine tw_getk hx hb hW hown hK hS f_X12_127_11 hz_a0 hk_a0 (v := x3) k2 dX12_isDigitHere_30 ?_
      refine tw_balk hx hb hK hS hz_b12 hk_b12 hn_b12 h10 ⟨by decide, by decide⟩ (v := x16) k15 dX12_isDigitHere_33 ?_
      refine lv_bipush (v := 57) hx hb dX12_isDigitHere_34 (by decide) ?_
      refine lv_icmp_gt (tgt := 43) hx hb dX12_isDigitHere_36 (by decide) (fun c22 => ?_) (fun c22 => ?_)
      · have q23 : 57 < x16.toInt := ti_lt c22
        have h24 : iv 58 2147483647 x16 := iv_gtL (y := 57) h21 (iv_c (c := 57) (n := 57) (by decide)) q23 (by decide)
        refine lv_iconst (v := 0) hx hb dX12_isDigitHere_43 (by decide) ?_
        exact tw_endz hx hb hr hlocks hK hT hS hQ rfl ((iv_mono (iv_c (c := 0) (n := 0) (by decide)) (by decide) (by decide))) dX12_isDigitHere_44
      · have q25 : x16.toInt ≤ 57 := ti_nlt c22
        have h26 : iv 48 57 x16 := iv_leL (y := 57) h21 (iv_c (c := 57) (n := 57) (by decide)) q25 (by decide)
        refine lv_iconst (v := 1) hx hb dX12_isDigitHere_39 (by decide) ?_
        refine lv_goto (tgt := 44) hx hb dX12_isDigitHere_40 (by decide) ?_
        exact tw_endz hx hb hr hlocks hK hT hS hQ rfl ((iv_mono (iv_c (c := 1) (n := 1) (by decide)) (by decide) (by decide))) dX12_isDigitHere_44
def Lt_X12_day : WL := [(12, 23, 24), (12, 28, 29), (12, 30, 33), (12, 35, 37), (14, 0, 2000000), (23, 3, 4), (23, 10, 20), (23, 30, 50), (30, 0, 2000000), (31, 0, 2000000)]
def LRt_X12_day : WL := []
set_option maxRecDepth 100000 in
set_option maxHeartbeats 4000000 in
theorem t_X12_day (l : Launch) (D : va_G) (cy : Nat → ClassId) (tx : (Nat → Nat) × (Nat → Nat)) (base Z : Nat) (K N : Nat → Nat) (Ma : MT) (Ra : RT) (Ja : JT) (hTy : Ty Z K N Ma Ra) (a0 : Nat) (hz_a0 : a0 < Z) (hk_a0 : K a0 = 12) (co_a0 : Codes Ma Ra a0) : Met l yX12_day [Cond.code yX12_day cX12_day 1 (some .int)] (md_rm 6 0 0) (va_Pc [.ref (base + a0)] (md_U D cy tx base Z K N Ma Ra Ja)) (mQi D cy tx base (fun r u => TP Z K N Lt_X12_day LRt_X12_day Ma Ra u ∧ (iv (-2147483648) 2147483647 r))) 0 0 (fun q => base ≤ q) := by
  refine tw_ofW (L := Lt_X12_day) (LR := LRt_X12_day) (by decide) (Nat.le_of_ble_eq_true rfl) hTy ?_
  intro p e s m args below meth c Q ls hx hb hr hlocks hown hml hW hK hT hS hQ hl
  have hl : lv_has ls 1 [(0, .ref (base + a0))] := hl
  refine lv_aload_n hx hb dX12_day_0 rfl (lv_at hl 0 rfl) ?_
  refine tw_getr hx hb hW hown hK hS f_X12_45_11 hz_a0 hk_a0 (t := 23) (n := 226) rfl dX12_day_1 (fun b1 k2 hz_b1 hk_b1 hn_b1 => ?_)
  have hn_b1 := hn_b1 (by decide)
  refine lv_iconst (v := 0) hx hb dX12_day_4 (by decide) ?_
  refine tw_iald hx hb hK hS hz_b1 hk_b1 (Or.inr (by decide)) hn_b1 (lo := 0) (hi := 10) (iv_c (c := 0) (n := 0) (by decide)) ⟨by decide, by decide⟩ (rg_c (k0 := 0) rfl rfl rfl) dX12_day_5 (fun x5 k4 h3 => ?_)
  refine lv_if_ne (tgt := 15) hx hb dX12_day_6 (by decide) (fun c6 => ?_) (fun c6 => ?_)
  · have q7 : ¬ x5.toInt = 0 := ti_ne c6
    have h8 : iv 1 10 x5 := ⟨by have := (h3).1; have := ((iv_c (c := 0) (n := 0) (by decide))).1; have := ((iv_c (c := 0) (n := 0) (by decide))).2; omega, by have := (h3).2; have := ((iv_c (c := 0) (n := 0) (by decide))).1; have := ((iv_c (c := 0) (n := 0) (by decide))).2; omega⟩
    refine lv_aload_n hx hb dX12_day_15 rfl (lv_at hl 0 rfl) ?_
    obtain ⟨x11, k9⟩ : ∃ x, Ma b1 (4 : Int32).toNatClampNeg = x := ⟨_, rfl⟩
    have h10 : iv 0 8 x11 := by rw [← k9]; exact hS.2.1.int hz_b1 hk_b1 (show rgI 23 (4 : Int32).toNatClampNeg = (0, 8) from rfl)
    refine tw_gov hS (md_runV (As := []) (rest := []) hx hb hml hown hW hK hT hS.1 (t_X12_begins l D cy tx base Z K N Ma Ra Ja hS.2.1 a0 hz_a0 hk_a0 b1 k2 x11 k9 (iv_mono h10 (by decide) (by decide))) s_X12_393 ⟨rfl, rfl, ⟨Nat.le_of_ble_eq_true rfl, Nat.le_of_ble_eq_true rfl⟩, ⟨Nat.le_of_ble_eq_true rfl, Nat.le_of_ble_eq_true rfl⟩⟩ hz_a0 hk_a0 (by decide) rfl rfl hl.1 rfl (Nat.le_of_ble_eq_true rfl) dX12_day_16) rfl rfl (fun H locs M15 R16 J14 hS f12 g13 E17 => ?_)
    have eR16 := Fr.nil g13 rfl
    subst eR16
    have p18 := E17
    clear E17
    have k19 : M15 a0 30 = x11 := p18
    refine lv_aload_n hx hb dX12_day_19 rfl (lv_at hl 0 rfl) ?_
    refine lv_iconst (v := 0) hx hb dX12_day_20 (by decide) ?_
    refine tw_puti hx hb hW hown hK hS f_X12_407_11 hz_a0 hk_a0 rfl rfl (lo := (-2147483648)) (hi := 2147483647) rfl (iv_mono (iv_c (c := 0) (n := 0) (by decide)) (by decide) (by decide)) rfl dX12_day_21 (fun H locs M22 hS k20 f21 => ?_)
    refine lv_aload_n hx hb dX12_day_24 rfl (lv_at hl 0 rfl) ?_
    refine lv_iconst (v := 0) hx hb dX12_day_25 (by decide) ?_
    refine tw_gov hS (md_runV (As := [.int 0]) (rest := []) hx hb hml hown hW hK hT hS.1 (t_X12_passes l D cy tx base Z K N M22 Ra J14 hS.2.1 a0 hz_a0 hk_a0 0 (iv_mono (iv_c (c := 0) (n := 0) (by decide)) (by decide) (by decide)) (Codes.fr co_a0 hTy hz_a0 hk_a0 hS.2.2.1 hS.2.2.2 rfl)) s_X12_417 ⟨rfl, rfl, ⟨Nat.le_of_ble_eq_true rfl, Nat.le_of_ble_eq_true rfl⟩, ⟨Nat.le_of_ble_eq_true rfl, Nat.le_of_ble_eq_true rfl⟩⟩ hz_a0 hk_a0 (by decide) rfl rfl hl.1 rfl (Nat.le_of_ble_eq_true rfl) dX12_day_26) rfl rfl (fun H locs M26 R27 J25 hS f23 g24 E28 => ?_)
    have eR27 := Fr.nil g24 rfl
    subst eR27
    refine lv_aload_n hx hb dX12_day_29 rfl (lv_at hl 0 rfl) ?_
    refine tw_gov hS (md_runV (As := []) (rest := []) hx hb hml hown hW hK hT hS.1 (t_X12_stays l D cy tx base Z K N M26 Ra J25 hS.2.1 a0 hz_a0 hk_a0) s_X12_401 ⟨rfl, rfl, ⟨Nat.le_of_ble_eq_true rfl, Nat.le_of_ble_eq_true rfl⟩, ⟨Nat.le_of_ble_eq_true rfl, Nat.le_of_ble_eq_true rfl⟩⟩ hz_a0 hk_a0 (by decide) rfl rfl hl.1 rfl (Nat.le_of_ble_eq_true rfl) dX12_day_30) rfl rfl (fun H locs M32 R33 J31 hS f29 g30 E34 => ?_)
    have eR33 := Fr.nil g30 rfl
    subst eR33
    refine lv_aload_n hx hb dX12_day_33 rfl (lv_at hl 0 rfl) ?_
    refine tw_geti hx hb hW hown hK hS f_X12_407_11 hz_a0 hk_a0 (lo := (-2147483648)) (hi := 2147483647) rfl dX12_day_34 (fun x37 k36 h35 => ?_)
    exact tw_endi hx hb hr hlocks hK hT hS hQ (h35) dX12_day_37
  · have q38 : x5.toInt = 0 := ti_eq c6
    have h39 : iv 0 0 x5 := ⟨by have := (h3).1; have := ((iv_c (c := 0) (n := 0) (by decide))).1; omega, by have := (h3).2; have := ((iv_c (c := 0) (n := 0) (by decide))).2; omega⟩
    refine lv_aload_n hx hb dX12_day_9 rfl (lv_at hl 0 rfl) ?_
    refine lv_iconst (v := 0) hx hb dX12_day_10 (by decide) ?_
    refine tw_goi hS (md_runV (As := [.int 0]) (rest := []) hx hb hml hown hW hK hT hS.1 (t_X12_refuses l D cy tx base Z K N Ma Ra Ja hS.2.1 a0 hz_a0 hk_a0 0 (iv_mono (iv_c (c := 0) (n := 0) (by decide)) (by decide) (by decide))) s_X12_338 ⟨rfl, rfl, ⟨Nat.le_of_ble_eq_true rfl, Nat.le_of_ble_eq_true rfl⟩, ⟨Nat.le_of_ble_eq_true rfl, Nat.le_of_ble_eq_true rfl⟩⟩ hz_a0 hk_a0 (by decide) rfl rfl hl.1 rfl (Nat.le_of_ble_eq_true rfl) dX12_day_11) rfl rfl (fun x46 H locs M43 R44 J42 hS f40 g41 E45 => ?_)
    have eR44 := Fr.nil g41 rfl
    subst eR44
    have h_x46 := E45
    clear E45
    exact tw_endi hx hb hr hlocks hK hT hS hQ ((iv_mono h_x46 (by decide) (by decide))) dX12_day_14
def Lt_X12_end : WL := [(12, 1, 2)]
def LRt_X12_end : WL := []
set_option maxRecDepth 100000 in
set_option maxHeartbeats 4000000 in
theorem t_X12_end (l : Launch) (D : va_G) (cy : Nat → ClassId) (tx : (Nat → Nat) × (Nat → Nat)) (base Z : Nat) (K N : Nat → Nat) (Ma : MT) (Ra : RT) (Ja : JT) (hTy : Ty Z K N Ma Ra) (a0 : Nat) (hz_a0 : a0 < Z) (hk_a0 : K a0 = 12) (a1 : Int32) (h_a1 : iv (-2147483648) 2147483647 a1) : Met l yX12_end [Cond.code yX12_end cX12_end 2 (some .int)] (md_rm 1 0 0) (va_Pc [.ref (base + a0), .int a1] (md_U D cy tx base Z K N Ma Ra Ja)) (mQi D cy tx base (fun r u => TP Z K N Lt_X12_end LRt_X12_end Ma Ra u ∧ (iv (-1) 400 r))) 0 0 (fun q => base ≤ q) := by
  refine tw_ofW (L := Lt_X12_end) (LR := LRt_X12_end) (by decide) (Nat.le_of_ble_eq_true rfl) hTy ?_
  intro p e s m args below meth c Q ls hx hb hr hlocks hown hml hW hK hT hS hQ hl
  have hl : lv_has ls 2 [(0, .ref (base + a0)), (1, .int a1)] := hl
  refine lv_iload_n hx hb dX12_end_0 rfl (lv_at hl 1 rfl) ?_
  refine lv_if_lt (tgt := 12) hx hb dX12_end_1 (by decide) (fun c1 => ?_) (fun c1 => ?_)
  · have q2 : a1.toInt < 0 := ti_lt c1
    have h3 : iv (-2147483648) (-1) a1 := iv_ltL (y := 0) h_a1 (iv_c (c := 0) (n := 0) (by decide)) q2 (by decide)
    refine lv_iconst (v := (-1)) hx hb dX12_end_12 (by decide) ?_
    exact tw_endi hx hb hr hlocks hK hT hS hQ ((iv_mono (iv_c (c := (-1)) (n := (-1)) (by decide)) (by decide) (by decide))) dX12_end_13
  · have q4 : 0 ≤ a1.toInt := ti_nlt c1
    have h5 : iv 0 2147483647 a1 := iv_geL (y := 0) h_a1 (iv_c (c := 0) (n := 0) (by decide)) q4 (by decide)
    refine lv_iload_n hx hb dX12_end_4 rfl (lv_at hl 1 rfl) ?_
    refine lv_aload_n hx hb dX12_end_5 rfl (lv_at hl 0 rfl) ?_
    refine tw_geti hx hb hW hown hK hS f_X12_116_11 hz_a0 hk_a0 (lo := 0) (hi := 400) rfl dX12_end_6 (fun x8 k7 h6 => ?_)
    refine lv_icmp_le (tgt := 14) hx hb dX12_end_9 (by decide) (fun c9 => ?_) (fun c9 => ?_)
    · have q10 : a1.toInt ≤ x8.toInt := ti_le c9
      have h11 : iv 0 400 a1 := iv_leL (y := x8) h5 h6 q10 (by decide)
      refine lv_aload_n hx hb dX12_end_14 rfl (lv_at hl 0 rfl) ?_
      refine lv_iload_n hx hb dX12_end_15 rfl (lv_at hl 1 rfl) ?_
      refine tw_puti hx hb hW hown hK hS f_X12_116_11 hz_a0 hk_a0 rfl rfl (lo := 0) (hi := 400) rfl h11 rfl dX12_end_16 (fun H locs M14 hS k12 f13 => ?_)
      refine lv_iload_n hx hb dX12_end_19 rfl (lv_at hl 1 rfl) ?_
      exact tw_endi hx hb hr hlocks hK hT hS hQ ((iv_mono h11 (by decide) (by decide))) dX12_end_20
    · have q15 : x8.toInt < a1.toInt := ti_nle c9
      have h16 : iv 1 2147483647 a1 := iv_gtL (y := x8) h5 h6 q15 (by decide)
      refine lv_iconst (v := (-1)) hx hb dX12_end_12 (by decide) ?_
      exact tw_endi hx hb hr hlocks hK hT hS hQ ((iv_mono (iv_c (c := (-1)) (n := (-1)) (by decide)) (by decide) (by decide))) dX12_end_13
def Lt_X12_entry : WL := [(14, 0, 2000000), (23, 5, 6), (23, 178, 226)]
def LRt_X12_entry : WL := []
set_option maxRecDepth 100000 in
set_option maxHeartbeats 4000000 in
theorem t_X12_entry (l : Launch) (D : va_G) (cy : Nat → ClassId) (tx : (Nat → Nat) × (Nat → Nat)) (base Z : Nat) (K N : Nat → Nat) (Ma : MT) (Ra : RT) (Ja : JT) (hTy : Ty Z K N Ma Ra) (a0 : Nat) (hz_a0 : a0 < Z) (hk_a0 : K a0 = 12) (a1 : Int32) (h_a1 : iv (-2147483648) 2147483647 a1) (a2 : Int32) (h_a2 : iv (-2147483648) 2147483647 a2) (a3 : Int32) (h_a3 : iv (-2147483648) 2147483647 a3) (a4 : Int32) (h_a4 : iv (-2147483648) 2147483647 a4) : Met l yX12_entry [Cond.code yX12_entry cX12_entry 6 (some .int)] (md_rm 2 0 0) (va_Pc [.ref (base + a0), .int a1, .int a2, .int a3, .int a4] (md_U D cy tx base Z K N Ma Ra Ja)) (mQi D cy tx base (fun r u => TP Z K N Lt_X12_entry LRt_X12_entry Ma Ra u ∧ (iv (-2) 12 r))) 0 0 (fun q => base ≤ q) := by
  refine tw_ofW (L := Lt_X12_entry) (LR := LRt_X12_entry) (by decide) (Nat.le_of_ble_eq_true rfl) hTy ?_
  intro p e s m args below meth c Q ls hx hb hr hlocks hown hml hW hK hT hS hQ hl
  have hl : lv_has ls 6 [(0, .ref (base + a0)), (1, .int a1), (2, .int a2), (3, .int a3), (4, .int a4)] := hl
  refine lv_iload_n hx hb dX12_entry_0 rfl (lv_at hl 1 rfl) ?_
  refine lv_iconst (v := (-1)) hx hb dX12_entry_1 (by decide) ?_
  refine lv_icmp_ne (tgt := 14) hx hb dX12_entry_2 (by decide) (fun c1 => ?_) (fun c1 => ?_)
  · have q2 : ¬ a1.toInt = (-1) := ti_ne c1
    refine lv_aload_n hx hb dX12_entry_14 rfl (lv_at hl 0 rfl) ?_
    refine tw_getr hx hb hW hown hK hS f_X12_45_11 hz_a0 hk_a0 (t := 23) (n := 226) rfl dX12_entry_15 (fun b3 k4 hz_b3 hk_b3 hn_b3 => ?_)
    have hn_b3 := hn_b3 (by decide)
    refine lv_iconst (v := 0) hx hb dX12_entry_18 (by decide) ?_
    refine tw_iald hx hb hK hS hz_b3 hk_b3 (Or.inr (by decide)) hn_b3 (lo := 0) (hi := 10) (iv_c (c := 0) (n := 0) (by decide)) ⟨by decide, by decide⟩ (rg_c (k0 := 0) rfl rfl rfl) dX12_entry_19 (fun x7 k6 h5 => ?_)
    refine lv_if_eq (tgt := 70) hx hb dX12_entry_20 (by decide) (fun c8 => ?_) (fun c8 => ?_)
    · have q9 : x7.toInt = 0 := ti_eq c8
      have h10 : iv 0 0 x7 := ⟨by have := (h5).1; have := ((iv_c (c := 0) (n := 0) (by decide))).1; omega, by have := (h5).2; have := ((iv_c (c := 0) (n := 0) (by decide))).2; omega⟩
      refine lv_aload_n hx hb dX12_entry_70 rfl (lv_at hl 0 rfl) ?_
      refine lv_iconst (v := 0) hx hb dX12_entry_71 (by decide) ?_
      refine tw_goi hS (md_runV (As := [.int 0]) (rest := []) hx hb hml hown hW hK hT hS.1 (t_X12_refuses l D cy tx base Z K N Ma Ra Ja hS.2.1 a0 hz_a0 hk_a0 0 (iv_mono (iv_c (c := 0) (n := 0) (by decide)) (by decide) (by decide))) s_X12_338 ⟨rfl, rfl, ⟨Nat.le_of_ble_eq_true rfl, Nat.le_of_ble_eq_true rfl⟩, ⟨Nat.le_of_ble_eq_true rfl, Nat.le_of_ble_eq_true rfl⟩⟩ hz_a0 hk_a0 (by decide) rfl rfl hl.1 rfl (Nat.le_of_ble_eq_true rfl) dX12_entry_72) rfl rfl (fun x17 H locs M14 R15 J13 hS f11 g12 E16 => ?_)
      have eR15 := Fr.nil g12 rfl
      subst eR15
      have h_x17 := E16
      clear E16
      exact tw_endi hx hb hr hlocks hK hT hS hQ ((iv_mono h_x17 (by decide) (by decide))) dX12_entry_75
    · have q18 : ¬ x7.toInt = 0 := ti_ne c8
      have h19 : iv 1 10 x7 := ⟨by have := (h5).1; have := ((iv_c (c := 0) (n := 0) (by decide))).1; have := ((iv_c (c := 0) (n := 0) (by decide))).2; omega, by have := (h5).2; have := ((iv_c (c := 0) (n := 0) (by decide))).1; have := ((iv_c (c := 0) (n := 0) (by decide))).2; omega⟩
      refine lv_aload_n hx hb dX12_entry_23 rfl (lv_at hl 0 rfl) ?_
      refine lv_iload_n hx hb dX12_entry_24 rfl (lv_at hl 1 rfl) ?_
      refine tw_goi hS (md_runV (As := [.int a1]) (rest := []) hx hb hml hown hW hK hT hS.1 (t_X12_isSet l D cy tx base Z K N Ma Ra Ja hS.2.1 a0 hz_a0 hk_a0 a1 h_a1) s_X12_404 ⟨rfl, rfl, ⟨Nat.le_of_ble_eq_true rfl, Nat.le_of_ble_eq_true rfl⟩, ⟨Nat.le_of_ble_eq_true rfl, Nat.le_of_ble_eq_true rfl⟩⟩ hz_a0 hk_a0 (by decide) rfl rfl hl.1 rfl (Nat.le_of_ble_eq_true rfl) dX12_entry_25) rfl rfl (fun x26 H locs M23 R24 J22 hS f20 g21 E25 => ?_)
      have eM23 := Fr.nil f20 rfl
      subst eM23
      have eR24 := Fr.nil g21 rfl
      subst eR24
      have h_x26 := E25
      clear E25
      refine lv_if_eq (tgt := 70) hx hb dX12_entry_28 (by decide) (fun c27 => ?_) (fun c27 => ?_)
      · have q28 : x26.toInt = 0 := ti_eq c27
        have h29 : iv 0 0 x26 := ⟨by have := (h_x26).1; have := ((iv_c (c := 0) (n := 0) (by decide))).1; omega, by have := (h_x26).2; have := ((iv_c (c := 0) (n := 0) (by decide))).2; omega⟩
        refine lv_aload_n hx hb dX12_entry_70 rfl (lv_at hl 0 rfl) ?_
        refine lv_iconst (v := 0) hx hb dX12_entry_71 (by decide) ?_
        refine tw_goi hS (md_runV (As := [.int 0]) (rest := []) hx hb hml hown hW hK hT hS.1 (t_X12_refuses l D cy tx base Z K N Ma Ra J22 hS.2.1 a0 hz_a0 hk_a0 0 (iv_mono (iv_c (c := 0) (n := 0) (by decide)) (by decide) (by decide))) s_X12_338 ⟨rfl, rfl, ⟨Nat.le_of_ble_eq_true rfl, Nat.le_of_ble_eq_true rfl⟩, ⟨Nat.le_of_ble_eq_true rfl, Nat.le_of_ble_eq_true rfl⟩⟩ hz_a0 hk_a0 (by decide) rfl rfl hl.1 rfl (Nat.le_of_ble_eq_true rfl) dX12_entry_72) rfl rfl (fun x36 H locs M33 R34 J32 hS f30 g31 E35 => ?_)
        have eR34 := Fr.nil g31 rfl
        subst eR34
        have h_x36 := E35
        clear E35
        exact tw_endi hx hb hr hlocks hK hT hS hQ ((iv_mono h_x36 (by decide) (by decide))) dX12_entry_75
      · have q37 : ¬ x26.toInt = 0 := ti_ne c27
        have h38 : iv 1 1 x26 := ⟨by have := (h_x26).1; have := ((iv_c (c := 0) (n := 0) (by decide))).1; have := ((iv_c (c := 0) (n := 0) (by decide))).2; omega, by have := (h_x26).2; have := ((iv_c (c := 0) (n := 0) (by decide))).1; have := ((iv_c (c := 0) (n := 0) (by decide))).2; omega⟩
        refine lv_aload_n hx hb dX12_entry_31 rfl (lv_at hl 0 rfl) ?_
        refine lv_iload_n hx hb dX12_entry_32 rfl (lv_at hl 2 rfl) ?_
        refine tw_goi hS (md_runV (As := [.int a2]) (rest := []) hx hb hml hown hW hK hT hS.1 (t_X12_isSet l D cy tx base Z K N Ma Ra J22 hS.2.1 a0 hz_a0 hk_a0 a2 h_a2) s_X12_404 ⟨rfl, rfl, ⟨Nat.le_of_ble_eq_true rfl, Nat.le_of_ble_eq_true rfl⟩, ⟨Nat.le_of_ble_eq_true rfl, Nat.le_of_ble_eq_true rfl⟩⟩ hz_a0 hk_a0 (by decide) rfl rfl hl.1 rfl (Nat.le_of_ble_eq_true rfl) dX12_entry_33) rfl rfl (fun x45 H locs M42 R43 J41 hS f39 g40 E44 => ?_)
        have eM42 := Fr.nil f39 rfl
        subst eM42
        have eR43 := Fr.nil g40 rfl
        subst eR43
        have h_x45 := E44
        clear E44
        refine lv_if_eq (tgt := 70) hx hb dX12_entry_36 (by decide) (fun c46 => ?_) (fun c46 => ?_)
        · have q47 : x45.toInt = 0 := ti_eq c46
          have h48 : iv 0 0 x45 := ⟨by have := (h_x45).1; have := ((iv_c (c := 0) (n := 0) (by decide))).1; omega, by have := (h_x45).2; have := ((iv_c (c := 0) (n := 0) (by decide))).2; omega⟩
          refine lv_aload_n hx hb dX12_entry_70 rfl (lv_at hl 0 rfl) ?_
          refine lv_iconst (v := 0) hx hb dX12_entry_71 (by decide) ?_
          refine tw_goi hS (md_runV (As := [.int 0]) (rest := []) hx hb hml hown hW hK hT hS.1 (t_X12_refuses l D cy tx base Z K N Ma Ra J41 hS.2.1 a0 hz_a0 hk_a0 0 (iv_mono (iv_c (c := 0) (n := 0) (by decide)) (by decide) (by decide))) s_X12_338 ⟨rfl, rfl, ⟨Nat.le_of_ble_eq_true rfl, Nat.le_of_ble_eq_true rfl⟩, ⟨Nat.le_of_ble_eq_true rfl, Nat.le_of_ble_eq_true rfl⟩⟩ hz_a0 hk_a0 (by decide) rfl rfl hl.1 rfl (Nat.le_of_ble_eq_true rfl) dX12_entry_72) rfl rfl (fun x55 H locs M52 R53 J51 hS f49 g50 E54 => ?_)
          have eR53 := Fr.nil g50 rfl
          subst eR53
          have h_x55 := E54
          clear E54
          exact tw_endi hx hb hr hlocks hK hT hS hQ ((iv_mono h_x55 (by decide) (by decide))) dX12_entry_75
        · have q56 : ¬ x45.toInt = 0 := ti_ne c46
          have h57 : iv 1 1 x45 := ⟨by have := (h_x45).1; have := ((iv_c (c := 0) (n := 0) (by decide))).1; have := ((iv_c (c := 0) (n := 0) (by decide))).2; omega, by have := (h_x45).2; have := ((iv_c (c := 0) (n := 0) (by decide))).1; have := ((iv_c (c := 0) (n := 0) (by decide))).2; omega⟩
          refine lv_iload_n hx hb dX12_entry_39 rfl (lv_at hl 1 rfl) ?_
          refine lv_iload_n hx hb dX12_entry_40 rfl (lv_at hl 2 rfl) ?_
          refine lv_iand hx hb dX12_entry_41 ?_
          refine tw_top (fun x59 => ?_)
          have h58 := iv_any x59
          refine lv_if_ne (tgt := 70) hx hb dX12_entry_42 (by decide) (fun c60 => ?_) (fun c60 => ?_)
          · have q61 : ¬ x59.toInt = 0 := ti_ne c60
            refine lv_aload_n hx hb dX12_entry_70 rfl (lv_at hl 0 rfl) ?_
            refine lv_iconst (v := 0) hx hb dX12_entry_71 (by decide) ?_
            refine tw_goi hS (md_runV (As := [.int 0]) (rest := []) hx hb hml hown hW hK hT hS.1 (t_X12_refuses l D cy tx base Z K N Ma Ra J41 hS.2.1 a0 hz_a0 hk_a0 0 (iv_mono (iv_c (c := 0) (n := 0) (by decide)) (by decide) (by decide))) s_X12_338 ⟨rfl, rfl, ⟨Nat.le_of_ble_eq_true rfl, Nat.le_of_ble_eq_true rfl⟩, ⟨Nat.le_of_ble_eq_true rfl, Nat.le_of_ble_eq_true rfl⟩⟩ hz_a0 hk_a0 (by decide) rfl rfl hl.1 rfl (Nat.le_of_ble_eq_true rfl) dX12_entry_72) rfl rfl (fun x68 H locs M65 R66 J64 hS f62 g63 E67 => ?_)
            have eR66 := Fr.nil g63 rfl
            subst eR66
            have h_x68 := E67
            clear E67
            exact tw_endi hx hb hr hlocks hK hT hS hQ ((iv_mono h_x68 (by decide) (by decide))) dX12_entry_75
          · have q69 : x59.toInt = 0 := ti_eq c60
            have h70 : iv 0 0 x59 := ⟨by have := (h58).1; have := ((iv_c (c := 0) (n := 0) (by decide))).1; omega, by have := (h58).2; have := ((iv_c (c := 0) (n := 0) (by decide))).2; omega⟩
            refine lv_iload_n hx hb dX12_entry_45 rfl (lv_at hl 3 rfl) ?_
            refine lv_i2l hx hb dX12_entry_46 rfl ?_
            refine lv_lconst (v := 0) hx hb dX12_entry_47 (by decide) ?_
            refine lv_ldc2 hx hb hown (hW _ w_8_145 rfl) dX12_entry_48 ?_
            refine tw_goi hS (md_runS (As := [.long a3.toInt64, .long 0, .long 99999]) (rest := []) hx hb hml hown hW hK hT hS.1 (t_X12_in l D cy tx base Z K N Ma Ra J41 hS.2.1 (a3.toInt64) (0) (99999)) s_X12_155 ⟨rfl, rfl, ⟨Nat.le_of_ble_eq_true rfl, Nat.le_of_ble_eq_true rfl⟩, ⟨Nat.le_of_ble_eq_true rfl, Nat.le_of_ble_eq_true rfl⟩⟩ rfl hl.1 rfl (Nat.le_of_ble_eq_true rfl) dX12_entry_51) rfl rfl (fun x77 H locs M74 R75 J73 hS f71 g72 E76 => ?_)
            have eM74 := Fr.nil f71 rfl
            subst eM74
            have eR75 := Fr.nil g72 rfl
            subst eR75
            obtain ⟨h_x77, p78⟩ := E76
            have p79 := p78.1
            refine lv_if_eq (tgt := 70) hx hb dX12_entry_54 (by decide) (fun c80 => ?_) (fun c80 => ?_)
            · have q81 : x77.toInt = 0 := ti_eq c80
              have q82 := p78.2 c80
              have q82 : a3.toInt < 0 ∨ 99999 < a3.toInt := by rw [Int32.toInt_toInt64] at q82; exact q82
              have h83 : iv 0 0 x77 := ⟨by have := (h_x77).1; have := ((iv_c (c := 0) (n := 0) (by decide))).1; omega, by have := (h_x77).2; have := ((iv_c (c := 0) (n := 0) (by decide))).2; omega⟩
              refine lv_aload_n hx hb dX12_entry_70 rfl (lv_at hl 0 rfl) ?_
              refine lv_iconst (v := 0) hx hb dX12_entry_71 (by decide) ?_
              refine tw_goi hS (md_runV (As := [.int 0]) (rest := []) hx hb hml hown hW hK hT hS.1 (t_X12_refuses l D cy tx base Z K N Ma Ra J73 hS.2.1 a0 hz_a0 hk_a0 0 (iv_mono (iv_c (c := 0) (n := 0) (by decide)) (by decide) (by decide))) s_X12_338 ⟨rfl, rfl, ⟨Nat.le_of_ble_eq_true rfl, Nat.le_of_ble_eq_true rfl⟩, ⟨Nat.le_of_ble_eq_true rfl, Nat.le_of_ble_eq_true rfl⟩⟩ hz_a0 hk_a0 (by decide) rfl rfl hl.1 rfl (Nat.le_of_ble_eq_true rfl) dX12_entry_72) rfl rfl (fun x90 H locs M87 R88 J86 hS f84 g85 E89 => ?_)
              have eR88 := Fr.nil g85 rfl
              subst eR88
              have h_x90 := E89
              clear E89
              exact tw_endi hx hb hr hlocks hK hT hS hQ ((iv_mono h_x90 (by decide) (by decide))) dX12_entry_75
            · have q91 : ¬ x77.toInt = 0 := ti_ne c80
              have h92 : iv 1 1 x77 := ⟨by have := (h_x77).1; have := ((iv_c (c := 0) (n := 0) (by decide))).1; have := ((iv_c (c := 0) (n := 0) (by decide))).2; omega, by have := (h_x77).2; have := ((iv_c (c := 0) (n := 0) (by decide))).1; have := ((iv_c (c := 0) (n := 0) (by decide))).2; omega⟩
              have h93 : iv 0 99999 a3 := in2iv (p79 c80) ((jv_c (x := 0) (n := 0) (by decide))).1 ((jv_c (x := 99999) (n := 99999) (by decide))).2
              refine lv_iload hx hb dX12_entry_57 (lv_at hl 4 rfl) ?_
              refine lv_i2l hx hb dX12_entry_59 rfl ?_
              refine lv_lconst (v := 0) hx hb dX12_entry_60 (by decide) ?_
              refine lv_ldc2 hx hb hown (hW _ w_8_145 rfl) dX12_entry_61 ?_
              refine tw_goi hS (md_runS (As := [.long a4.toInt64, .long 0, .long 99999]) (rest := []) hx hb hml hown hW hK hT hS.1 (t_X12_in l D cy tx base Z K N Ma Ra J73 hS.2.1 (a4.toInt64) (0) (99999)) s_X12_155 ⟨rfl, rfl, ⟨Nat.le_of_ble_eq_true rfl, Nat.le_of_ble_eq_true rfl⟩, ⟨Nat.le_of_ble_eq_true rfl, Nat.le_of_ble_eq_true rfl⟩⟩ rfl hl.1 rfl (Nat.le_of_ble_eq_true rfl) dX12_entry_64) rfl rfl (fun x100 H locs M97 R98 J96 hS f94 g95 E99 => ?_)
              have eM97 := Fr.nil f94 rfl
              subst eM97
              have eR98 := Fr.nil g95 rfl
              subst eR98
              obtain ⟨h_x100, p101⟩ := E99
              have p102 := p101.1
              refine lv_if_ne (tgt := 76) hx hb dX12_entry_67 (by decide) (fun c103 => ?_) (fun c103 => ?_)
              · have q104 : ¬ x100.toInt = 0 := ti_ne c103
                have h105 : iv 1 1 x100 := ⟨by have := (h_x100).1; have := ((iv_c (c := 0) (n := 0) (by decide))).1; have := ((iv_c (c := 0) (n := 0) (by decide))).2; omega, by have := (h_x100).2; have := ((iv_c (c := 0) (n := 0) (by decide))).1; have := ((iv_c (c := 0) (n := 0) (by decide))).2; omega⟩
                have h106 : iv 0 99999 a4 := in2iv (p102 c103) ((jv_c (x := 0) (n := 0) (by decide))).1 ((jv_c (x := 99999) (n := 99999) (by decide))).2
                refine lv_aload_n hx hb dX12_entry_76 rfl (lv_at hl 0 rfl) ?_
                refine tw_getrk hx hb hW hown hK hS f_X12_45_11 hz_a0 hk_a0 (b := b3) k4 dX12_entry_77 ?_
                refine lv_iconst (v := 5) hx hb dX12_entry_80 (by decide) ?_
                refine tw_iald hx hb hK hS hz_b3 hk_b3 (Or.inr (by decide)) hn_b3 (lo := 0) (hi := 12) (iv_c (c := 5) (n := 5) (by decide)) ⟨by decide, by decide⟩ (rg_c (k0 := 5) rfl rfl rfl) dX12_entry_81 (fun x109 k108 h107 => ?_)
                refine lv_bipush (v := 12) hx hb dX12_entry_82 (by decide) ?_
                refine lv_icmp_ne (tgt := 93) hx hb dX12_entry_84 (by decide) (fun c110 => ?_) (fun c110 => ?_)
                · have q111 : ¬ x109.toInt = 12 := ti_ne c110
                  have h112 : iv 0 11 x109 := ⟨by have := (h107).1; have := ((iv_c (c := 12) (n := 12) (by decide))).1; have := ((iv_c (c := 12) (n := 12) (by decide))).2; omega, by have := (h107).2; have := ((iv_c (c := 12) (n := 12) (by decide))).1; have := ((iv_c (c := 12) (n := 12) (by decide))).2; omega⟩
                  refine lv_sipush (v := 178) hx hb dX12_entry_93 (by decide) ?_
                  refine lv_iconst (v := 4) hx hb dX12_entry_96 (by decide) ?_
                  refine lv_aload_n hx hb dX12_entry_97 rfl (lv_at hl 0 rfl) ?_
                  refine tw_getrk hx hb hW hown hK hS f_X12_45_11 hz_a0 hk_a0 (b := b3) k4 dX12_entry_98 ?_
                  refine lv_iconst (v := 5) hx hb dX12_entry_101 (by decide) ?_
                  refine tw_ialk hx hb hK hS hz_b3 hk_b3 (Or.inr (by decide)) hn_b3 (iv_c (c := 5) (n := 5) (by decide)) ⟨by decide, by decide⟩ (v := x109) k108 dX12_entry_102 ?_
                  refine tw_icmul (k := 4) (lo := 0) (hi := 44) hx hb (by decide) h112 (by decide) ⟨by decide, by decide⟩ ⟨by decide, by decide⟩ dX12_entry_103 (fun x115 e114 h113 => ?_)
                  refine tw_iadd (lo := 178) (hi := 222) hx hb (iv_c (c := 178) (n := 178) (by decide)) h113 ⟨by decide, by decide⟩ ⟨by decide, by decide⟩ dX12_entry_104 (fun x118 e117 h116 => ?_)
                  have e117 : x118.toInt = 178 + x115.toInt := e117
                  refine lv_istore (lv' := [(5, .int x118), (0, .ref (base + a0)), (1, .int a1), (2, .int a2), (3, .int a3), (4, .int a4)]) hx hb dX12_entry_105 hl (by decide) rfl (fun ls hl => ?_)
                  refine lv_aload_n hx hb dX12_entry_107 rfl (lv_at hl 1 rfl) ?_
                  refine tw_getrk hx hb hW hown hK hS f_X12_45_11 hz_a0 hk_a0 (b := b3) k4 dX12_entry_108 ?_
                  refine lv_iload hx hb dX12_entry_111 (lv_at hl 0 rfl) ?_
                  refine lv_iload_n hx hb dX12_entry_113 rfl (lv_at hl 2 rfl) ?_
                  refine tw_iast hx hb hK hS hz_b3 hk_b3 (Or.inr (by decide)) hn_b3 h116 ⟨by decide, by decide⟩ h_a1 (rg_sas (Or.inr (by decide)) ⟨by decide, by decide⟩) (jl := 178) (jh := 222) ⟨by decide, by decide⟩ rfl dX12_entry_114 (fun H locs M121 hS k119 f120 => ?_)
                  refine lv_aload_n hx hb dX12_entry_115 rfl (lv_at hl 1 rfl) ?_
                  refine tw_getrk hx hb hW hown hK hS f_X12_45_11 hz_a0 hk_a0 (b := b3) k4 dX12_entry_116 ?_
                  refine lv_iload hx hb dX12_entry_119 (lv_at hl 0 rfl) ?_
                  refine lv_iconst (v := 1) hx hb dX12_entry_121 (by decide) ?_
                  refine tw_iadd (lo := 179) (hi := 223) hx hb h116 (iv_c (c := 1) (n := 1) (by decide)) ⟨by decide, by decide⟩ ⟨by decide, by decide⟩ dX12_entry_122 (fun x124 e123 h122 => ?_)
                  have e123 : x124.toInt = x118.toInt + 1 := e123
                  refine lv_iload_n hx hb dX12_entry_123 rfl (lv_at hl 3 rfl) ?_
                  refine tw_iast hx hb hK hS hz_b3 hk_b3 (Or.inr (by decide)) hn_b3 h122 ⟨by decide, by decide⟩ h_a2 (rg_sas (Or.inr (by decide)) ⟨by decide, by decide⟩) (jl := 179) (jh := 223) ⟨by decide, by decide⟩ rfl dX12_entry_124 (fun H locs M127 hS k125 f126 => ?_)
                  refine lv_aload_n hx hb dX12_entry_125 rfl (lv_at hl 1 rfl) ?_
                  refine tw_getrk hx hb hW hown hK hS f_X12_45_11 hz_a0 hk_a0 (b := b3) k4 dX12_entry_126 ?_
                  refine lv_iload hx hb dX12_entry_129 (lv_at hl 0 rfl) ?_
                  refine lv_iconst (v := 2) hx hb dX12_entry_131 (by decide) ?_
                  refine tw_iadd (lo := 180) (hi := 224) hx hb h116 (iv_c (c := 2) (n := 2) (by decide)) ⟨by decide, by decide⟩ ⟨by decide, by decide⟩ dX12_entry_132 (fun x130 e129 h128 => ?_)
                  have e129 : x130.toInt = x118.toInt + 2 := e129
                  refine lv_iload_n hx hb dX12_entry_133 rfl (lv_at hl 4 rfl) ?_
                  refine tw_iast hx hb hK hS hz_b3 hk_b3 (Or.inr (by decide)) hn_b3 h128 ⟨by decide, by decide⟩ h93 (rg_sas (Or.inr (by decide)) ⟨by decide, by decide⟩) (jl := 180) (jh := 224) ⟨by decide, by decide⟩ rfl dX12_entry_134 (fun H locs M133 hS k131 f132 => ?_)
                  refine lv_aload_n hx hb dX12_entry_135 rfl (lv_at hl 1 rfl) ?_
                  refine tw_getrk hx hb hW hown hK hS f_X12_45_11 hz_a0 hk_a0 (b := b3) k4 dX12_entry_136 ?_
                  refine lv_iload hx hb dX12_entry_139 (lv_at hl 0 rfl) ?_
                  refine lv_iconst (v := 3) hx hb dX12_entry_141 (by decide) ?_
                  refine tw_iadd (lo := 181) (hi := 225) hx hb h116 (iv_c (c := 3) (n := 3) (by decide)) ⟨by decide, by decide⟩ ⟨by decide, by decide⟩ dX12_entry_142 (fun x136 e135 h134 => ?_)
                  have e135 : x136.toInt = x118.toInt + 3 := e135
                  refine lv_iload hx hb dX12_entry_143 (lv_at hl 5 rfl) ?_
                  refine tw_iast hx hb hK hS hz_b3 hk_b3 (Or.inr (by decide)) hn_b3 h134 ⟨by decide, by decide⟩ h106 (rg_sas (Or.inr (by decide)) ⟨by decide, by decide⟩) (jl := 181) (jh := 225) ⟨by decide, by decide⟩ rfl dX12_entry_145 (fun H locs M139 hS k137 f138 => ?_)
                  refine lv_aload_n hx hb dX12_entry_146 rfl (lv_at hl 1 rfl) ?_
                  refine tw_getrk hx hb hW hown hK hS f_X12_45_11 hz_a0 hk_a0 (b := b3) k4 dX12_entry_147 ?_
                  refine lv_iconst (v := 5) hx hb dX12_entry_150 (by decide) ?_
                  refine lv_dup2_11 hx hb dX12_entry_151 rfl rfl ?_
                  have k140 : M139 b3 (5 : Int32).toNatClampNeg = x109 := ((Fr.kp (k := (5 : Int32).toNatClampNeg) f138 hk_b3 rfl).trans ((Fr.kp (k := (5 : Int32).toNatClampNeg) f132 hk_b3 rfl).trans ((Fr.kp (k := (5 : Int32).toNatClampNeg) f126 hk_b3 rfl).trans (Fr.kp (k := (5 : Int32).toNatClampNeg) f120 hk_b3 rfl)))).trans k108
                  refine tw_ialk hx hb hK hS hz_b3 hk_b3 (Or.inr (by decide)) hn_b3 (iv_c (c := 5) (n := 5) (by decide)) ⟨by decide, by decide⟩ (v := x109) k140 dX12_entry_152 ?_
                  refine lv_iconst (v := 1) hx hb dX12_entry_153 (by decide) ?_
                  refine tw_iadd (lo := 1) (hi := 12) hx hb h112 (iv_c (c := 1) (n := 1) (by decide)) ⟨by decide, by decide⟩ ⟨by decide, by decide⟩ dX12_entry_154 (fun x143 e142 h141 => ?_)
                  have e142 : x143.toInt = x109.toInt + 1 := e142
                  refine tw_iast hx hb hK hS hz_b3 hk_b3 (Or.inr (by decide)) hn_b3 (iv_c (c := 5) (n := 5) (by decide)) ⟨by decide, by decide⟩ h141 (rg_cs (k0 := 5) rfl rfl rfl ⟨by decide, by decide⟩) (jl := 5) (jh := 5) ⟨by decide, by decide⟩ rfl dX12_entry_155 (fun H locs M146 hS k144 f145 => ?_)
                  refine lv_aload_n hx hb dX12_entry_156 rfl (lv_at hl 1 rfl) ?_
                  refine tw_getrk hx hb hW hown hK hS f_X12_45_11 hz_a0 hk_a0 (b := b3) k4 dX12_entry_157 ?_
                  refine lv_iconst (v := 5) hx hb dX12_entry_160 (by decide) ?_
                  refine tw_ialk hx hb hK hS hz_b3 hk_b3 (Or.inr (by decide)) hn_b3 (iv_c (c := 5) (n := 5) (by decide)) ⟨by decide, by decide⟩ (v := x143) k144 dX12_entry_161 ?_
                  exact tw_endi hx hb hr hlocks hK hT hS hQ ((iv_mono h141 (by decide) (by decide))) dX12_entry_162
                · have q147 : x109.toInt = 12 := ti_eq c110
                  have h148 : iv 12 12 x109 := ⟨by have := (h107).1; have := ((iv_c (c := 12) (n := 12) (by decide))).1; omega, by have := (h107).2; have := ((iv_c (c := 12) (n := 12) (by decide))).2; omega⟩
                  refine lv_aload_n hx hb dX12_entry_87 rfl (lv_at hl 0 rfl) ?_
                  refine lv_iconst (v := 1) hx hb dX12_entry_88 (by decide) ?_
                  refine tw_goi hS (md_runV (As := [.int 1]) (rest := []) hx hb hml hown hW hK hT hS.1 (t_X12_refuses l D cy tx base Z K N Ma Ra J96 hS.2.1 a0 hz_a0 hk_a0 1 (iv_mono (iv_c (c := 1) (n := 1) (by decide)) (by decide) (by decide))) s_X12_338 ⟨rfl, rfl, ⟨Nat.le_of_ble_eq_true rfl, Nat.le_of_ble_eq_true rfl⟩, ⟨Nat.le_of_ble_eq_true rfl, Nat.le_of_ble_eq_true rfl⟩⟩ hz_a0 hk_a0 (by decide) rfl rfl hl.1 rfl (Nat.le_of_ble_eq_true rfl) dX12_entry_89) rfl rfl (fun x155 H locs M152 R153 J151 hS f149 g150 E154 => ?_)
                  have eR153 := Fr.nil g150 rfl
                  subst eR153
                  have h_x155 := E154
                  clear E154
                  exact tw_endi hx hb hr hlocks hK hT hS hQ ((iv_mono h_x155 (by decide) (by decide))) dX12_entry_92
              · have q156 : x100.toInt = 0 := ti_eq c103
                have q157 := p101.2 c103
                have q157 : a4.toInt < 0 ∨ 99999 < a4.toInt := by rw [Int32.toInt_toInt64] at q157; exact q157
                have h158 : iv 0 0 x100 := ⟨by have := (h_x100).1; have := ((iv_c (c := 0) (n := 0) (by decide))).1; omega, by have := (h_x100).2; have := ((iv_c (c := 0) (n := 0) (by decide))).2; omega⟩
                refine lv_aload_n hx hb dX12_entry_70 rfl (lv_at hl 0 rfl) ?_
                refine lv_iconst (v := 0) hx hb dX12_entry_71 (by decide) ?_
                refine tw_goi hS (md_runV (As := [.int 0]) (rest := []) hx hb hml hown hW hK hT hS.1 (t_X12_refuses l D cy tx base Z K N Ma Ra J96 hS.2.1 a0 hz_a0 hk_a0 0 (iv_mono (iv_c (c := 0) (n := 0) (by decide)) (by decide) (by decide))) s_X12_338 ⟨rfl, rfl, ⟨Nat.le_of_ble_eq_true rfl, Nat.le_of_ble_eq_true rfl⟩, ⟨Nat.le_of_ble_eq_true rfl, Nat.le_of_ble_eq_true rfl⟩⟩ hz_a0 hk_a0 (by decide) rfl rfl hl.1 rfl (Nat.le_of_ble_eq_true rfl) dX12_entry_72) rfl rfl (fun x165 H locs M162 R163 J161 hS f159 g160 E164 => ?_)
                have eR163 := Fr.nil g160 rfl
                subst eR163
                have h_x165 := E164
                clear E164
                exact tw_endi hx hb hr hlocks hK hT hS hQ ((iv_mono h_x165 (by decide) (by decide))) dX12_entry_75
  · have q166 : a1.toInt = (-1) := ti_eq c1
    have h167 : iv (-1) (-1) a1 := ⟨by have := (h_a1).1; have := ((iv_c (c := (-1)) (n := (-1)) (by decide))).1; omega, by have := (h_a1).2; have := ((iv_c (c := (-1)) (n := (-1)) (by decide))).2; omega⟩
    refine lv_aload_n hx hb dX12_entry_5 rfl (lv_at hl 0 rfl) ?_
    refine tw_getr hx hb hW hown hK hS f_X12_45_11 hz_a0 hk_a0 (t := 23) (n := 226) rfl dX12_entry_6 (fun b168 k169 hz_b168 hk_b168 hn_b168 => ?_)
    have hn_b168 := hn_b168 (by decide)
    refine lv_iconst (v := 5) hx hb dX12_entry_9 (by decide) ?_
    refine lv_iconst (v := 0) hx hb dX12_entry_10 (by decide) ?_
    refine tw_iast hx hb hK hS hz_b168 hk_b168 (Or.inr (by decide)) hn_b168 (iv_c (c := 5) (n := 5) (by decide)) ⟨by decide, by decide⟩ (iv_c (c := 0) (n := 0) (by decide)) (rg_0 ⟨rfl, rfl⟩) (jl := 5) (jh := 5) ⟨by decide, by decide⟩ rfl dX12_entry_11 (fun H locs M172 hS k170 f171 => ?_)
    refine lv_iconst (v := 0) hx hb dX12_entry_12 (by decide) ?_
    exact tw_endi hx hb hr hlocks hK hT hS hQ ((iv_mono (iv_c (c := 0) (n := 0) (by decide)) (by decide) (by decide))) dX12_entry_13
def Lt_X12_four : WL := [(12, 1, 2), (13, 0, 2000000)]
def LRt_X12_four : WL := []
set_option maxRecDepth 100000 in
set_option maxHeartbeats 4000000 in
theorem t_X12_four (l : Launch) (D : va_G) (cy : Nat → ClassId) (tx : (Nat → Nat) × (Nat → Nat)) (base Z : Nat) (K N : Nat → Nat) (Ma : MT) (Ra : RT) (Ja : JT) (hTy : Ty Z K N Ma Ra) (a0 : Nat) (hz_a0 : a0 < Z) (hk_a0 : K a0 = 12) (a1 : Int32) (h_a1 : iv (-2147483648) 2147483647 a1) (t0 : Int32) (k_t0 : Ma a0 1 = t0) (h_t0 : iv 0 396 t0) : Met l yX12_four [Cond.code yX12_four cX12_four 3 none] (md_rm 1 0 0) (va_Pc [.ref (base + a0), .int a1] (md_U D cy tx base Z K N Ma Ra Ja)) (mQv D cy tx base (fun u => TP Z K N Lt_X12_four LRt_X12_four Ma Ra u ∧ ((∃ x : Int32, u.2.2.2.1 a0 1 = x ∧ iv 4 400 x ∧ (x.toInt = t0.toInt + 4))))) 0 0 (fun q => base ≤ q) := by
  refine tw_ofW (L := Lt_X12_four) (LR := LRt_X12_four) (by decide) (Nat.le_of_ble_eq_true rfl) hTy ?_
  intro p e s m args below meth c Q ls hx hb hr hlocks hown hml hW hK hT hS hQ hl
  have hl : lv_has ls 3 [(0, .ref (base + a0)), (1, .int a1)] := hl
  refine lv_bipush (v := 24) hx hb dX12_four_0 (by decide) ?_
  refine lv_istore_n (lv' := [(2, .int 24), (0, .ref (base + a0)), (1, .int a1)]) hx hb dX12_four_2 rfl hl (by decide) rfl (fun ls hl => ?_)
  have W3_2 : ∀ (n_2 : Nat) (x1 : Int32) (x7 : Int32) (M2 : MT) (R3 : RT) (J4 : JT) (H : Heap) (locs : List Loc) (ls : Array Slot) (h_x1 : iv (-8) 24 x1) (h_x7 : iv 0 400 x7) (k8 : M2 a0 1 = x7) (w0_2 : 8 * x7.toInt + x1.toInt = 8 * t0.toInt + 24) (hm_2 : x1.toInt - (-8) < (n_2 : Int)) (hS : SB D cy base Z K N Lt_X12_four LRt_X12_four Ma Ra M2 R3 J4 s H locs) (hl : lv_has ls 3 [(2, .int x1), (0, .ref (base + a0)), (1, .int a1)]), W p l e (md_rm 1 0 0) s m args below meth c H locs 0 0 Q (F0 m 3 ls []) := by
    intro n_2
    induction n_2 with
    | zero =>
      intro x1 x7 M2 R3 J4 H locs ls h_x1 h_x7 k8 w0_2 hm_2 hS hl
      exfalso
      have := (h_a1).1; have := (h_a1).2; have := (h_t0).1; have := (h_t0).2; have := (h_x1).1; have := (h_x1).2; have := (h_x7).1; have := (h_x7).2; omega
    | succ n_2 ih_2 =>
      intro x1 x7 M2 R3 J4 H locs ls h_x1 h_x7 k8 w0_2 hm_2 hS hl
      have f5 := hS.2.2.1
      have g6 := hS.2.2.2
      refine lv_iload_n hx hb dX12_four_3 rfl (lv_at hl 0 rfl) ?_
      refine lv_if_lt (tgt := 36) hx hb dX12_four_4 (by decide) (fun c9 => ?_) (fun c9 => ?_)
      · have q10 : x1.toInt < 0 := ti_lt c9
        have h11 : iv (-8) (-1) x1 := iv_ltL (y := 0) h_x1 (iv_c (c := 0) (n := 0) (by decide)) q10 (by decide)
        have h12 : iv 4 400 x7 := by
          have := (h_a1).1; have := (h_a1).2; have := (h_t0).1; have := (h_t0).2; have := (h11).1; have := (h11).2; have := (h_x7).1; have := (h_x7).2; exact ⟨by omega, by omega⟩
        have q13 : x7.toInt = t0.toInt + 4 := by
          have := (h_a1).1; have := (h_a1).2; have := (h_t0).1; have := (h_t0).2; have := (h11).1; have := (h11).2; have := (h_x7).1; have := (h_x7).2; omega
        exact tw_endv hx hb hr hlocks hK hT hS hQ (⟨x7, k8, h12, q13⟩) dX12_four_36
      · have q14 : 0 ≤ x1.toInt := ti_nlt c9
        have h15 : iv 0 24 x1 := iv_geL (y := 0) h_x1 (iv_c (c := 0) (n := 0) (by decide)) q14 (by decide)
        refine lv_aload_n hx hb dX12_four_7 rfl (lv_at hl 1 rfl) ?_
        refine tw_getr hx hb hW hown hK hS f_X12_7_11 hz_a0 hk_a0 (t := 13) (n := 400) rfl dX12_four_8 (fun b16 k17 hz_b16 hk_b16 hn_b16 => ?_)
        have hn_b16 := hn_b16 (by decide)
        refine lv_aload_n hx hb dX12_four_11 rfl (lv_at hl 1 rfl) ?_
        refine tw_getk hx hb hW hown hK hS f_X12_116_11 hz_a0 hk_a0 (v := x7) k8 dX12_four_12 ?_
        refine lv_iload_n hx hb dX12_four_15 rfl (lv_at hl 2 rfl) ?_
        refine lv_iload_n hx hb dX12_four_16 rfl (lv_at hl 0 rfl) ?_
        refine lv_ishr hx hb dX12_four_17 ?_
        refine tw_top (fun x19 => ?_)
        have h18 := iv_any x19
        refine lv_i2b hx hb dX12_four_18 rfl ?_
        refine tw_top (fun x21 => ?_)
        have h20 := iv_any x21
        have h22 : iv 0 399 x7 := by
          have := (h_a1).1; have := (h_a1).2; have := (h_t0).1; have := (h_t0).2; have := (h15).1; have := (h15).2; have := (h_x7).1; have := (h_x7).2; exact ⟨by omega, by omega⟩
        refine tw_bast hx hb hK hS hz_b16 hk_b16 hn_b16 h22 ⟨by decide, by decide⟩ (jl := 0) (jh := 1999999) ⟨by decide, by decide⟩ rfl dX12_four_19 (fun H locs M24 hS f23 => ?_)
        refine lv_aload_n hx hb dX12_four_20 rfl (lv_at hl 1 rfl) ?_
        refine lv_dup hx hb dX12_four_21 rfl ?_
        have k25 : M24 a0 1 = x7 := (Fr.kp (k := 1) f23 hk_a0 rfl).trans k8
        refine tw_getk hx hb hW hown hK hS f_X12_116_11 hz_a0 hk_a0 (v := x7) k25 dX12_four_22 ?_
        refine lv_iconst (v := 1) hx hb dX12_four_25 (by decide) ?_
        refine tw_iadd (lo := 1) (hi := 400) hx hb h22 (iv_c (c := 1) (n := 1) (by decide)) ⟨by decide, by decide⟩ ⟨by decide, by decide⟩ dX12_four_26 (fun x28 e27 h26 => ?_)
        have e27 : x28.toInt = x7.toInt + 1 := e27
        refine tw_puti hx hb hW hown hK hS f_X12_116_11 hz_a0 hk_a0 rfl rfl (lo := 0) (hi := 400) rfl (iv_mono h26 (by decide) (by decide)) rfl dX12_four_27 (fun H locs M31 hS k29 f30 => ?_)
        refine tw_iinc (lv' := fun x34 => [(2, .int x34), (0, .ref (base + a0)), (1, .int a1)]) (lo := (-8)) (hi := 16) hx hb dX12_four_30 hl (k := 0) rfl h15 (by decide) ⟨by decide, by decide⟩ ⟨by decide, by decide⟩ (by decide) (fun _ => rfl) (fun x34 ls e33 h32 hl => ?_)
        refine lv_goto (tgt := 3) hx hb dX12_four_33 (by decide) ?_
        have w35 : 8 * x28.toInt + x34.toInt = 8 * t0.toInt + 24 := by
          have := (h_a1).1; have := (h_a1).2; have := (h_t0).1; have := (h_t0).2; have := (h15).1; have := (h15).2; have := (h26).1; have := (h26).2; have := (h32).1; have := (h32).2; have := (h22).1; have := (h22).2; omega
        have hm36 : x34.toInt - (-8) < (n_2 : Int) := by
          have := (h_a1).1; have := (h_a1).2; have := (h_t0).1; have := (h_t0).2; have := (h15).1; have := (h15).2; have := (h26).1; have := (h26).2; have := (h32).1; have := (h32).2; have := (h22).1; have := (h22).2; omega
        exact ih_2 x34 x28 M31 R3 J4 H locs _ (iv_mono h32 (by decide) (by decide)) (iv_mono h26 (by decide) (by decide)) k29 w35 hm36 hS hl
  have w37 : 8 * t0.toInt + (24 : Int32).toInt = 8 * t0.toInt + 24 := by
    have := (h_a1).1; have := (h_a1).2; have := (h_t0).1; have := (h_t0).2; have : (24 : Int32).toInt = 24 := (by decide); omega
  have hm38 : (24 : Int32).toInt - (-8) < (((33 : Nat) : Int) : Int) := by
    have := (h_a1).1; have := (h_a1).2; have := (h_t0).1; have := (h_t0).2; have : (24 : Int32).toInt = 24 := (by decide); omega
  exact W3_2 33 24 t0 Ma Ra Ja s.heap [] _ (iv_mono (iv_c (c := 24) (n := 24) (by decide)) (by decide) (by decide)) (iv_mono h_t0 (by decide) (by decide)) k_t0 w37 hm38 hS hl
def Lt_X12_feed : WL := [(12, 1, 2), (13, 0, 2000000)]
def LRt_X12_feed : WL := []
set_option maxRecDepth 100000 in
set_option maxHeartbeats 4000000 in
theorem t_X12_feed (l : Launch) (D : va_G) (cy : Nat → ClassId) (tx : (Nat → Nat) × (Nat → Nat)) (base Z : Nat) (K N : Nat → Nat) (Ma : MT) (Ra : RT) (Ja : JT) (hTy : Ty Z K N Ma Ra) (a0 : Nat) (hz_a0 : a0 < Z) (hk_a0 : K a0 = 12) (a1 : Int32) (h_a1 : iv (-2147483648) 2147483647 a1) (a2 : Int32) (h_a2 : iv (-2147483648) 2147483647 a2) (a3 : Int32) (h_a3 : iv (-2147483648) 2147483647 a3) (a4 : Int32) (h_a4 : iv (-2147483648) 2147483647 a4) (a5 : Int32) (h_a5 : iv (-2147483648) 2147483647 a5) : Met l yX12_feed [Cond.code yX12_feed cX12_feed 6 (some .int)] (md_rm 2 0 0) (va_Pc [.ref (base + a0), .int a1, .int a2, .int a3, .int a4, .int a5] (md_U D cy tx base Z K N Ma Ra Ja)) (mQi D cy tx base (fun r u => TP Z K N Lt_X12_feed LRt_X12_feed Ma Ra u ∧ (iv (-1) 400 r))) 0 0 (fun q => base ≤ q) := by
  refine tw_ofW (L := Lt_X12_feed) (LR := LRt_X12_feed) (by decide) (Nat.le_of_ble_eq_true rfl) hTy ?_
  intro p e s m args below meth c Q ls hx hb hr hlocks hown hml hW hK hT hS hQ hl
  have hl : lv_has ls 6 [(0, .ref (base + a0)), (1, .int a1), (2, .int a2), (3, .int a3), (4, .int a4), (5, .int a5)] := hl
  refine lv_aload_n hx hb dX12_feed_0 rfl (lv_at hl 0 rfl) ?_
  refine tw_geti hx hb hW hown hK hS f_X12_116_11 hz_a0 hk_a0 (lo := 0) (hi := 400) rfl dX12_feed_1 (fun x3 k2 h1 => ?_)
  refine lv_bipush (v := 20) hx hb dX12_feed_4 (by decide) ?_
  refine tw_iadd (lo := 20) (hi := 420) hx hb h1 (iv_c (c := 20) (n := 20) (by decide)) ⟨by decide, by decide⟩ ⟨by decide, by decide⟩ dX12_feed_6 (fun x6 e5 h4 => ?_)
  have e5 : x6.toInt = x3.toInt + 20 := e5
  refine lv_sipush (v := 400) hx hb dX12_feed_7 (by decide) ?_
  refine lv_icmp_le (tgt := 15) hx hb dX12_feed_10 (by decide) (fun c7 => ?_) (fun c7 => ?_)
  · have q8 : x6.toInt ≤ 400 := ti_le c7
    have h9 : iv 20 400 x6 := iv_leL (y := 400) h4 (iv_c (c := 400) (n := 400) (by decide)) q8 (by decide)
    refine lv_aload_n hx hb dX12_feed_15 rfl (lv_at hl 0 rfl) ?_
    refine lv_iload_n hx hb dX12_feed_16 rfl (lv_at hl 1 rfl) ?_
    have h10 : iv 0 396 x3 := by
      have := (h_a1).1; have := (h_a1).2; have := (h_a2).1; have := (h_a2).2; have := (h_a3).1; have := (h_a3).2; have := (h_a4).1; have := (h_a4).2; have := (h_a5).1; have := (h_a5).2; have := (h1).1; have := (h1).2; have := (h9).1; have := (h9).2; exact ⟨by omega, by omega⟩
    refine tw_gov hS (md_runV (As := [.int a1]) (rest := []) hx hb hml hown hW hK hT hS.1 (t_X12_four l D cy tx base Z K N Ma Ra Ja hS.2.1 a0 hz_a0 hk_a0 a1 h_a1 x3 k2 h10) s_X12_120 ⟨rfl, rfl, ⟨Nat.le_of_ble_eq_true rfl, Nat.le_of_ble_eq_true rfl⟩, ⟨Nat.le_of_ble_eq_true rfl, Nat.le_of_ble_eq_true rfl⟩⟩ hz_a0 hk_a0 (by decide) rfl rfl hl.1 rfl (Nat.le_of_ble_eq_true rfl) dX12_feed_17) rfl rfl (fun H locs M14 R15 J13 hS f11 g12 E16 => ?_)
    have eR15 := Fr.nil g12 rfl
    subst eR15
    have p17 := E16
    clear E16
    obtain ⟨x20, k18, h19, q21⟩ := p17
    have k18 : M14 a0 1 = x20 := k18
    refine lv_aload_n hx hb dX12_feed_20 rfl (lv_at hl 0 rfl) ?_
    refine lv_iload_n hx hb dX12_feed_21 rfl (lv_at hl 2 rfl) ?_
    have h22 : iv 0 396 x20 := by
      have := (h_a1).1; have := (h_a1).2; have := (h_a2).1; have := (h_a2).2; have := (h_a3).1; have := (h_a3).2; have := (h_a4).1; have := (h_a4).2; have := (h_a5).1; have := (h_a5).2; have := (h19).1; have := (h19).2; have := (h1).1; have := (h1).2; have := (h9).1; have := (h9).2; exact ⟨by omega, by omega⟩
    refine tw_gov hS (md_runV (As := [.int a2]) (rest := []) hx hb hml hown hW hK hT hS.1 (t_X12_four l D cy tx base Z K N M14 Ra J13 hS.2.1 a0 hz_a0 hk_a0 a2 h_a2 x20 k18 h22) s_X12_120 ⟨rfl, rfl, ⟨Nat.le_of_ble_eq_true rfl, Nat.le_of_ble_eq_true rfl⟩, ⟨Nat.le_of_ble_eq_true rfl, Nat.le_of_ble_eq_true rfl⟩⟩ hz_a0 hk_a0 (by decide) rfl rfl hl.1 rfl (Nat.le_of_ble_eq_true rfl) dX12_feed_22) rfl rfl (fun H locs M26 R27 J25 hS f23 g24 E28 => ?_)
    have eR27 := Fr.nil g24 rfl
    subst eR27
    have p29 := E28
    clear E28
    obtain ⟨x32, k30, h31, q33⟩ := p29
    have k30 : M26 a0 1 = x32 := k30
    refine lv_aload_n hx hb dX12_feed_25 rfl (lv_at hl 0 rfl) ?_
    refine lv_iload_n hx hb dX12_feed_26 rfl (lv_at hl 3 rfl) ?_
    have h34 : iv 0 396 x32 := by
      have := (h_a1).1; have := (h_a1).2; have := (h_a2).1; have := (h_a2).2; have := (h_a3).1; have := (h_a3).2; have := (h_a4).1; have := (h_a4).2; have := (h_a5).1; have := (h_a5).2; have := (h19).1; have := (h19).2; have := (h1).1; have := (h1).2; have := (h31).1; have := (h31).2; have := (h9).1; have := (h9).2; exact ⟨by omega, by omega⟩
    refine tw_gov hS (md_runV (As := [.int a3]) (rest := []) hx hb hml hown hW hK hT hS.1 (t_X12_four l D cy tx base Z K N M26 Ra J25 hS.2.1 a0 hz_a0 hk_a0 a3 h_a3 x32 k30 h34) s_X12_120 ⟨rfl, rfl, ⟨Nat.le_of_ble_eq_true rfl, Nat.le_of_ble_eq_true rfl⟩, ⟨Nat.le_of_ble_eq_true rfl, Nat.le_of_ble_eq_true rfl⟩⟩ hz_a0 hk_a0 (by decide) rfl rfl hl.1 rfl (Nat.le_of_ble_eq_true rfl) dX12_feed_27) rfl rfl (fun H locs M38 R39 J37 hS f35 g36 E40 => ?_)
    have eR39 := Fr.nil g36 rfl
    subst eR39
    have p41 := E40
    clear E40
    obtain ⟨x44, k42, h43, q45⟩ := p41
    have k42 : M38 a0 1 = x44 := k42
    refine lv_aload_n hx hb dX12_feed_30 rfl (lv_at hl 0 rfl) ?_
    refine lv_iload hx hb dX12_feed_31 (lv_at hl 4 rfl) ?_
    have h46 : iv 0 396 x44 := by
      have := (h_a1).1; have := (h_a1).2; have := (h_a2).1; have := (h_a2).2; have := (h_a3).1; have := (h_a3).2; have := (h_a4).1; have := (h_a4).2; have := (h_a5).1; have := (h_a5).2; have := (h19).1; have := (h19).2; have := (h1).1; have := (h1).2; have := (h31).1; have := (h31).2; have := (h43).1; have := (h43).2; have := (h9).1; have := (h9).2; exact ⟨by omega, by omega⟩
    refine tw_gov hS (md_runV (As := [.int a4]) (rest := []) hx hb hml hown hW hK hT hS.1 (t_X12_four l D cy tx base Z K N M38 Ra J37 hS.2.1 a0 hz_a0 hk_a0 a4 h_a4 x44 k42 h46) s_X12_120 ⟨rfl, rfl, ⟨Nat.le_of_ble_eq_true rfl, Nat.le_of_ble_eq_true rfl⟩, ⟨Nat.le_of_ble_eq_true rfl, Nat.le_of_ble_eq_true rfl⟩⟩ hz_a0 hk_a0 (by decide) rfl rfl hl.1 rfl (Nat.le_of_ble_eq_true rfl) dX12_feed_33) rfl rfl (fun H locs M50 R51 J49 hS f47 g48 E52 => ?_)
    have eR51 := Fr.nil g48 rfl
    subst eR51
    have p53 := E52
    clear E52
    obtain ⟨x56, k54, h55, q57⟩ := p53
    have k54 : M50 a0 1 = x56 := k54
    refine lv_aload_n hx hb dX12_feed_36 rfl (lv_at hl 0 rfl) ?_
    refine lv_iload hx hb dX12_feed_37 (lv_at hl 5 rfl) ?_
    have h58 : iv 0 396 x56 := by
      have := (h_a1).1; have := (h_a1).2; have := (h_a2).1; have := (h_a2).2; have := (h_a3).1; have := (h_a3).2; have := (h_a4).1; have := (h_a4).2; have := (h_a5).1; have := (h_a5).2; have := (h19).1; have := (h19).2; have := (h1).1; have := (h1).2; have := (h31).1; have := (h31).2; have := (h43).1; have := (h43).2; have := (h55).1; have := (h55).2; have := (h9).1; have := (h9).2; exact ⟨by omega, by omega⟩
    refine tw_gov hS (md_runV (As := [.int a5]) (rest := []) hx hb hml hown hW hK hT hS.1 (t_X12_four l D cy tx base Z K N M50 Ra J49 hS.2.1 a0 hz_a0 hk_a0 a5 h_a5 x56 k54 h58) s_X12_120 ⟨rfl, rfl, ⟨Nat.le_of_ble_eq_true rfl, Nat.le_of_ble_eq_true rfl⟩, ⟨Nat.le_of_ble_eq_true rfl, Nat.le_of_ble_eq_true rfl⟩⟩ hz_a0 hk_a0 (by decide) rfl rfl hl.1 rfl (Nat.le_of_ble_eq_true rfl) dX12_feed_39) rfl rfl (fun H locs M62 R63 J61 hS f59 g60 E64 => ?_)
    have eR63 := Fr.nil g60 rfl
    subst eR63
    have p65 := E64
    clear E64
    obtain ⟨x68, k66, h67, q69⟩ := p65
    have k66 : M62 a0 1 = x68 := k66
    refine lv_aload_n hx hb dX12_feed_42 rfl (lv_at hl 0 rfl) ?_
    refine tw_getk hx hb hW hown hK hS f_X12_116_11 hz_a0 hk_a0 (v := x68) k66 dX12_feed_43 ?_
    exact tw_endi hx hb hr hlocks hK hT hS hQ ((iv_mono h67 (by decide) (by decide))) dX12_feed_46
  · have q70 : 400 < x6.toInt := ti_nle c7
    have h71 : iv 401 420 x6 := iv_gtL (y := 400) h4 (iv_c (c := 400) (n := 400) (by decide)) q70 (by decide)
    refine lv_iconst (v := (-1)) hx hb dX12_feed_13 (by decide) ?_
    exact tw_endi hx hb hr hlocks hK hT hS hQ ((iv_mono (iv_c (c := (-1)) (n := (-1)) (by decide)) (by decide) (by decide))) dX12_feed_14
def Lt_X12_holds : WL := [(12, 28, 29), (12, 31, 33), (14, 0, 2000000), (30, 0, 2000000)]
def LRt_X12_holds : WL := []
set_option maxRecDepth 100000 in
set_option maxHeartbeats 4000000 in
theorem t_X12_holds (l : Launch) (D : va_G) (cy : Nat → ClassId) (tx : (Nat → Nat) × (Nat → Nat)) (base Z : Nat) (K N : Nat → Nat) (Ma : MT) (Ra : RT) (Ja : JT) (hTy : Ty Z K N Ma Ra) (a0 : Nat) (hz_a0 : a0 < Z) (hk_a0 : K a0 = 12) (a1 : Int32) (h_a1 : iv 0 2147483647 a1) (a2 : Int32) (h_a2 : iv 1 6 a2) : Met l yX12_holds [Cond.code yX12_holds cX12_holds 6 (some .boolean)] (md_rm 5 0 0) (va_Pc [.ref (base + a0), .int a1, .int a2] (md_U D cy tx base Z K N Ma Ra Ja)) (mQi D cy tx base (fun r u => TP Z K N Lt_X12_holds LRt_X12_holds Ma Ra u ∧ (iv 0 1 r))) 0 0 (fun q => base ≤ q) := by
  refine tw_ofW (L := Lt_X12_holds) (LR := LRt_X12_holds) (by decide) (Nat.le_of_ble_eq_true rfl) hTy ?_
  intro p e s m args below meth c Q ls hx hb hr hlocks hown hml hW hK hT hS hQ hl
  have hl : lv_has ls 6 [(0, .ref (base + a0)), (1, .int a1), (2, .int a2)] := hl
  refine lv_iload_n hx hb dX12_holds_0 rfl (lv_at hl 1 rfl) ?_
  refine lv_istore_n (lv' := [(3, .int a1), (0, .ref (base + a0)), (1, .int a1), (2, .int a2)]) hx hb dX12_holds_1 rfl hl (by decide) rfl (fun ls hl => ?_)
  refine lv_iconst (v := 0) hx hb dX12_holds_2 (by decide) ?_
  refine lv_istore (lv' := [(4, .int 0), (3, .int a1), (0, .ref (base + a0)), (1, .int a1), (2, .int a2)]) hx hb dX12_holds_3 hl (by decide) rfl (fun ls hl => ?_)
  have W5_3 : ∀ (n_3 : Nat) (x1 : Int32) (x2 : Int32) (M3 : MT) (R4 : RT) (J5 : JT) (H : Heap) (locs : List Loc) (ls : Array Slot) (h_x1 : iv 0 2147483647 x1) (h_x2 : iv 0 10 x2) (hm_3 : 10 - x2.toInt < (n_3 : Int)) (hS : SB D cy base Z K N Lt_X12_holds LRt_X12_holds Ma Ra M3 R4 J5 s H locs) (hl : lv_has ls 6 [(3, .int x1), (4, .int x2), (0, .ref (base + a0)), (1, .int a1), (2, .int a2)]), W p l e (md_rm 5 0 0) s m args below meth c H locs 0 0 Q (F0 m 5 ls []) := by
    intro n_3
    induction n_3 with
    | zero =>
      intro x1 x2 M3 R4 J5 H locs ls h_x1 h_x2 hm_3 hS hl
      exfalso
      have := (h_a1).1; have := (h_a1).2; have := (h_a2).1; have := (h_a2).2; have := (h_x2).1; have := (h_x2).2; omega
    | succ n_3 ih_3 =>
      intro x1 x2 M3 R4 J5 H locs ls h_x1 h_x2 hm_3 hS hl
      have f6 := hS.2.2.1
      have g7 := hS.2.2.2
      refine lv_iload hx hb dX12_holds_5 (lv_at hl 1 rfl) ?_
      refine lv_aload_n hx hb dX12_holds_7 rfl (lv_at hl 2 rfl) ?_
      refine tw_getr hx hb hW hown hK hS f_X12_45_11 hz_a0 hk_a0 (t := 23) (n := 226) rfl dX12_holds_8 (fun b8 k9 hz_b8 hk_b8 hn_b8 => ?_)
      have hn_b8 := hn_b8 (by decide)
      refine lv_iconst (v := 0) hx hb dX12_holds_11 (by decide) ?_
      refine tw_iald hx hb hK hS hz_b8 hk_b8 (Or.inr (by decide)) hn_b8 (lo := 0) (hi := 10) (iv_c (c := 0) (n := 0) (by decide)) ⟨by decide, by decide⟩ (rg_c (k0 := 0) rfl rfl rfl) dX12_holds_12 (fun x12 k11 h10 => ?_)
      refine lv_icmp_ge (tgt := 52) hx hb dX12_holds_13 (by decide) (fun c13 => ?_) (fun c13 => ?_)
      · have q14 : x12.toInt ≤ x2.toInt := ti_le c13
        refine lv_iconst (v := 0) hx hb dX12_holds_52 (by decide) ?_
        refine lv_istore (lv' := [(4, .int 0), (3, .int x1), (0, .ref (base + a0)), (1, .int a1), (2, .int a2)]) hx hb dX12_holds_53 hl (by decide) rfl (fun ls hl => ?_)
        have W55_16 : ∀ (n_16 : Nat) (x15 : Int32) (M16 : MT) (R17 : RT) (J18 : JT) (H : Heap) (locs : List Loc) (ls : Array Slot) (h_x15 : iv 0 12 x15) (hm_16 : 12 - x15.toInt < (n_16 : Int)) (hS : SB D cy base Z K N Lt_X12_holds LRt_X12_holds Ma Ra M16 R17 J18 s H locs) (hl : lv_has ls 6 [(4, .int x15), (3, .int x1), (0, .ref (base + a0)), (1, .int a1), (2, .int a2)]), W p l e (md_rm 5 0 0) s m args below meth c H locs 0 0 Q (F0 m 55 ls []) := by
          intro n_16
          induction n_16 with
          | zero =>
            intro x15 M16 R17 J18 H locs ls h_x15 hm_16 hS hl
            exfalso
            have := (h_a1).1; have := (h_a1).2; have := (h_a2).1; have := (h_a2).2; have := (h_x15).1; have := (h_x15).2; omega
          | succ n_16 ih_16 =>
            intro x15 M16 R17 J18 H locs ls h_x15 hm_16 hS hl
            have f19 := hS.2.2.1
            have g20 := hS.2.2.2
            refine lv_iload hx hb dX12_holds_55 (lv_at hl 0 rfl) ?_
            refine lv_aload_n hx hb dX12_holds_57 rfl (lv_at hl 2 rfl) ?_
            refine tw_getr hx hb hW hown hK hS f_X12_45_11 hz_a0 hk_a0 (t := 23) (n := 226) rfl dX12_holds_58 (fun b21 k22 hz_b21 hk_b21 hn_b21 => ?_)
            have hn_b21 := hn_b21 (by decide)
            refine lv_iconst (v := 5) hx hb dX12_holds_61 (by decide) ?_
            refine tw_iald hx hb hK hS hz_b21 hk_b21 (Or.inr (by decide)) hn_b21 (lo := 0) (hi := 12) (iv_c (c := 5) (n := 5) (by decide)) ⟨by decide, by decide⟩ (rg_c (k0 := 5) rfl rfl rfl) dX12_holds_62 (fun x25 k24 h23 => ?_)
            refine lv_icmp_ge (tgt := 153) hx hb dX12_holds_63 (by decide) (fun c26 => ?_) (fun c26 => ?_)
            · have q27 : x25.toInt ≤ x15.toInt := ti_le c26
              refine lv_iconst (v := 1) hx hb dX12_holds_153 (by decide) ?_
              exact tw_endz hx hb hr hlocks hK hT hS hQ rfl ((iv_mono (iv_c (c := 1) (n := 1) (by decide)) (by decide) (by decide))) dX12_holds_154
            · have q28 : x15.toInt < x25.toInt := ti_nle c26
              have h29 : iv 0 11 x15 := iv_ltL (y := x25) h_x15 h23 q28 (by decide)
              have h30 : iv 1 12 x25 := iv_gtL (y := x15) h23 h_x15 q28 (by decide)
              refine lv_sipush (v := 178) hx hb dX12_holds_66 (by decide) ?_
              refine lv_iconst (v := 4) hx hb dX12_holds_69 (by decide) ?_
              refine lv_iload hx hb dX12_holds_70 (lv_at hl 0 rfl) ?_
              refine tw_icmul (k := 4) (lo := 0) (hi := 44) hx hb (by decide) h29 (by decide) ⟨by decide, by decide⟩ ⟨by decide, by decide⟩ dX12_holds_72 (fun x33 e32 h31 => ?_)
              refine tw_iadd (lo := 178) (hi := 222) hx hb (iv_c (c := 178) (n := 178) (by decide)) h31 ⟨by decide, by decide⟩ ⟨by decide, by decide⟩ dX12_holds_73 (fun x36 e35 h34 => ?_)
              have e35 : x36.toInt = 178 + x33.toInt := e35
              refine lv_istore (lv' := [(5, .int x36), (4, .int x15), (3, .int x1), (0, .ref (base + a0)), (1, .int a1), (2, .int a2)]) hx hb dX12_holds_74 hl (by decide) rfl (fun ls hl => ?_)
              refine lv_aload_n hx hb dX12_holds_76 rfl (lv_at hl 3 rfl) ?_
              refine lv_aload_n hx hb dX12_holds_77 rfl (lv_at hl 3 rfl) ?_
              refine tw_getrk hx hb hW hown hK hS f_X12_45_11 hz_a0 hk_a0 (b := b21) k22 dX12_holds_78 ?_
              refine lv_iload hx hb dX12_holds_81 (lv_at hl 0 rfl) ?_
              refine tw_iald hx hb hK hS hz_b21 hk_b21 (Or.inr (by decide)) hn_b21 (lo := (-2147483648)) (hi := 2147483647) h34 ⟨by decide, by decide⟩ rg_full dX12_holds_83 (fun x39 k38 h37 => ?_)
              refine tw_puti hx hb hW hown hK hS f_X12_364_11 hz_a0 hk_a0 rfl rfl (lo := (-2147483648)) (hi := 2147483647) rfl h37 rfl dX12_holds_84 (fun H locs M42 hS k40 f41 => ?_)
              refine lv_aload_n hx hb dX12_holds_87 rfl (lv_at hl 3 rfl) ?_
              refine lv_aload_n hx hb dX12_holds_88 rfl (lv_at hl 3 rfl) ?_
              refine tw_getrk hx hb hW hown hK hS f_X12_45_11 hz_a0 hk_a0 (b := b21) k22 dX12_holds_89 ?_
              refine lv_iload hx hb dX12_holds_92 (lv_at hl 0 rfl) ?_
              refine lv_iconst (v := 1) hx hb dX12_holds_94 (by decide) ?_
              refine tw_iadd (lo := 179) (hi := 223) hx hb h34 (iv_c (c := 1) (n := 1) (by decide)) ⟨by decide, by decide⟩ ⟨by decide, by decide⟩ dX12_holds_95 (fun x45 e44 h43 => ?_)
              have e44 : x45.toInt = x36.toInt + 1 := e44
              refine tw_iald hx hb hK hS hz_b21 hk_b21 (Or.inr (by decide)) hn_b21 (lo := (-2147483648)) (hi := 2147483647) h43 ⟨by decide, by decide⟩ rg_full dX12_holds_96 (fun x48 k47 h46 => ?_)
              refine tw_puti hx hb hW hown hK hS f_X12_367_11 hz_a0 hk_a0 rfl rfl (lo := (-2147483648)) (hi := 2147483647) rfl h46 rfl dX12_holds_97 (fun H locs M51 hS k49 f50 => ?_)
              refine lv_aload_n hx hb dX12_holds_100 rfl (lv_at hl 3 rfl) ?_
              refine lv_aload_n hx hb dX12_holds_101 rfl (lv_at hl 3 rfl) ?_
              have k52 : M51 a0 31 = x39 := (Fr.kp (k := 31) f50 hk_a0 rfl).trans k40
              refine tw_getk hx hb hW hown hK hS f_X12_364_11 hz_a0 hk_a0 (v := x39) k52 dX12_holds_102 ?_
              obtain ⟨x55, k53⟩ : ∃ x, M51 b21 (0 : Int32).toNatClampNeg = x := ⟨_, rfl⟩
              have h54 : iv 0 10 x55 := by rw [← k53]; exact hS.2.1.int hz_b21 hk_b21 (show rgI 23 (0 : Int32).toNatClampNeg = (0, 10) from rfl)
              refine tw_goi hS (md_runV (As := [.int x39]) (rest := []) hx hb hml hown hW hK hT hS.1 (t_X12_voicesOf l D cy tx base Z K N M51 R17 J18 hS.2.1 a0 hz_a0 hk_a0 x39 h37 b21 k22 x55 k53 (iv_mono h54 (by decide) (by decide))) s_X12_380 ⟨rfl, rfl, ⟨Nat.le_of_ble_eq_true rfl, Nat.le_of_ble_eq_true rfl⟩, ⟨Nat.le_of_ble_eq_true rfl, Nat.le_of_ble_eq_true rfl⟩⟩ hz_a0 hk_a0 (by decide) rfl rfl hl.1 rfl (Nat.le_of_ble_eq_true rfl) dX12_holds_105) rfl rfl (fun x62 H locs M59 R60 J58 hS f56 g57 E61 => ?_)
              have eM59 := Fr.nil f56 rfl
              subst eM59
              have eR60 := Fr.nil g57 rfl
              subst eR60
              obtain ⟨h_x62, p63⟩ := E61
              refine lv_aload_n hx hb dX12_holds_108 rfl (lv_at hl 3 rfl) ?_
              refine tw_getrk hx hb hW hown hK hS f_X12_45_11 hz_a0 hk_a0 (b := b21) k22 dX12_holds_109 ?_
              refine lv_iload hx hb dX12_holds_112 (lv_at hl 0 rfl) ?_
              refine lv_iconst (v := 2) hx hb dX12_holds_114 (by decide) ?_
              refine tw_iadd (lo := 180) (hi := 224) hx hb h34 (iv_c (c := 2) (n := 2) (by decide)) ⟨by decide, by decide⟩ ⟨by decide, by decide⟩ dX12_holds_115 (fun x66 e65 h64 => ?_)
              have e65 : x66.toInt = x36.toInt + 2 := e65
              refine tw_iald hx hb hK hS hz_b21 hk_b21 (Or.inr (by decide)) hn_b21 (lo := (-2147483648)) (hi := 2147483647) h64 ⟨by decide, by decide⟩ rg_full dX12_holds_116 (fun x69 k68 h67 => ?_)
              refine lv_icmp_ne (tgt := 140) hx hb dX12_holds_117 (by decide) (fun c70 => ?_) (fun c70 => ?_)
              · have q71 : ¬ x62.toInt = x69.toInt := ti_ne c70
                refine lv_iconst (v := 0) hx hb dX12_holds_140 (by decide) ?_
                exact tw_endz hx hb hr hlocks hK hT hS hQ rfl ((iv_mono (iv_c (c := 0) (n := 0) (by decide)) (by decide) (by decide))) dX12_holds_141
              · have q72 : x62.toInt = x69.toInt := ti_eq c70
                have h73 : iv 0 99990 x69 := ⟨by have := (h_x62).1; have := (h67).1; omega, by have := (h_x62).2; have := (h67).2; omega⟩
                refine lv_aload_n hx hb dX12_holds_120 rfl (lv_at hl 3 rfl) ?_
                refine lv_aload_n hx hb dX12_holds_121 rfl (lv_at hl 3 rfl) ?_
                refine tw_getk hx hb hW hown hK hS f_X12_367_11 hz_a0 hk_a0 (v := x48) k49 dX12_holds_122 ?_
                refine tw_goi hS (md_runV (As := [.int x48]) (rest := []) hx hb hml hown hW hK hT hS.1 (t_X12_voicesOf l D cy tx base Z K N M51 R17 J58 hS.2.1 a0 hz_a0 hk_a0 x48 h46 b21 k22 x55 k53 (iv_mono h54 (by decide) (by decide))) s_X12_380 ⟨rfl, rfl, ⟨Nat.le_of_ble_eq_true rfl, Nat.le_of_ble_eq_true rfl⟩, ⟨Nat.le_of_ble_eq_true rfl, Nat.le_of_ble_eq_true rfl⟩⟩ hz_a0 hk_a0 (by decide) rfl rfl hl.1 rfl (Nat.le_of_ble_eq_true rfl) dX12_holds_125) rfl rfl (fun x80 H locs M77 R78 J76 hS f74 g75 E79 => ?_)
                have eM77 := Fr.nil f74 rfl
                subst eM77
                have eR78 := Fr.nil g75 rfl
                subst eR78
                obtain ⟨h_x80, p81⟩ := E79
                refine lv_aload_n hx hb dX12_holds_128 rfl (lv_at hl 3 rfl) ?_
                refine tw_getrk hx hb hW hown hK hS f_X12_45_11 hz_a0 hk_a0 (b := b21) k22 dX12_holds_129 ?_
                refine lv_iload hx hb dX12_holds_132 (lv_at hl 0 rfl) ?_
                refine lv_iconst (v := 3) hx hb dX12_holds_134 (by decide) ?_
                refine tw_iadd (lo := 181) (hi := 225) hx hb h34 (iv_c (c := 3) (n := 3) (by decide)) ⟨by decide, by decide⟩ ⟨by decide, by decide⟩ dX12_holds_135 (fun x84 e83 h82 => ?_)
                have e83 : x84.toInt = x36.toInt + 3 := e83
                refine tw_iald hx hb hK hS hz_b21 hk_b21 (Or.inr (by decide)) hn_b21 (lo := (-2147483648)) (hi := 2147483647) h82 ⟨by decide, by decide⟩ rg_full dX12_holds_136 (fun x87 k86 h85 => ?_)
                refine lv_icmp_eq (tgt := 142) hx hb dX12_holds_137 (by decide) (fun c88 => ?_) (fun c88 => ?_)
                · have q89 : x80.toInt = x87.toInt := ti_eq c88
                  have h90 : iv 0 99990 x87 := ⟨by have := (h_x80).1; have := (h85).1; omega, by have := (h_x80).2; have := (h85).2; omega⟩
                  refine lv_aload_n hx hb dX12_holds_142 rfl (lv_at hl 3 rfl) ?_
                  refine tw_goi hS (md_runV (As := []) (rest := []) hx hb hml hown hW hK hT hS.1 (t_X12_settles_ l D cy tx base Z K N M51 R17 J76 hS.2.1 a0 hz_a0 hk_a0) s_X12_399 ⟨rfl, rfl, ⟨Nat.le_of_ble_eq_true rfl, Nat.le_of_ble_eq_true rfl⟩, ⟨Nat.le_of_ble_eq_true rfl, Nat.le_of_ble_eq_true rfl⟩⟩ hz_a0 hk_a0 (by decide) rfl rfl hl.1 rfl (Nat.le_of_ble_eq_true rfl) dX12_holds_143) rfl rfl (fun x97 H locs M94 R95 J93 hS f91 g92 E96 => ?_)
                  have eR95 := Fr.nil g92 rfl
                  subst eR95
                  have h_x97 := E96
                  clear E96
                  refine lv_pop hx hb dX12_holds_146 rfl ?_
                  refine tw_iinc (lv' := fun x100 => [(4, .int x100), (5, .int x36), (3, .int x1), (0, .ref (base + a0)), (1, .int a1), (2, .int a2)]) (lo := 1) (hi := 12) hx hb dX12_holds_147 hl (k := 1) rfl h29 (by decide) ⟨by decide, by decide⟩ ⟨by decide, by decide⟩ (by decide) (fun _ => rfl) (fun x100 ls e99 h98 hl => ?_)
                  refine lv_goto (tgt := 55) hx hb dX12_holds_150 (by decide) ?_
                  have hm101 : 12 - x100.toInt < (n_16 : Int) := by
                    have := (h_a1).1; have := (h_a1).2; have := (h_a2).1; have := (h_a2).2; have := (h98).1; have := (h98).2; have := (h29).1; have := (h29).2; have := (h31).1; have := (h31).2; omega
                  exact ih_16 x100 M94 R17 J93 H locs _ (iv_mono h98 (by decide) (by decide)) hm101 hS (lv_sub hl [0, 2, 3, 4, 5] rfl)
                · have q102 : ¬ x80.toInt = x87.toInt := ti_ne c88
                  refine lv_iconst (v := 0) hx hb dX12_holds_140 (by decide) ?_
                  exact tw_endz hx hb hr hlocks hK hT hS hQ rfl ((iv_mono (iv_c (c := 0) (n := 0) (by decide)) (by decide) (by decide))) dX12_holds_141
        have hm103 : 12 - (0 : Int32).toInt < (((13 : Nat) : Int) : Int) := by
          have := (h_a1).1; have := (h_a1).2; have := (h_a2).1; have := (h_a2).2; have : (0 : Int32).toInt = 0 := (by decide); omega
        exact W55_16 13 0 M3 R4 J5 H locs _ (iv_mono (iv_c (c := 0) (n := 0) (by decide)) (by decide) (by decide)) hm103 hS hl
      · have q104 : x2.toInt < x12.toInt := ti_nle c13
        have h105 : iv 0 9 x2 := iv_ltL (y := x12) h_x2 h10 q104 (by decide)
        have h106 : iv 1 10 x12 := iv_gtL (y := x2) h10 h_x2 q104 (by decide)
        refine lv_aload_n hx hb dX12_holds_16 rfl (lv_at hl 2 rfl) ?_
        refine tw_getr hx hb hW hown hK hS f_X12_102_11 hz_a0 hk_a0 (t := 14) (n := 10) rfl dX12_holds_17 (fun b107 k108 hz_b107 hk_b107 hn_b107 => ?_)
        have hn_b107 := hn_b107 (by decide)
        refine lv_iload hx hb dX12_holds_20 (lv_at hl 1 rfl) ?_
        refine lv_iconst (v := 1) hx hb dX12_holds_22 (by decide) ?_
        refine lv_iload_n hx hb dX12_holds_23 rfl (lv_at hl 0 rfl) ?_
        refine lv_iload_n hx hb dX12_holds_24 rfl (lv_at hl 4 rfl) ?_
        refine tw_irem (lo := 0) (hi := 5) hx hb h_x1 h_a2 ⟨by decide, by decide⟩ ⟨by decide, by decide⟩ dX12_holds_25 (fun x111 e110 h109 => ?_)
        refine tw_iadd (lo := 1) (hi := 6) hx hb (iv_c (c := 1) (n := 1) (by decide)) h109 ⟨by decide, by decide⟩ ⟨by decide, by decide⟩ dX12_holds_26 (fun x114 e113 h112 => ?_)
        have e113 : x114.toInt = 1 + x111.toInt := e113
        refine tw_iast hx hb hK hS hz_b107 hk_b107 (Or.inl rfl) hn_b107 h105 ⟨by decide, by decide⟩ h112 (rg_s14 ⟨by decide, by decide⟩) (jl := 0) (jh := 1999999) ⟨by decide, by decide⟩ rfl dX12_holds_27 (fun H locs M117 hS k115 f116 => ?_)
        refine lv_aload_n hx hb dX12_holds_28 rfl (lv_at hl 2 rfl) ?_
        refine tw_getr hx hb hW hown hK hS f_X12_51_11 hz_a0 hk_a0 (t := 30) (n := 10) rfl dX12_holds_29 (fun b118 k119 hz_b118 hk_b118 hn_b118 => ?_)
        have hn_b118 := hn_b118 (by decide)
        refine lv_iload hx hb dX12_holds_32 (lv_at hl 1 rfl) ?_
        refine lv_aload_n hx hb dX12_holds_34 rfl (lv_at hl 2 rfl) ?_
        refine tw_getrk hx hb hW hown hK hS f_X12_102_11 hz_a0 hk_a0 (b := b107) k108 dX12_holds_35 ?_
        refine lv_iload hx hb dX12_holds_38 (lv_at hl 1 rfl) ?_
        refine tw_ialk hx hb hK hS hz_b107 hk_b107 (Or.inl rfl) hn_b107 h105 ⟨by decide, by decide⟩ (v := x114) k115 dX12_holds_40 ?_
        refine tw_iast hx hb hK hS hz_b118 hk_b118 (Or.inr (by decide)) hn_b118 h105 ⟨by decide, by decide⟩ h112 (rg_s30 ⟨by decide, by decide⟩) (jl := 0) (jh := 1999999) ⟨by decide, by decide⟩ rfl dX12_holds_41 (fun H locs M122 hS k120 f121 => ?_)
        refine lv_iload_n hx hb dX12_holds_42 rfl (lv_at hl 0 rfl) ?_
        refine lv_iload_n hx hb dX12_holds_43 rfl (lv_at hl 4 rfl) ?_
        refine tw_idiv (lo := 0) (hi := 2147483647) hx hb h_x1 h_a2 ⟨by decide, by decide⟩ ⟨by decide, by decide⟩ dX12_holds_44 (fun x125 e124 h123 => ?_)
        refine lv_istore_n (lv' := [(3, .int x125), (4, .int x2), (0, .ref (base + a0)), (1, .int a1), (2, .int a2)]) hx hb dX12_holds_45 rfl hl (by decide) rfl (fun ls hl => ?_)
        refine tw_iinc (lv' := fun x128 => [(4, .int x128), (3, .int x125), (0, .ref (base + a0)), (1, .int a1), (2, .int a2)]) (lo := 1) (hi := 10) hx hb dX12_holds_46 hl (k := 1) rfl h105 (by decide) ⟨by decide, by decide⟩ ⟨by decide, by decide⟩ (by decide) (fun _ => rfl) (fun x128 ls e127 h126 hl => ?_)
        refine lv_goto (tgt := 5) hx hb dX12_holds_49 (by decide) ?_
        have hm129 : 10 - x128.toInt < (n_3 : Int) := by
          have := (h_a1).1; have := (h_a1).2; have := (h_a2).1; have := (h_a2).2; have := (h126).1; have := (h126).2; have := (h105).1; have := (h105).2; omega
        exact ih_3 x125 x128 M122 R4 J5 H locs _ h123 (iv_mono h126 (by decide) (by decide)) hm129 hS (lv_sub hl [1, 0, 2, 3, 4] rfl)
  have hm130 : 10 - (0 : Int32).toInt < (((11 : Nat) : Int) : Int) := by
    have := (h_a1).1; have := (h_a1).2; have := (h_a2).1; have := (h_a2).2; have : (0 : Int32).toInt = 0 := (by decide); omega
  exact W5_3 11 a1 0 Ma Ra Ja s.heap [] _ h_a1 (iv_mono (iv_c (c := 0) (n := 0) (by decide)) (by decide) (by decide)) hm130 hS (lv_sub hl [1, 0, 2, 3, 4] rfl)
def Lt_X12_waysOf : WL := []
def LRt_X12_waysOf : WL := []
set_option maxRecDepth 100000 in
set_option maxHeartbeats 4000000 in
theorem t_X12_waysOf (l : Launch) (D : va_G) (cy : Nat → ClassId) (tx : (Nat → Nat) × (Nat → Nat)) (base Z : Nat) (K N : Nat → Nat) (Ma : MT) (Ra : RT) (Ja : JT) (hTy : Ty Z K N Ma Ra) (a0 : Nat) (hz_a0 : a0 < Z) (hk_a0 : K a0 = 12) (a1 : Int32) (h_a1 : iv 1 6 a1) : Met l yX12_waysOf [Cond.code yX12_waysOf cX12_waysOf 4 (some .int)] (md_rm 1 0 0) (va_Pc [.ref (base + a0), .int a1] (md_U D cy tx base Z K N Ma Ra Ja)) (mQi D cy tx base (fun r u => TP Z K N Lt_X12_waysOf LRt_X12_waysOf Ma Ra u ∧ (iv (-2147483648) 2147483647 r))) 0 0 (fun q => base ≤ q) := by
  refine tw_ofW (L := Lt_X12_waysOf) (LR := LRt_X12_waysOf) (by decide) (Nat.le_of_ble_eq_true rfl) hTy ?_
  intro p e s m args below meth c Q ls hx hb hr hlocks hown hml hW hK hT hS hQ hl
  have hl : lv_has ls 4 [(0, .ref (base + a0)), (1, .int a1)] := hl
  refine lv_iconst (v := 1) hx hb dX12_waysOf_0 (by decide) ?_
  refine lv_istore_n (lv' := [(2, .int 1), (0, .ref (base + a0)), (1, .int a1)]) hx hb dX12_waysOf_1 rfl hl (by decide) rfl (fun ls hl => ?_)
  refine lv_iconst (v := 0) hx hb dX12_waysOf_2 (by decide) ?_
  refine lv_istore_n (lv' := [(3, .int 0), (2, .int 1), (0, .ref (base + a0)), (1, .int a1)]) hx hb dX12_waysOf_3 rfl hl (by decide) rfl (fun ls hl => ?_)
  have W4_3 : ∀ (n_3 : Nat) (x1 : Int32) (x2 : Int32) (M3 : MT) (R4 : RT) (J5 : JT) (H : Heap) (locs : List Loc) (ls : Array Slot) (h_x1 : iv (-2147483648) 2147483647 x1) (h_x2 : iv 0 10 x2) (hm_3 : 10 - x2.toInt < (n_3 : Int)) (hS : SB D cy base Z K N Lt_X12_waysOf LRt_X12_waysOf Ma Ra M3 R4 J5 s H locs) (hl : lv_has ls 4 [(2, .int x1), (3, .int x2), (0, .ref (base + a0)), (1, .int a1)]), W p l e (md_rm 1 0 0) s m args below meth c H locs 0 0 Q (F0 m 4 ls []) := by
    intro n_3
    induction n_3 with
    | zero =>
      intro x1 x2 M3 R4 J5 H locs ls h_x1 h_x2 hm_3 hS hl
      exfalso
      have := (h_a1).1; have := (h_a1).2; have := (h_x2).1; have := (h_x2).2; omega
    | succ n_3 ih_3 =>
      intro x1 x2 M3 R4 J5 H locs ls h_x1 h_x2 hm_3 hS hl
      have f6 := hS.2.2.1
      have g7 := hS.2.2.2
      refine lv_iload_n hx hb dX12_waysOf_4 rfl (lv_at hl 1 rfl) ?_
      refine lv_aload_n hx hb dX12_waysOf_5 rfl (lv_at hl 2 rfl) ?_
      refine tw_getr hx hb hW hown hK hS f_X12_45_11 hz_a0 hk_a0 (t := 23) (n := 226) rfl dX12_waysOf_6 (fun b8 k9 hz_b8 hk_b8 hn_b8 => ?_)
      have hn_b8 := hn_b8 (by decide)
      refine lv_iconst (v := 0) hx hb dX12_waysOf_9 (by decide) ?_
      refine tw_iald hx hb hK hS hz_b8 hk_b8 (Or.inr (by decide)) hn_b8 (lo := 0) (hi := 10) (iv_c (c := 0) (n := 0) (by decide)) ⟨by decide, by decide⟩ (rg_c (k0 := 0) rfl rfl rfl) dX12_waysOf_10 (fun x12 k11 h10 => ?_)
      refine lv_icmp_ge (tgt := 24) hx hb dX12_waysOf_11 (by decide) (fun c13 => ?_) (fun c13 => ?_)
      · have q14 : x12.toInt ≤ x2.toInt := ti_le c13
        refine lv_iload_n hx hb dX12_waysOf_24 rfl (lv_at hl 0 rfl) ?_
        exact tw_endi hx hb hr hlocks hK hT hS hQ (h_x1) dX12_waysOf_25
      · have q15 : x2.toInt < x12.toInt := ti_nle c13
        have h16 : iv 0 9 x2 := iv_ltL (y := x12) h_x2 h10 q15 (by decide)
        have h17 : iv 1 10 x12 := iv_gtL (y := x2) h10 h_x2 q15 (by decide)
        refine lv_iload_n hx hb dX12_waysOf_14 rfl (lv_at hl 0 rfl) ?_
        refine lv_iload_n hx hb dX12_waysOf_15 rfl (lv_at hl 3 rfl) ?_
        refine lv_imul hx hb dX12_waysOf_16 ?_
        refine tw_top (fun x19 => ?_)
        have h18 := iv_any x19
        refine lv_istore_n (lv' := [(2, .int x19), (3, .int x2), (0, .ref (base + a0)), (1, .int a1)]) hx hb dX12_waysOf_17 rfl hl (by decide) rfl (fun ls hl => ?_)
        refine tw_iinc (lv' := fun x22 => [(3, .int x22), (2, .int x19), (0, .ref (base + a0)), (1, .int a1)]) (lo := 1) (hi := 10) hx hb dX12_waysOf_18 hl (k := 1) rfl h16 (by decide) ⟨by decide, by decide⟩ ⟨by decide, by decide⟩ (by decide) (fun _ => rfl) (fun x22 ls e21 h20 hl => ?_)
        refine lv_goto (tgt := 4) hx hb dX12_waysOf_21 (by decide) ?_
        have hm23 : 10 - x22.toInt < (n_3 : Int) := by
          have := (h_a1).1; have := (h_a1).2; have := (h16).1; have := (h16).2; have := (h20).1; have := (h20).2; omega
        exact ih_3 x19 x22 M3 R4 J5 H locs _ h18 (iv_mono h20 (by decide) (by decide)) hm23 hS (lv_sub hl [1, 0, 2, 3] rfl)
  have hm24 : 10 - (0 : Int32).toInt < (((11 : Nat) : Int) : Int) := by
    have := (h_a1).1; have := (h_a1).2; have : (0 : Int32).toInt = 0 := (by decide); omega
  exact W4_3 11 1 0 Ma Ra Ja s.heap [] _ (iv_mono (iv_c (c := 1) (n := 1) (by decide)) (by decide) (by decide)) (iv_mono (iv_c (c := 0) (n := 0) (by decide)) (by decide) (by decide)) hm24 hS (lv_sub hl [1, 0, 2, 3] rfl)
