def Lt_X12_chair : WL := [(12, 23, 24), (12, 28, 29), (12, 30, 33), (12, 35, 37), (14, 0, 2000000), (30, 0, 2000000), (31, 0, 2000000), (33, 0, 2000000)]
def LRt_X12_chair : WL := []
set_option maxRecDepth 100000 in
set_option maxHeartbeats 4000000 in
theorem t_X12_chair (l : Launch) (D : va_G) (cy : Nat → ClassId) (tx : (Nat → Nat) × (Nat → Nat)) (base Z : Nat) (K N : Nat → Nat) (Ma : MT) (Ra : RT) (Ja : JT) (hTy : Ty Z K N Ma Ra) (a0 : Nat) (hz_a0 : a0 < Z) (hk_a0 : K a0 = 12) (a1 : Int32) (h_a1 : iv (-2147483648) 2147483647 a1) (a2 : Int32) (h_a2 : iv (-2147483648) 2147483647 a2) (a3 : Int32) (h_a3 : iv (-2147483648) 2147483647 a3) (co_a0 : Codes Ma Ra a0) : Met l yX12_chair [Cond.code yX12_chair cX12_chair 11 (some .int)] (md_rm 6 0 0) (va_Pc [.ref (base + a0), .int a1, .int a2, .int a3] (md_U D cy tx base Z K N Ma Ra Ja)) (mQi D cy tx base (fun r u => TP Z K N Lt_X12_chair LRt_X12_chair Ma Ra u ∧ (iv (-2147483648) 2147483647 r))) 0 0 (fun q => base ≤ q) := by
  refine tw_ofW (L := Lt_X12_chair) (LR := LRt_X12_chair) (by decide) (Nat.le_of_ble_eq_true rfl) hTy ?_
  intro p e s m args below meth c Q ls hx hb hr hlocks hown hml hW hK hT hS hQ hl
  have hl : lv_has ls 11 [(0, .ref (base + a0)), (1, .int a1), (2, .int a2), (3, .int a3)] := hl
  refine lv_aload_n hx hb dX12_chair_0 rfl (lv_at hl 0 rfl) ?_
  refine tw_getr hx hb hW hown hK hS f_X12_45_11 hz_a0 hk_a0 (t := 23) (n := 226) rfl dX12_chair_1 (fun b1 k2 hz_b1 hk_b1 hn_b1 => ?_)
  have hn_b1 := hn_b1 (by decide)
  refine lv_iconst (v := 4) hx hb dX12_chair_4 (by decide) ?_
  refine tw_iald hx hb hK hS hz_b1 hk_b1 (Or.inr (by decide)) hn_b1 (lo := 0) (hi := 8) (iv_c (c := 4) (n := 4) (by decide)) ⟨by decide, by decide⟩ (rg_c (k0 := 4) rfl rfl rfl) dX12_chair_5 (fun x5 k4 h3 => ?_)
  refine lv_istore (lv' := [(4, .int x5), (0, .ref (base + a0)), (1, .int a1), (2, .int a2), (3, .int a3)]) hx hb dX12_chair_6 hl (by decide) rfl (fun ls hl => ?_)
  refine lv_aload_n hx hb dX12_chair_8 rfl (lv_at hl 1 rfl) ?_
  refine lv_iload_n hx hb dX12_chair_9 rfl (lv_at hl 2 rfl) ?_
  refine tw_goi hS (md_runV (As := [.int a1]) (rest := []) hx hb hml hown hW hK hT hS.1 (t_X12_isMember l D cy tx base Z K N Ma Ra Ja hS.2.1 a0 hz_a0 hk_a0 a1 h_a1) s_X12_319 ⟨rfl, rfl, ⟨Nat.le_of_ble_eq_true rfl, Nat.le_of_ble_eq_true rfl⟩, ⟨Nat.le_of_ble_eq_true rfl, Nat.le_of_ble_eq_true rfl⟩⟩ hz_a0 hk_a0 (by decide) rfl rfl hl.1 rfl (Nat.le_of_ble_eq_true rfl) dX12_chair_10) rfl rfl (fun x12 H locs M9 R10 J8 hS f6 g7 E11 => ?_)
  have eM9 := Fr.nil f6 rfl
  subst eM9
  have eR10 := Fr.nil g7 rfl
  subst eR10
  obtain ⟨h_x12, p13⟩ := E11
  refine lv_if_eq (tgt := 41) hx hb dX12_chair_13 (by decide) (fun c14 => ?_) (fun c14 => ?_)
  · have q15 : x12.toInt = 0 := ti_eq c14
    have h16 : iv 0 0 x12 := ⟨by have := (h_x12).1; have := ((iv_c (c := 0) (n := 0) (by decide))).1; omega, by have := (h_x12).2; have := ((iv_c (c := 0) (n := 0) (by decide))).2; omega⟩
    refine lv_ldcw hx hb hown (hW _ w_8_46 rfl) dX12_chair_41 ?_
    exact tw_endi hx hb hr hlocks hK hT hS hQ ((iv_mono (iv_c (c := (-1000000)) (n := (-1000000)) (by decide)) (by decide) (by decide))) dX12_chair_44
  · have q17 : ¬ x12.toInt = 0 := ti_ne c14
    have h18 : iv 1 1 x12 := ⟨by have := (h_x12).1; have := ((iv_c (c := 0) (n := 0) (by decide))).1; have := ((iv_c (c := 0) (n := 0) (by decide))).2; omega, by have := (h_x12).2; have := ((iv_c (c := 0) (n := 0) (by decide))).1; have := ((iv_c (c := 0) (n := 0) (by decide))).2; omega⟩
    have h19 : iv 0 9 a1 := ⟨by have := (p13 c14).1; have := (h_a1).1; omega, by have := (p13 c14).2; have := (h_a1).2; omega⟩
    refine lv_iload hx hb dX12_chair_16 (lv_at hl 0 rfl) ?_
    refine lv_i2l hx hb dX12_chair_18 rfl ?_
    refine lv_lconst (v := 1) hx hb dX12_chair_19 (by decide) ?_
    refine lv_ldc2 hx hb hown (hW _ w_8_120 rfl) dX12_chair_20 ?_
    refine tw_goi hS (md_runS (As := [.long x5.toInt64, .long 1, .long 6]) (rest := []) hx hb hml hown hW hK hT hS.1 (t_X12_in l D cy tx base Z K N Ma Ra J8 hS.2.1 (x5.toInt64) (1) (6)) s_X12_155 ⟨rfl, rfl, ⟨Nat.le_of_ble_eq_true rfl, Nat.le_of_ble_eq_true rfl⟩, ⟨Nat.le_of_ble_eq_true rfl, Nat.le_of_ble_eq_true rfl⟩⟩ rfl hl.1 rfl (Nat.le_of_ble_eq_true rfl) dX12_chair_23) rfl rfl (fun x26 H locs M23 R24 J22 hS f20 g21 E25 => ?_)
    have eM23 := Fr.nil f20 rfl
    subst eM23
    have eR24 := Fr.nil g21 rfl
    subst eR24
    obtain ⟨h_x26, p27⟩ := E25
    have p28 := p27.1
    refine lv_if_eq (tgt := 41) hx hb dX12_chair_26 (by decide) (fun c29 => ?_) (fun c29 => ?_)
    · have q30 : x26.toInt = 0 := ti_eq c29
      have q31 := p27.2 c29
      have q31 : x5.toInt < 1 ∨ 6 < x5.toInt := by rw [Int32.toInt_toInt64] at q31; exact q31
      have h32 : iv 0 0 x26 := ⟨by have := (h_x26).1; have := ((iv_c (c := 0) (n := 0) (by decide))).1; omega, by have := (h_x26).2; have := ((iv_c (c := 0) (n := 0) (by decide))).2; omega⟩
      refine lv_ldcw hx hb hown (hW _ w_8_46 rfl) dX12_chair_41 ?_
      exact tw_endi hx hb hr hlocks hK hT hS hQ ((iv_mono (iv_c (c := (-1000000)) (n := (-1000000)) (by decide)) (by decide) (by decide))) dX12_chair_44
    · have q33 : ¬ x26.toInt = 0 := ti_ne c29
      have h34 : iv 1 1 x26 := ⟨by have := (h_x26).1; have := ((iv_c (c := 0) (n := 0) (by decide))).1; have := ((iv_c (c := 0) (n := 0) (by decide))).2; omega, by have := (h_x26).2; have := ((iv_c (c := 0) (n := 0) (by decide))).1; have := ((iv_c (c := 0) (n := 0) (by decide))).2; omega⟩
      have h35 : iv 1 6 x5 := in2iv (p28 c29) ((jv_c (x := 1) (n := 1) (by decide))).1 ((jv_c (x := 6) (n := 6) (by decide))).2
      refine lv_iload_n hx hb dX12_chair_29 rfl (lv_at hl 4 rfl) ?_
      refine lv_i2l hx hb dX12_chair_30 rfl ?_
      refine lv_lconst (v := 0) hx hb dX12_chair_31 (by decide) ?_
      refine lv_iload hx hb dX12_chair_32 (lv_at hl 0 rfl) ?_
      refine lv_i2l hx hb dX12_chair_34 rfl ?_
      refine tw_goi hS (md_runS (As := [.long a3.toInt64, .long 0, .long x5.toInt64]) (rest := []) hx hb hml hown hW hK hT hS.1 (t_X12_in l D cy tx base Z K N Ma Ra J22 hS.2.1 (a3.toInt64) (0) (x5.toInt64)) s_X12_155 ⟨rfl, rfl, ⟨Nat.le_of_ble_eq_true rfl, Nat.le_of_ble_eq_true rfl⟩, ⟨Nat.le_of_ble_eq_true rfl, Nat.le_of_ble_eq_true rfl⟩⟩ rfl hl.1 rfl (Nat.le_of_ble_eq_true rfl) dX12_chair_35) rfl rfl (fun x42 H locs M39 R40 J38 hS f36 g37 E41 => ?_)
      have eM39 := Fr.nil f36 rfl
      subst eM39
      have eR40 := Fr.nil g37 rfl
      subst eR40
      obtain ⟨h_x42, p43⟩ := E41
      have p44 := p43.1
      refine lv_if_ne (tgt := 45) hx hb dX12_chair_38 (by decide) (fun c45 => ?_) (fun c45 => ?_)
      · have q46 : ¬ x42.toInt = 0 := ti_ne c45
        have h47 : iv 1 1 x42 := ⟨by have := (h_x42).1; have := ((iv_c (c := 0) (n := 0) (by decide))).1; have := ((iv_c (c := 0) (n := 0) (by decide))).2; omega, by have := (h_x42).2; have := ((iv_c (c := 0) (n := 0) (by decide))).1; have := ((iv_c (c := 0) (n := 0) (by decide))).2; omega⟩
        have h48 : iv 0 6 a3 := in2iv (p44 c45) ((jv_c (x := 0) (n := 0) (by decide))).1 ((jv_o h35)).2
        have q49 := (p44 c45).2
        rw [Int32.toInt_toInt64, Int32.toInt_toInt64] at q49
        refine lv_iconst (v := 1) hx hb dX12_chair_45 (by decide) ?_
        refine lv_istore (lv' := [(5, .int 1), (4, .int x5), (0, .ref (base + a0)), (1, .int a1), (2, .int a2), (3, .int a3)]) hx hb dX12_chair_46 hl (by decide) rfl (fun ls hl => ?_)
        refine lv_iconst (v := 0) hx hb dX12_chair_48 (by decide) ?_
        refine lv_istore (lv' := [(6, .int 0), (5, .int 1), (4, .int x5), (0, .ref (base + a0)), (1, .int a1), (2, .int a2), (3, .int a3)]) hx hb dX12_chair_49 hl (by decide) rfl (fun ls hl => ?_)
        have W51_52 : ∀ (n_52 : Nat) (x50 : Int32) (x51 : Int32) (M52 : MT) (R53 : RT) (J54 : JT) (H : Heap) (locs : List Loc) (ls : Array Slot) (h_x50 : iv (-2147483648) 2147483647 x50) (h_x51 : iv 0 6 x51) (hm_52 : 6 - x51.toInt < (n_52 : Int)) (hS : SB D cy base Z K N Lt_X12_chair LRt_X12_chair Ma Ra M52 R53 J54 s H locs) (hl : lv_has ls 11 [(5, .int x50), (6, .int x51), (4, .int x5), (0, .ref (base + a0)), (1, .int a1), (2, .int a2), (3, .int a3)]), W p l e (md_rm 6 0 0) s m args below meth c H locs 0 0 Q (F0 m 51 ls []) := by
          intro n_52
          induction n_52 with
          | zero =>
            intro x50 x51 M52 R53 J54 H locs ls h_x50 h_x51 hm_52 hS hl
            exfalso
            have := (h19).1; have := (h19).2; have := (h_a2).1; have := (h_a2).2; have := (h48).1; have := (h48).2; have := (h_x51).1; have := (h_x51).2; omega
          | succ n_52 ih_52 =>
            intro x50 x51 M52 R53 J54 H locs ls h_x50 h_x51 hm_52 hS hl
            have f55 := hS.2.2.1
            have g56 := hS.2.2.2
            refine lv_iload hx hb dX12_chair_51 (lv_at hl 1 rfl) ?_
            refine lv_iload hx hb dX12_chair_53 (lv_at hl 2 rfl) ?_
            refine lv_icmp_ge (tgt := 71) hx hb dX12_chair_55 (by decide) (fun c57 => ?_) (fun c57 => ?_)
            · have q58 : x5.toInt ≤ x51.toInt := ti_le c57
              have h59 : iv 1 6 x51 := iv_geL (y := x5) h_x51 h35 q58 (by decide)
              refine lv_iconst (v := 0) hx hb dX12_chair_71 (by decide) ?_
              refine lv_istore (lv' := [(6, .int 0), (5, .int x50), (4, .int x5), (0, .ref (base + a0)), (1, .int a1), (2, .int a2), (3, .int a3)]) hx hb dX12_chair_72 hl (by decide) rfl (fun ls hl => ?_)
              refine lv_iconst (v := 0) hx hb dX12_chair_74 (by decide) ?_
              refine lv_istore (lv' := [(7, .int 0), (6, .int 0), (5, .int x50), (4, .int x5), (0, .ref (base + a0)), (1, .int a1), (2, .int a2), (3, .int a3)]) hx hb dX12_chair_75 hl (by decide) rfl (fun ls hl => ?_)
              refine lv_iconst (v := 0) hx hb dX12_chair_77 (by decide) ?_
              refine lv_istore (lv' := [(8, .int 0), (7, .int 0), (6, .int 0), (5, .int x50), (4, .int x5), (0, .ref (base + a0)), (1, .int a1), (2, .int a2), (3, .int a3)]) hx hb dX12_chair_78 hl (by decide) rfl (fun ls hl => ?_)
              have W80_63 : ∀ (n_63 : Nat) (x60 : Int32) (x61 : Int32) (x62 : Int32) (M63 : MT) (R64 : RT) (J65 : JT) (H : Heap) (locs : List Loc) (ls : Array Slot) (h_x60 : iv 0 1 x60) (h_x61 : iv (-2147483648) 2147483647 x61) (h_x62 : iv 0 2147483647 x62) (hm_63 : 2147483647 - x62.toInt < (n_63 : Int)) (hS : SB D cy base Z K N Lt_X12_chair LRt_X12_chair Ma Ra M63 R64 J65 s H locs) (hl : lv_has ls 11 [(6, .int x60), (7, .int x61), (8, .int x62), (5, .int x50), (4, .int x5), (0, .ref (base + a0)), (1, .int a1), (2, .int a2), (3, .int a3)]), W p l e (md_rm 6 0 0) s m args below meth c H locs 0 0 Q (F0 m 80 ls []) := by
                intro n_63
                induction n_63 with
                | zero =>
                  intro x60 x61 x62 M63 R64 J65 H locs ls h_x60 h_x61 h_x62 hm_63 hS hl
                  exfalso
                  have := (h19).1; have := (h19).2; have := (h_a2).1; have := (h_a2).2; have := (h48).1; have := (h48).2; have := (h_x62).1; have := (h_x62).2; omega
                | succ n_63 ih_63 =>
                  intro x60 x61 x62 M63 R64 J65 H locs ls h_x60 h_x61 h_x62 hm_63 hS hl
                  have f66 := hS.2.2.1
                  have g67 := hS.2.2.2
                  refine lv_iload hx hb dX12_chair_80 (lv_at hl 2 rfl) ?_
                  refine lv_iload hx hb dX12_chair_82 (lv_at hl 3 rfl) ?_
                  refine lv_icmp_ge (tgt := 260) hx hb dX12_chair_84 (by decide) (fun c68 => ?_) (fun c68 => ?_)
                  · have q69 : x50.toInt ≤ x62.toInt := ti_le c68
                    refine lv_iload_n hx hb dX12_chair_260 rfl (lv_at hl 8 rfl) ?_
                    refine lv_if_ne (tgt := 269) hx hb dX12_chair_261 (by decide) (fun c70 => ?_) (fun c70 => ?_)
                    · have q71 : ¬ a3.toInt = 0 := ti_ne c70
                      have h72 : iv 1 6 a3 := ⟨by have := (h48).1; have := ((iv_c (c := 0) (n := 0) (by decide))).1; have := ((iv_c (c := 0) (n := 0) (by decide))).2; omega, by have := (h48).2; have := ((iv_c (c := 0) (n := 0) (by decide))).1; have := ((iv_c (c := 0) (n := 0) (by decide))).2; omega⟩
                      refine lv_aload_n hx hb dX12_chair_269 rfl (lv_at hl 5 rfl) ?_
                      refine tw_getr hx hb hW hown hK hS f_X12_87_11 hz_a0 hk_a0 (t := 14) (n := 6) rfl dX12_chair_270 (fun b73 k74 hz_b73 hk_b73 hn_b73 => ?_)
                      have hn_b73 := hn_b73 (by decide)
                      refine lv_iload_n hx hb dX12_chair_273 rfl (lv_at hl 8 rfl) ?_
                      refine lv_iconst (v := 1) hx hb dX12_chair_274 (by decide) ?_
                      refine tw_isub (lo := 0) (hi := 5) hx hb h72 (iv_c (c := 1) (n := 1) (by decide)) ⟨by decide, by decide⟩ ⟨by decide, by decide⟩ dX12_chair_275 (fun x77 e76 h75 => ?_)
                      have e76 : x77.toInt = a3.toInt - 1 := e76
                      refine tw_iald hx hb hK hS hz_b73 hk_b73 (Or.inl rfl) hn_b73 (lo := (-2147483648)) (hi := 2147483647) h75 ⟨by decide, by decide⟩ rg_u14 dX12_chair_276 (fun x80 k79 h78 => ?_)
                      exact tw_endi hx hb hr hlocks hK hT hS hQ (h78) dX12_chair_277
                    · have q81 : a3.toInt = 0 := ti_eq c70
                      have h82 : iv 0 0 a3 := ⟨by have := (h48).1; have := ((iv_c (c := 0) (n := 0) (by decide))).1; omega, by have := (h48).2; have := ((iv_c (c := 0) (n := 0) (by decide))).2; omega⟩
                      refine lv_iload hx hb dX12_chair_264 (lv_at hl 1 rfl) ?_
                      refine lv_goto (tgt := 277) hx hb dX12_chair_266 (by decide) ?_
                      exact tw_endi hx hb hr hlocks hK hT hS hQ (h_x61) dX12_chair_277
                  · have q83 : x62.toInt < x50.toInt := ti_nle c68
                    have h84 : iv 0 2147483646 x62 := iv_ltL (y := x50) h_x62 h_x50 q83 (by decide)
                    have h85 : iv 1 2147483647 x50 := iv_gtL (y := x62) h_x50 h_x62 q83 (by decide)
                    refine lv_aload_n hx hb dX12_chair_87 rfl (lv_at hl 5 rfl) ?_
                    refine lv_iload hx hb dX12_chair_88 (lv_at hl 2 rfl) ?_
                    refine lv_iload hx hb dX12_chair_90 (lv_at hl 4 rfl) ?_
                    refine tw_goi hS (md_runV (As := [.int x62, .int x5]) (rest := []) hx hb hml hown hW hK hT hS.1 (t_X12_isRow l D cy tx base Z K N M63 R64 J65 hS.2.1 a0 hz_a0 hk_a0 x62 (iv_mono h84 (by decide) (by decide)) x5 h35) s_X12_472 ⟨rfl, rfl, ⟨Nat.le_of_ble_eq_true rfl, Nat.le_of_ble_eq_true rfl⟩, ⟨Nat.le_of_ble_eq_true rfl, Nat.le_of_ble_eq_true rfl⟩⟩ hz_a0 hk_a0 (by decide) rfl rfl hl.1 rfl (Nat.le_of_ble_eq_true rfl) dX12_chair_92) rfl rfl (fun x92 H locs M89 R90 J88 hS f86 g87 E91 => ?_)
                    have eR90 := Fr.nil g87 rfl
                    subst eR90
                    have h_x92 := E91
                    clear E91
                    refine lv_if_ne (tgt := 101) hx hb dX12_chair_95 (by decide) (fun c93 => ?_) (fun c93 => ?_)
                    · have q94 : ¬ x92.toInt = 0 := ti_ne c93
                      have h95 : iv 1 1 x92 := ⟨by have := (h_x92).1; have := ((iv_c (c := 0) (n := 0) (by decide))).1; have := ((iv_c (c := 0) (n := 0) (by decide))).2; omega, by have := (h_x92).2; have := ((iv_c (c := 0) (n := 0) (by decide))).1; have := ((iv_c (c := 0) (n := 0) (by decide))).2; omega⟩
                      refine lv_aload_n hx hb dX12_chair_101 rfl (lv_at hl 5 rfl) ?_
                      have k96 : R64 a0 25 = some b1 := (Fr.kp (k := 25) g67 hk_a0 rfl).trans k2
                      have k97 : M89 b1 (4 : Int32).toNatClampNeg = x5 := ((Fr.kp (k := (4 : Int32).toNatClampNeg) f86 hk_b1 rfl).trans (Fr.kp (k := (4 : Int32).toNatClampNeg) f66 hk_b1 rfl)).trans k4
                      refine tw_gov hS (md_runV (As := []) (rest := []) hx hb hml hown hW hK hT hS.1 (t_X12_begins l D cy tx base Z K N M89 R64 J88 hS.2.1 a0 hz_a0 hk_a0 b1 k96 x5 k97 (iv_mono h35 (by decide) (by decide))) s_X12_393 ⟨rfl, rfl, ⟨Nat.le_of_ble_eq_true rfl, Nat.le_of_ble_eq_true rfl⟩, ⟨Nat.le_of_ble_eq_true rfl, Nat.le_of_ble_eq_true rfl⟩⟩ hz_a0 hk_a0 (by decide) rfl rfl hl.1 rfl (Nat.le_of_ble_eq_true rfl) dX12_chair_102) rfl rfl (fun H locs M101 R102 J100 hS f98 g99 E103 => ?_)
                      have eR102 := Fr.nil g99 rfl
                      subst eR102
                      have p104 := E103
                      clear E103
                      have k105 : M101 a0 30 = x5 := p104
                      refine lv_iconst (v := 0) hx hb dX12_chair_105 (by decide) ?_
                      refine lv_istore (lv' := [(9, .int 0), (6, .int x60), (7, .int x61), (8, .int x62), (5, .int x50), (4, .int x5), (0, .ref (base + a0)), (1, .int a1), (2, .int a2), (3, .int a3)]) hx hb dX12_chair_106 hl (by decide) rfl (fun ls hl => ?_)
                      have W108_107 : ∀ (n_107 : Nat) (x106 : Int32) (x112 : Int32) (M107 : MT) (R108 : RT) (J109 : JT) (H : Heap) (locs : List Loc) (ls : Array Slot) (h_x106 : iv 0 6 x106) (h_x112 : iv 1 6 x112) (k113 : M107 a0 30 = x112) (hm_107 : 6 - x106.toInt < (n_107 : Int)) (hS : SB D cy base Z K N Lt_X12_chair LRt_X12_chair Ma Ra M107 R108 J109 s H locs) (hl : lv_has ls 11 [(9, .int x106), (6, .int x60), (7, .int x61), (8, .int x62), (5, .int x50), (4, .int x5), (0, .ref (base + a0)), (1, .int a1), (2, .int a2), (3, .int a3)]), W p l e (md_rm 6 0 0) s m args below meth c H locs 0 0 Q (F0 m 108 ls []) := by
                        intro n_107
                        induction n_107 with
                        | zero =>
                          intro x106 x112 M107 R108 J109 H locs ls h_x106 h_x112 k113 hm_107 hS hl
                          exfalso
                          have := (h19).1; have := (h19).2; have := (h_a2).1; have := (h_a2).2; have := (h48).1; have := (h48).2; have := (h_x106).1; have := (h_x106).2; omega
                        | succ n_107 ih_107 =>
                          intro x106 x112 M107 R108 J109 H locs ls h_x106 h_x112 k113 hm_107 hS hl
                          have f110 := hS.2.2.1
                          have g111 := hS.2.2.2
                          refine lv_iload hx hb dX12_chair_108 (lv_at hl 0 rfl) ?_
                          refine lv_iload hx hb dX12_chair_110 (lv_at hl 5 rfl) ?_
                          refine lv_icmp_ge (tgt := 144) hx hb dX12_chair_112 (by decide) (fun c114 => ?_) (fun c114 => ?_)
                          · have q115 : x5.toInt ≤ x106.toInt := ti_le c114
                            have h116 : iv 1 6 x106 := iv_geL (y := x5) h_x106 h35 q115 (by decide)
                            refine lv_aload_n hx hb dX12_chair_144 rfl (lv_at hl 6 rfl) ?_
                            refine lv_iconst (v := 0) hx hb dX12_chair_145 (by decide) ?_
                            refine tw_puti hx hb hW hown hK hS f_X12_410_11 hz_a0 hk_a0 rfl rfl (lo := (-2147483648)) (hi := 2147483647) rfl (iv_mono (iv_c (c := 0) (n := 0) (by decide)) (by decide) (by decide)) rfl dX12_chair_146 (fun H locs M119 hS k117 f118 => ?_)
                            refine lv_aload_n hx hb dX12_chair_149 rfl (lv_at hl 6 rfl) ?_
                            refine lv_iload_n hx hb dX12_chair_150 rfl (lv_at hl 7 rfl) ?_
                            refine tw_gov hS (md_runV (As := [.int a1]) (rest := []) hx hb hml hown hW hK hT hS.1 (t_X12_passes l D cy tx base Z K N M119 R108 J109 hS.2.1 a0 hz_a0 hk_a0 a1 h19 (Codes.fr co_a0 hTy hz_a0 hk_a0 hS.2.2.1 hS.2.2.2 rfl)) s_X12_417 ⟨rfl, rfl, ⟨Nat.le_of_ble_eq_true rfl, Nat.le_of_ble_eq_true rfl⟩, ⟨Nat.le_of_ble_eq_true rfl, Nat.le_of_ble_eq_true rfl⟩⟩ hz_a0 hk_a0 (by decide) rfl rfl hl.1 rfl (Nat.le_of_ble_eq_true rfl) dX12_chair_151) rfl rfl (fun H locs M123 R124 J122 hS f120 g121 E125 => ?_)
                            have eR124 := Fr.nil g121 rfl
                            subst eR124
                            refine lv_iload hx hb dX12_chair_154 (lv_at hl 1 rfl) ?_
                            have J200_126 : ∀  (M126 : MT) (R127 : RT) (J128 : JT) (H : Heap) (locs : List Loc) (ls : Array Slot) (hS : SB D cy base Z K N Lt_X12_chair LRt_X12_chair Ma Ra M126 R127 J128 s H locs) (hl : lv_has ls 11 [(9, .int x106), (6, .int x60), (7, .int x61), (8, .int x62), (5, .int x50), (4, .int x5), (0, .ref (base + a0)), (1, .int a1), (2, .int a2), (3, .int a3)]), W p l e (md_rm 6 0 0) s m args below meth c H locs 0 0 Q (F0 m 200 ls []) := by
                              intro  M126 R127 J128 H locs ls  hS hl
                              have f129 := hS.2.2.1
                              have g130 := hS.2.2.2
                              refine lv_iconst (v := 1) hx hb dX12_chair_200 (by decide) ?_
                              refine lv_goto (tgt := 205) hx hb dX12_chair_201 (by decide) ?_
                              refine lv_istore (lv' := [(9, .int 1), (6, .int x60), (7, .int x61), (8, .int x62), (5, .int x50), (4, .int x5), (0, .ref (base + a0)), (1, .int a1), (2, .int a2), (3, .int a3)]) hx hb dX12_chair_205 hl (by decide) rfl (fun ls hl => ?_)
                              refine lv_iload hx hb dX12_chair_207 (lv_at hl 0 rfl) ?_
                              refine lv_if_ne (tgt := 215) hx hb dX12_chair_209 (by decide) (fun _ => ?_) (fun h => absurd h (by decide))
                              refine lv_iconst (v := 1) hx hb dX12_chair_215 (by decide) ?_
                              refine lv_istore (lv' := [(6, .int 1), (9, .int 1), (7, .int x61), (8, .int x62), (5, .int x50), (4, .int x5), (0, .ref (base + a0)), (1, .int a1), (2, .int a2), (3, .int a3)]) hx hb dX12_chair_216 hl (by decide) rfl (fun ls hl => ?_)
                              refine lv_aload_n hx hb dX12_chair_218 rfl (lv_at hl 6 rfl) ?_
                              refine tw_geti hx hb hW hown hK hS f_X12_410_11 hz_a0 hk_a0 (lo := (-2147483648)) (hi := 2147483647) rfl dX12_chair_219 (fun x133 k132 h131 => ?_)
                              refine lv_istore (lv' := [(7, .int x133), (6, .int 1), (9, .int 1), (8, .int x62), (5, .int x50), (4, .int x5), (0, .ref (base + a0)), (1, .int a1), (2, .int a2), (3, .int a3)]) hx hb dX12_chair_222 hl (by decide) rfl (fun ls hl => ?_)
                              refine lv_iconst (v := 0) hx hb dX12_chair_224 (by decide) ?_
                              refine lv_istore (lv' := [(10, .int 0), (7, .int x133), (6, .int 1), (9, .int 1), (8, .int x62), (5, .int x50), (4, .int x5), (0, .ref (base + a0)), (1, .int a1), (2, .int a2), (3, .int a3)]) hx hb dX12_chair_225 hl (by decide) rfl (fun ls hl => ?_)
                              have W227_135 : ∀ (n_135 : Nat) (x134 : Int32) (M135 : MT) (R136 : RT) (J137 : JT) (H : Heap) (locs : List Loc) (ls : Array Slot) (h_x134 : iv 0 6 x134) (hm_135 : 6 - x134.toInt < (n_135 : Int)) (hS : SB D cy base Z K N Lt_X12_chair LRt_X12_chair Ma Ra M135 R136 J137 s H locs) (hl : lv_has ls 11 [(10, .int x134), (7, .int x133), (6, .int 1), (9, .int 1), (8, .int x62), (5, .int x50), (4, .int x5), (0, .ref (base + a0)), (1, .int a1), (2, .int a2), (3, .int a3)]), W p l e (md_rm 6 0 0) s m args below meth c H locs 0 0 Q (F0 m 227 ls []) := by
                                intro n_135
                                induction n_135 with
                                | zero =>
                                  intro x134 M135 R136 J137 H locs ls h_x134 hm_135 hS hl
                                  exfalso
                                  have := (h19).1; have := (h19).2; have := (h_a2).1; have := (h_a2).2; have := (h48).1; have := (h48).2; have := (h_x134).1; have := (h_x134).2; omega
                                | succ n_135 ih_135 =>
                                  intro x134 M135 R136 J137 H locs ls h_x134 hm_135 hS hl
                                  have f138 := hS.2.2.1
                                  have g139 := hS.2.2.2
                                  refine lv_iload hx hb dX12_chair_227 (lv_at hl 0 rfl) ?_
                                  refine lv_iload hx hb dX12_chair_229 (lv_at hl 6 rfl) ?_
                                  refine lv_icmp_ge (tgt := 254) hx hb dX12_chair_231 (by decide) (fun c140 => ?_) (fun c140 => ?_)
                                  · have q141 : x5.toInt ≤ x134.toInt := ti_le c140
                                    have h142 : iv 1 6 x134 := iv_geL (y := x5) h_x134 h35 q141 (by decide)
                                    refine tw_iinc (lv' := fun x145 => [(8, .int x145), (10, .int x134), (7, .int x133), (6, .int 1), (9, .int 1), (5, .int x50), (4, .int x5), (0, .ref (base + a0)), (1, .int a1), (2, .int a2), (3, .int a3)]) (lo := 1) (hi := 2147483647) hx hb dX12_chair_254 hl (k := 4) rfl h84 (by decide) ⟨by decide, by decide⟩ ⟨by decide, by decide⟩ (by decide) (fun _ => rfl) (fun x145 ls e144 h143 hl => ?_)
                                    refine lv_goto (tgt := 80) hx hb dX12_chair_257 (by decide) ?_
                                    have hm146 : 2147483647 - x145.toInt < (n_63 : Int) := by
                                      have := (h19).1; have := (h19).2; have := (h_a2).1; have := (h_a2).2; have := (h48).1; have := (h48).2; have := (h143).1; have := (h143).2; have := (h84).1; have := (h84).2; omega
                                    exact ih_63 1 x133 x145 M135 R136 J137 H locs _ (iv_mono (iv_c (c := 1) (n := 1) (by decide)) (by decide) (by decide)) h131 (iv_mono h143 (by decide) (by decide)) hm146 hS (lv_sub hl [3, 2, 0, 5, 6, 7, 8, 9, 10] rfl)
                                  · have q147 : x134.toInt < x5.toInt := ti_nle c140
                                    have h148 : iv 0 5 x134 := iv_ltL (y := x5) h_x134 h35 q147 (by decide)
                                    refine lv_aload_n hx hb dX12_chair_234 rfl (lv_at hl 7 rfl) ?_
                                    refine tw_getr hx hb hW hown hK hS f_X12_87_11 hz_a0 hk_a0 (t := 14) (n := 6) rfl dX12_chair_235 (fun b149 k150 hz_b149 hk_b149 hn_b149 => ?_)
                                    have hn_b149 := hn_b149 (by decide)
                                    refine lv_iload hx hb dX12_chair_238 (lv_at hl 0 rfl) ?_
                                    refine lv_aload_n hx hb dX12_chair_240 rfl (lv_at hl 7 rfl) ?_
                                    refine tw_getr hx hb hW hown hK hS f_X12_54_11 hz_a0 hk_a0 (t := 31) (n := 8) rfl dX12_chair_241 (fun b151 k152 hz_b151 hk_b151 hn_b151 => ?_)
                                    have hn_b151 := hn_b151 (by decide)
                                    refine lv_iload hx hb dX12_chair_244 (lv_at hl 0 rfl) ?_
                                    refine tw_iald hx hb hK hS hz_b151 hk_b151 (Or.inr (by decide)) hn_b151 (lo := 0) (hi := 11) h148 ⟨by decide, by decide⟩ rg_u31 dX12_chair_246 (fun x155 k154 h153 => ?_)
                                    refine tw_iast hx hb hK hS hz_b149 hk_b149 (Or.inl rfl) hn_b149 h148 ⟨by decide, by decide⟩ h153 (rg_s14 ⟨by decide, by decide⟩) (jl := 0) (jh := 1999999) ⟨by decide, by decide⟩ rfl dX12_chair_247 (fun H locs M158 hS k156 f157 => ?_)
                                    refine tw_iinc (lv' := fun x161 => [(10, .int x161), (7, .int x133), (6, .int 1), (9, .int 1), (8, .int x62), (5, .int x50), (4, .int x5), (0, .ref (base + a0)), (1, .int a1), (2, .int a2), (3, .int a3)]) (lo := 1) (hi := 6) hx hb dX12_chair_248 hl (k := 0) rfl h148 (by decide) ⟨by decide, by decide⟩ ⟨by decide, by decide⟩ (by decide) (fun _ => rfl) (fun x161 ls e160 h159 hl => ?_)
                                    refine lv_goto (tgt := 227) hx hb dX12_chair_251 (by decide) ?_
                                    have hm162 : 6 - x161.toInt < (n_135 : Int) := by
                                      have := (h19).1; have := (h19).2; have := (h_a2).1; have := (h_a2).2; have := (h48).1; have := (h48).2; have := (h148).1; have := (h148).2; have := (h159).1; have := (h159).2; omega
                                    exact ih_135 x161 M158 R136 J137 H locs _ (iv_mono h159 (by decide) (by decide)) hm162 hS hl
                              have hm163 : 6 - (0 : Int32).toInt < (((7 : Nat) : Int) : Int) := by
                                have := (h19).1; have := (h19).2; have := (h_a2).1; have := (h_a2).2; have := (h48).1; have := (h48).2; have : (0 : Int32).toInt = 0 := (by decide); omega
                              exact W227_135 7 0 M126 R127 J128 H locs _ (iv_mono (iv_c (c := 0) (n := 0) (by decide)) (by decide) (by decide)) hm163 hS hl
                            refine lv_if_eq (tgt := 200) hx hb dX12_chair_156 (by decide) (fun c164 => ?_) (fun c164 => ?_)
                            · have q165 : x60.toInt = 0 := ti_eq c164
                              have h166 : iv 0 0 x60 := ⟨by have := (h_x60).1; have := ((iv_c (c := 0) (n := 0) (by decide))).1; omega, by have := (h_x60).2; have := ((iv_c (c := 0) (n := 0) (by decide))).2; omega⟩
                              exact J200_126  M123 R108 J122 H locs _  hS hl
                            · have q167 : ¬ x60.toInt = 0 := ti_ne c164
                              have h168 : iv 1 1 x60 := ⟨by have := (h_x60).1; have := ((iv_c (c := 0) (n := 0) (by decide))).1; have := ((iv_c (c := 0) (n := 0) (by decide))).2; omega, by have := (h_x60).2; have := ((iv_c (c := 0) (n := 0) (by decide))).1; have := ((iv_c (c := 0) (n := 0) (by decide))).2; omega⟩
                              refine lv_iload_n hx hb dX12_chair_159 rfl (lv_at hl 8 rfl) ?_
                              refine lv_if_eq (tgt := 175) hx hb dX12_chair_160 (by decide) (fun c169 => ?_) (fun c169 => ?_)
                              · have q170 : a2.toInt = 0 := ti_eq c169
                                have h171 : iv 0 0 a2 := ⟨by have := (h_a2).1; have := ((iv_c (c := 0) (n := 0) (by decide))).1; omega, by have := (h_a2).2; have := ((iv_c (c := 0) (n := 0) (by decide))).2; omega⟩
                                refine lv_aload_n hx hb dX12_chair_175 rfl (lv_at hl 6 rfl) ?_
                                refine tw_geti hx hb hW hown hK hS f_X12_410_11 hz_a0 hk_a0 (lo := (-2147483648)) (hi := 2147483647) rfl dX12_chair_176 (fun x174 k173 h172 => ?_)
                                refine lv_iload hx hb dX12_chair_179 (lv_at hl 2 rfl) ?_
                                refine lv_icmp_lt (tgt := 200) hx hb dX12_chair_181 (by decide) (fun c175 => ?_) (fun c175 => ?_)
                                · have q176 : x174.toInt < x61.toInt := ti_lt c175
                                  have h177 : iv (-2147483648) 2147483646 x174 := iv_ltL (y := x61) h172 h_x61 q176 (by decide)
                                  have h178 : iv (-2147483647) 2147483647 x61 := iv_gtL (y := x174) h_x61 h172 q176 (by decide)
                                  exact J200_126  M123 R108 J122 H locs _  hS hl
                                · have q179 : x61.toInt ≤ x174.toInt := ti_nlt c175
                                  refine lv_aload_n hx hb dX12_chair_184 rfl (lv_at hl 6 rfl) ?_
                                  refine tw_getk hx hb hW hown hK hS f_X12_410_11 hz_a0 hk_a0 (v := x174) k173 dX12_chair_185 ?_
                                  refine lv_iload hx hb dX12_chair_188 (lv_at hl 2 rfl) ?_
                                  have J204_180 : ∀  (M180 : MT) (R181 : RT) (J182 : JT) (H : Heap) (locs : List Loc) (ls : Array Slot) (hS : SB D cy base Z K N Lt_X12_chair LRt_X12_chair Ma Ra M180 R181 J182 s H locs) (hl : lv_has ls 11 [(9, .int x106), (6, .int x60), (7, .int x61), (8, .int x62), (5, .int x50), (4, .int x5), (0, .ref (base + a0)), (1, .int a1), (2, .int a2), (3, .int a3)]), W p l e (md_rm 6 0 0) s m args below meth c H locs 0 0 Q (F0 m 204 ls []) := by
                                    intro  M180 R181 J182 H locs ls  hS hl
                                    have f183 := hS.2.2.1
                                    have g184 := hS.2.2.2
                                    refine lv_iconst (v := 0) hx hb dX12_chair_204 (by decide) ?_
                                    refine lv_istore (lv' := [(9, .int 0), (6, .int x60), (7, .int x61), (8, .int x62), (5, .int x50), (4, .int x5), (0, .ref (base + a0)), (1, .int a1), (2, .int a2), (3, .int a3)]) hx hb dX12_chair_205 hl (by decide) rfl (fun ls hl => ?_)
                                    refine lv_iload hx hb dX12_chair_207 (lv_at hl 0 rfl) ?_
                                    refine lv_if_ne (tgt := 215) hx hb dX12_chair_209 (by decide) (fun h => absurd h (by decide)) (fun _ => ?_)
                                    refine lv_goto (tgt := 254) hx hb dX12_chair_212 (by decide) ?_
                                    refine tw_iinc (lv' := fun x187 => [(8, .int x187), (9, .int 0), (6, .int x60), (7, .int x61), (5, .int x50), (4, .int x5), (0, .ref (base + a0)), (1, .int a1), (2, .int a2), (3, .int a3)]) (lo := 1) (hi := 2147483647) hx hb dX12_chair_254 hl (k := 3) rfl h84 (by decide) ⟨by decide, by decide⟩ ⟨by decide, by decide⟩ (by decide) (fun _ => rfl) (fun x187 ls e186 h185 hl => ?_)
                                    refine lv_goto (tgt := 80) hx hb dX12_chair_257 (by decide) ?_
                                    have hm188 : 2147483647 - x187.toInt < (n_63 : Int) := by
                                      have := (h19).1; have := (h19).2; have := (h171).1; have := (h171).2; have := (h48).1; have := (h48).2; have := (h185).1; have := (h185).2; have := (h84).1; have := (h84).2; omega
                                    exact ih_63 x60 x61 x187 M180 R181 J182 H locs _ (iv_mono h168 (by decide) (by decide)) h_x61 (iv_mono h185 (by decide) (by decide)) hm188 hS (lv_sub hl [2, 3, 0, 4, 5, 6, 7, 8, 9] rfl)
                                  refine lv_icmp_ne (tgt := 204) hx hb dX12_chair_190 (by decide) (fun c189 => ?_) (fun c189 => ?_)
                                  · have q190 : ¬ x174.toInt = x61.toInt := ti_ne c189
                                    exact J204_180  M123 R108 J122 H locs _  hS hl
                                  · have q191 : x174.toInt = x61.toInt := ti_eq c189
                                    refine lv_aload_n hx hb dX12_chair_193 rfl (lv_at hl 6 rfl) ?_
                                    have k192 : M123 a0 30 = x112 := ((Fr.kp (k := 30) f120 hk_a0 rfl).trans (Fr.kp (k := 30) f118 hk_a0 rfl)).trans k113
                                    refine tw_goi hS (md_runV (As := []) (rest := []) hx hb hml hown hW hK hT hS.1 (t_X12_isAhead l D cy tx base Z K N M123 R108 J122 hS.2.1 a0 hz_a0 hk_a0 x112 k192 (iv_mono h_x112 (by decide) (by decide))) s_X12_475 ⟨rfl, rfl, ⟨Nat.le_of_ble_eq_true rfl, Nat.le_of_ble_eq_true rfl⟩, ⟨Nat.le_of_ble_eq_true rfl, Nat.le_of_ble_eq_true rfl⟩⟩ hz_a0 hk_a0 (by decide) rfl rfl hl.1 rfl (Nat.le_of_ble_eq_true rfl) dX12_chair_194) rfl rfl (fun x199 H locs M196 R197 J195 hS f193 g194 E198 => ?_)
                                    have eM196 := Fr.nil f193 rfl
                                    subst eM196
                                    have eR197 := Fr.nil g194 rfl
                                    subst eR197
                                    have h_x199 := E198
                                    clear E198
                                    refine lv_if_eq (tgt := 204) hx hb dX12_chair_197 (by decide) (fun c200 => ?_) (fun c200 => ?_)
                                    · have q201 : x199.toInt = 0 := ti_eq c200
                                      have h202 : iv 0 0 x199 := ⟨by have := (h_x199).1; have := ((iv_c (c := 0) (n := 0) (by decide))).1; omega, by have := (h_x199).2; have := ((iv_c (c := 0) (n := 0) (by decide))).2; omega⟩
                                      exact J204_180  M123 R108 J195 H locs _  hS hl
                                    · have q203 : ¬ x199.toInt = 0 := ti_ne c200
                                      have h204 : iv 1 1 x199 := ⟨by have := (h_x199).1; have := ((iv_c (c := 0) (n := 0) (by decide))).1; have := ((iv_c (c := 0) (n := 0) (by decide))).2; omega, by have := (h_x199).2; have := ((iv_c (c := 0) (n := 0) (by decide))).1; have := ((iv_c (c := 0) (n := 0) (by decide))).2; omega⟩
                                      exact J200_126  M123 R108 J195 H locs _  hS hl
                              · have q205 : ¬ a2.toInt = 0 := ti_ne c169
                                refine lv_aload_n hx hb dX12_chair_163 rfl (lv_at hl 6 rfl) ?_
                                refine tw_geti hx hb hW hown hK hS f_X12_410_11 hz_a0 hk_a0 (lo := (-2147483648)) (hi := 2147483647) rfl dX12_chair_164 (fun x208 k207 h206 => ?_)
                                refine lv_iload hx hb dX12_chair_167 (lv_at hl 2 rfl) ?_
                                refine lv_icmp_le (tgt := 184) hx hb dX12_chair_169 (by decide) (fun c209 => ?_) (fun c209 => ?_)
                                · have q210 : x208.toInt ≤ x61.toInt := ti_le c209
                                  refine lv_aload_n hx hb dX12_chair_184 rfl (lv_at hl 6 rfl) ?_
                                  refine tw_getk hx hb hW hown hK hS f_X12_410_11 hz_a0 hk_a0 (v := x208) k207 dX12_chair_185 ?_
                                  refine lv_iload hx hb dX12_chair_188 (lv_at hl 2 rfl) ?_
                                  have J204_211 : ∀  (M211 : MT) (R212 : RT) (J213 : JT) (H : Heap) (locs : List Loc) (ls : Array Slot) (hS : SB D cy base Z K N Lt_X12_chair LRt_X12_chair Ma Ra M211 R212 J213 s H locs) (hl : lv_has ls 11 [(9, .int x106), (6, .int x60), (7, .int x61), (8, .int x62), (5, .int x50), (4, .int x5), (0, .ref (base + a0)), (1, .int a1), (2, .int a2), (3, .int a3)]), W p l e (md_rm 6 0 0) s m args below meth c H locs 0 0 Q (F0 m 204 ls []) := by
                                    intro  M211 R212 J213 H locs ls  hS hl
                                    have f214 := hS.2.2.1
                                    have g215 := hS.2.2.2
                                    refine lv_iconst (v := 0) hx hb dX12_chair_204 (by decide) ?_
                                    refine lv_istore (lv' := [(9, .int 0), (6, .int x60), (7, .int x61), (8, .int x62), (5, .int x50), (4, .int x5), (0, .ref (base + a0)), (1, .int a1), (2, .int a2), (3, .int a3)]) hx hb dX12_chair_205 hl (by decide) rfl (fun ls hl => ?_)
                                    refine lv_iload hx hb dX12_chair_207 (lv_at hl 0 rfl) ?_
                                    refine lv_if_ne (tgt := 215) hx hb dX12_chair_209 (by decide) (fun h => absurd h (by decide)) (fun _ => ?_)
                                    refine lv_goto (tgt := 254) hx hb dX12_chair_212 (by decide) ?_
                                    refine tw_iinc (lv' := fun x218 => [(8, .int x218), (9, .int 0), (6, .int x60), (7, .int x61), (5, .int x50), (4, .int x5), (0, .ref (base + a0)), (1, .int a1), (2, .int a2), (3, .int a3)]) (lo := 1) (hi := 2147483647) hx hb dX12_chair_254 hl (k := 3) rfl h84 (by decide) ⟨by decide, by decide⟩ ⟨by decide, by decide⟩ (by decide) (fun _ => rfl) (fun x218 ls e217 h216 hl => ?_)
                                    refine lv_goto (tgt := 80) hx hb dX12_chair_257 (by decide) ?_
                                    have hm219 : 2147483647 - x218.toInt < (n_63 : Int) := by
                                      have := (h19).1; have := (h19).2; have := (h_a2).1; have := (h_a2).2; have := (h48).1; have := (h48).2; have := (h216).1; have := (h216).2; have := (h84).1; have := (h84).2; omega
                                    exact ih_63 x60 x61 x218 M211 R212 J213 H locs _ (iv_mono h168 (by decide) (by decide)) h_x61 (iv_mono h216 (by decide) (by decide)) hm219 hS (lv_sub hl [2, 3, 0, 4, 5, 6, 7, 8, 9] rfl)
                                  refine lv_icmp_ne (tgt := 204) hx hb dX12_chair_190 (by decide) (fun c220 => ?_) (fun c220 => ?_)
                                  · have q221 : ¬ x208.toInt = x61.toInt := ti_ne c220
                                    exact J204_211  M123 R108 J122 H locs _  hS hl
                                  · have q222 : x208.toInt = x61.toInt := ti_eq c220
                                    refine lv_aload_n hx hb dX12_chair_193 rfl (lv_at hl 6 rfl) ?_
                                    have k223 : M123 a0 30 = x112 := ((Fr.kp (k := 30) f120 hk_a0 rfl).trans (Fr.kp (k := 30) f118 hk_a0 rfl)).trans k113
                                    refine tw_goi hS (md_runV (As := []) (rest := []) hx hb hml hown hW hK hT hS.1 (t_X12_isAhead l D cy tx base Z K N M123 R108 J122 hS.2.1 a0 hz_a0 hk_a0 x112 k223 (iv_mono h_x112 (by decide) (by decide))) s_X12_475 ⟨rfl, rfl, ⟨Nat.le_of_ble_eq_true rfl, Nat.le_of_ble_eq_true rfl⟩, ⟨Nat.le_of_ble_eq_true rfl, Nat.le_of_ble_eq_true rfl⟩⟩ hz_a0 hk_a0 (by decide) rfl rfl hl.1 rfl (Nat.le_of_ble_eq_true rfl) dX12_chair_194) rfl rfl (fun x230 H locs M227 R228 J226 hS f224 g225 E229 => ?_)
                                    have eM227 := Fr.nil f224 rfl
                                    subst eM227
                                    have eR228 := Fr.nil g225 rfl
                                    subst eR228
                                    have h_x230 := E229
                                    clear E229
                                    refine lv_if_eq (tgt := 204) hx hb dX12_chair_197 (by decide) (fun c231 => ?_) (fun c231 => ?_)
                                    · have q232 : x230.toInt = 0 := ti_eq c231
                                      have h233 : iv 0 0 x230 := ⟨by have := (h_x230).1; have := ((iv_c (c := 0) (n := 0) (by decide))).1; omega, by have := (h_x230).2; have := ((iv_c (c := 0) (n := 0) (by decide))).2; omega⟩
                                      exact J204_211  M123 R108 J226 H locs _  hS hl
                                    · have q234 : ¬ x230.toInt = 0 := ti_ne c231
                                      have h235 : iv 1 1 x230 := ⟨by have := (h_x230).1; have := ((iv_c (c := 0) (n := 0) (by decide))).1; have := ((iv_c (c := 0) (n := 0) (by decide))).2; omega, by have := (h_x230).2; have := ((iv_c (c := 0) (n := 0) (by decide))).1; have := ((iv_c (c := 0) (n := 0) (by decide))).2; omega⟩
                                      exact J200_126  M123 R108 J226 H locs _  hS hl
                                · have q236 : x61.toInt < x208.toInt := ti_nle c209
                                  have h237 : iv (-2147483647) 2147483647 x208 := iv_gtL (y := x61) h206 h_x61 q236 (by decide)
                                  have h238 : iv (-2147483648) 2147483646 x61 := iv_ltL (y := x208) h_x61 h206 q236 (by decide)
                                  refine lv_goto (tgt := 200) hx hb dX12_chair_172 (by decide) ?_
                                  exact J200_126  M123 R108 J122 H locs _  hS hl
                          · have q239 : x106.toInt < x5.toInt := ti_nle c114
                            have h240 : iv 0 5 x106 := iv_ltL (y := x5) h_x106 h35 q239 (by decide)
                            refine lv_aload_n hx hb dX12_chair_115 rfl (lv_at hl 6 rfl) ?_
                            refine tw_getr hx hb hW hown hK hS f_X12_54_11 hz_a0 hk_a0 (t := 31) (n := 8) rfl dX12_chair_116 (fun b241 k242 hz_b241 hk_b241 hn_b241 => ?_)
                            have hn_b241 := hn_b241 (by decide)
                            refine lv_iload hx hb dX12_chair_119 (lv_at hl 0 rfl) ?_
                            refine lv_aload_n hx hb dX12_chair_121 rfl (lv_at hl 6 rfl) ?_
                            have k243 : R108 a0 25 = some b1 := (Fr.kp (k := 25) g111 hk_a0 rfl).trans k2
                            refine tw_getrk hx hb hW hown hK hS f_X12_45_11 hz_a0 hk_a0 (b := b1) k243 dX12_chair_122 ?_
                            refine lv_sipush (v := 170) hx hb dX12_chair_125 (by decide) ?_
                            refine lv_aload_n hx hb dX12_chair_128 rfl (lv_at hl 6 rfl) ?_
                            refine tw_getr hx hb hW hown hK hS f_X12_90_11 hz_a0 hk_a0 (t := 33) (n := 6) rfl dX12_chair_129 (fun b244 k245 hz_b244 hk_b244 hn_b244 => ?_)
                            have hn_b244 := hn_b244 (by decide)
                            refine lv_iload hx hb dX12_chair_132 (lv_at hl 0 rfl) ?_
                            refine tw_iald hx hb hK hS hz_b244 hk_b244 (Or.inr (by decide)) hn_b244 (lo := 0) (hi := 5) h240 ⟨by decide, by decide⟩ rg_u33 dX12_chair_134 (fun x248 k247 h246 => ?_)
                            refine tw_iadd (lo := 170) (hi := 175) hx hb (iv_c (c := 170) (n := 170) (by decide)) h246 ⟨by decide, by decide⟩ ⟨by decide, by decide⟩ dX12_chair_135 (fun x251 e250 h249 => ?_)
                            have e250 : x251.toInt = 170 + x248.toInt := e250
                            refine tw_iald hx hb hK hS hz_b1 hk_b1 (Or.inr (by decide)) hn_b1 (lo := 0) (hi := 11) h249 ⟨by decide, by decide⟩ (rg_so ⟨by decide, by decide⟩) dX12_chair_136 (fun x254 k253 h252 => ?_)
                            refine tw_iast hx hb hK hS hz_b241 hk_b241 (Or.inr (by decide)) hn_b241 h240 ⟨by decide, by decide⟩ h252 (rg_s31 ⟨by decide, by decide⟩) (jl := 0) (jh := 1999999) ⟨by decide, by decide⟩ rfl dX12_chair_137 (fun H locs M257 hS k255 f256 => ?_)
                            refine tw_iinc (lv' := fun x260 => [(9, .int x260), (6, .int x60), (7, .int x61), (8, .int x62), (5, .int x50), (4, .int x5), (0, .ref (base + a0)), (1, .int a1), (2, .int a2), (3, .int a3)]) (lo := 1) (hi := 6) hx hb dX12_chair_138 hl (k := 0) rfl h240 (by decide) ⟨by decide, by decide⟩ ⟨by decide, by decide⟩ (by decide) (fun _ => rfl) (fun x260 ls e259 h258 hl => ?_)
                            refine lv_goto (tgt := 108) hx hb dX12_chair_141 (by decide) ?_
                            have k261 : M257 a0 30 = x112 := (Fr.kp (k := 30) f256 hk_a0 rfl).trans k113
                            have hm262 : 6 - x260.toInt < (n_107 : Int) := by
                              have := (h19).1; have := (h19).2; have := (h_a2).1; have := (h_a2).2; have := (h48).1; have := (h48).2; have := (h240).1; have := (h240).2; have := (h258).1; have := (h258).2; omega
                            exact ih_107 x260 x112 M257 R108 J109 H locs _ (iv_mono h258 (by decide) (by decide)) h_x112 k261 hm262 hS hl
                      have hm263 : 6 - (0 : Int32).toInt < (((7 : Nat) : Int) : Int) := by
                        have := (h19).1; have := (h19).2; have := (h_a2).1; have := (h_a2).2; have := (h48).1; have := (h48).2; have : (0 : Int32).toInt = 0 := (by decide); omega
                      exact W108_107 7 0 x5 M101 R64 J100 H locs _ (iv_mono (iv_c (c := 0) (n := 0) (by decide)) (by decide) (by decide)) h35 k105 hm263 hS hl
                    · have q264 : x92.toInt = 0 := ti_eq c93
                      have h265 : iv 0 0 x92 := ⟨by have := (h_x92).1; have := ((iv_c (c := 0) (n := 0) (by decide))).1; omega, by have := (h_x92).2; have := ((iv_c (c := 0) (n := 0) (by decide))).2; omega⟩
                      refine lv_goto (tgt := 254) hx hb dX12_chair_98 (by decide) ?_
                      refine tw_iinc (lv' := fun x268 => [(8, .int x268), (6, .int x60), (7, .int x61), (5, .int x50), (4, .int x5), (0, .ref (base + a0)), (1, .int a1), (2, .int a2), (3, .int a3)]) (lo := 1) (hi := 2147483647) hx hb dX12_chair_254 hl (k := 2) rfl h84 (by decide) ⟨by decide, by decide⟩ ⟨by decide, by decide⟩ (by decide) (fun _ => rfl) (fun x268 ls e267 h266 hl => ?_)
                      refine lv_goto (tgt := 80) hx hb dX12_chair_257 (by decide) ?_
                      have hm269 : 2147483647 - x268.toInt < (n_63 : Int) := by
                        have := (h19).1; have := (h19).2; have := (h_a2).1; have := (h_a2).2; have := (h48).1; have := (h48).2; have := (h266).1; have := (h266).2; have := (h84).1; have := (h84).2; omega
                      exact ih_63 x60 x61 x268 M89 R64 J88 H locs _ h_x60 h_x61 (iv_mono h266 (by decide) (by decide)) hm269 hS (lv_sub hl [1, 2, 0, 3, 4, 5, 6, 7, 8] rfl)
              have hm270 : 2147483647 - (0 : Int32).toInt < (((2147483648 : Nat) : Int) : Int) := by
                have := (h19).1; have := (h19).2; have := (h_a2).1; have := (h_a2).2; have := (h48).1; have := (h48).2; have : (0 : Int32).toInt = 0 := (by decide); omega
              exact W80_63 2147483648 0 0 0 M52 R53 J54 H locs _ (iv_mono (iv_c (c := 0) (n := 0) (by decide)) (by decide) (by decide)) (iv_mono (iv_c (c := 0) (n := 0) (by decide)) (by decide) (by decide)) (iv_mono (iv_c (c := 0) (n := 0) (by decide)) (by decide) (by decide)) hm270 hS (lv_sub hl [2, 1, 0, 3, 4, 5, 6, 7, 8] rfl)
            · have q271 : x51.toInt < x5.toInt := ti_nle c57
              have h272 : iv 0 5 x51 := iv_ltL (y := x5) h_x51 h35 q271 (by decide)
              refine lv_iload hx hb dX12_chair_58 (lv_at hl 0 rfl) ?_
              refine lv_iload hx hb dX12_chair_60 (lv_at hl 2 rfl) ?_
              refine lv_imul hx hb dX12_chair_62 ?_
              refine tw_top (fun x274 => ?_)
              have h273 := iv_any x274
              refine lv_istore (lv' := [(5, .int x274), (6, .int x51), (4, .int x5), (0, .ref (base + a0)), (1, .int a1), (2, .int a2), (3, .int a3)]) hx hb dX12_chair_63 hl (by decide) rfl (fun ls hl => ?_)
              refine tw_iinc (lv' := fun x277 => [(6, .int x277), (5, .int x274), (4, .int x5), (0, .ref (base + a0)), (1, .int a1), (2, .int a2), (3, .int a3)]) (lo := 1) (hi := 6) hx hb dX12_chair_65 hl (k := 1) rfl h272 (by decide) ⟨by decide, by decide⟩ ⟨by decide, by decide⟩ (by decide) (fun _ => rfl) (fun x277 ls e276 h275 hl => ?_)
              refine lv_goto (tgt := 51) hx hb dX12_chair_68 (by decide) ?_
              have hm278 : 6 - x277.toInt < (n_52 : Int) := by
                have := (h19).1; have := (h19).2; have := (h_a2).1; have := (h_a2).2; have := (h48).1; have := (h48).2; have := (h275).1; have := (h275).2; have := (h272).1; have := (h272).2; omega
              exact ih_52 x274 x277 M52 R53 J54 H locs _ h273 (iv_mono h275 (by decide) (by decide)) hm278 hS (lv_sub hl [1, 0, 2, 3, 4, 5, 6] rfl)
        have hm279 : 6 - (0 : Int32).toInt < (((7 : Nat) : Int) : Int) := by
          have := (h19).1; have := (h19).2; have := (h_a2).1; have := (h_a2).2; have := (h48).1; have := (h48).2; have : (0 : Int32).toInt = 0 := (by decide); omega
        exact W51_52 7 1 0 Ma Ra J38 H locs _ (iv_mono (iv_c (c := 1) (n := 1) (by decide)) (by decide) (by decide)) (iv_mono (iv_c (c := 0) (n := 0) (by decide)) (by decide) (by decide)) hm279 hS (lv_sub hl [1, 0, 2, 3, 4, 5, 6] rfl)
      · have q280 : x42.toInt = 0 := ti_eq c45
        have q281 := p43.2 c45
        have h282 : iv 0 0 x42 := ⟨by have := (h_x42).1; have := ((iv_c (c := 0) (n := 0) (by decide))).1; omega, by have := (h_x42).2; have := ((iv_c (c := 0) (n := 0) (by decide))).2; omega⟩
        refine lv_ldcw hx hb hown (hW _ w_8_46 rfl) dX12_chair_41 ?_
        exact tw_endi hx hb hr hlocks hK hT hS hQ ((iv_mono (iv_c (c := (-1000000)) (n := (-1000000)) (by decide)) (by decide) (by decide))) dX12_chair_44
def Lt_X12_isBentHere : WL := [(12, 13, 16), (14, 0, 2000000)]
def LRt_X12_isBentHere : WL := []
set_option maxRecDepth 100000 in
set_option maxHeartbeats 4000000 in
theorem t_X12_isBentHere (l : Launch) (D : va_G) (cy : Nat → ClassId) (tx : (Nat → Nat) × (Nat → Nat)) (base Z : Nat) (K N : Nat → Nat) (Ma : MT) (Ra : RT) (Ja : JT) (hTy : Ty Z K N Ma Ra) (a0 : Nat) (hz_a0 : a0 < Z) (hk_a0 : K a0 = 12) (tb : Nat) (k_tb : Ra a0 0 = some tb) (nx : Int32) (k_nx : Ma a0 13 = nx) (h_nx : iv 0 400 nx) (tp : Int32) (k_tp : Ma a0 1 = tp) (h_tp : iv 0 400 tp) (hnt : nx.toInt ≤ tp.toInt) : Met l yX12_isBentHere [Cond.code yX12_isBentHere cX12_isBentHere 2 (some .boolean)] (md_rm 3 0 0) (va_Pc [.ref (base + a0)] (md_U D cy tx base Z K N Ma Ra Ja)) (mQi D cy tx base (fun r u => TP Z K N Lt_X12_isBentHere LRt_X12_isBentHere Ma Ra u ∧ (iv 0 1 r ∧ (∃ x0 : Int32, u.2.2.2.1 a0 13 = x0 ∧ iv 0 400 x0 ∧ (nx.toInt ≤ x0.toInt ∧ x0.toInt ≤ tp.toInt)) ∧ (r = 0 → ¬ (u.2.2.2.1 a0 14).toInt = 0)))) 0 0 (fun q => base ≤ q) := by
  refine tw_ofW (L := Lt_X12_isBentHere) (LR := LRt_X12_isBentHere) (by decide) (Nat.le_of_ble_eq_true rfl) hTy ?_
  intro p e s m args below meth c Q ls hx hb hr hlocks hown hml hW hK hT hS hQ hl
  have hl : lv_has ls 2 [(0, .ref (base + a0))] := hl
  obtain ⟨hz_tb, hk_tb, hn_tb⟩ := hTy.refn hz_a0 hk_a0 (show rtR 12 0 = (13, 400, 0) from rfl) k_tb
  have hn_tb := hn_tb (by decide)
  refine lv_aload_n hx hb dX12_isBentHere_0 rfl (lv_at hl 0 rfl) ?_
  have q1 : nx.toInt ≤ tp.toInt := by
    have := (h_nx).1; have := (h_nx).2; have := (h_tp).1; have := (h_tp).2; omega
  refine tw_gov hS (md_runV (As := []) (rest := []) hx hb hml hown hW hK hT hS.1 (t_X12_passWord l D cy tx base Z K N Ma Ra Ja hS.2.1 a0 hz_a0 hk_a0 tb k_tb nx k_nx (iv_mono h_nx (by decide) (by decide)) tp k_tp (iv_mono h_tp (by decide) (by decide)) q1) s_X12_142 ⟨rfl, rfl, ⟨Nat.le_of_ble_eq_true rfl, Nat.le_of_ble_eq_true rfl⟩, ⟨Nat.le_of_ble_eq_true rfl, Nat.le_of_ble_eq_true rfl⟩⟩ hz_a0 hk_a0 (by decide) rfl rfl hl.1 rfl (Nat.le_of_ble_eq_true rfl) dX12_isBentHere_1) rfl rfl (fun H locs M5 R6 J4 hS f2 g3 E7 => ?_)
  have eR6 := Fr.nil g3 rfl
  subst eR6
  have p8 := E7
  clear E7
  obtain ⟨x11, k9, h10, q12, z14⟩ := p8
  have k9 : M5 a0 13 = x11 := k9
  refine lv_aload_n hx hb dX12_isBentHere_4 rfl (lv_at hl 0 rfl) ?_
  refine lv_iconst (v := 0) hx hb dX12_isBentHere_5 (by decide) ?_
  refine lv_aload_n hx hb dX12_isBentHere_6 rfl (lv_at hl 0 rfl) ?_
  refine tw_geti hx hb hW hown hK hS f_X12_251_11 hz_a0 hk_a0 (lo := 0) (hi := 10) rfl dX12_isBentHere_7 (fun x17 k16 h15 => ?_)
  refine lv_iconst (v := 1) hx hb dX12_isBentHere_10 (by decide) ?_
  refine tw_isub (lo := (-1)) (hi := 9) hx hb h15 (iv_c (c := 1) (n := 1) (by decide)) ⟨by decide, by decide⟩ ⟨by decide, by decide⟩ dX12_isBentHere_11 (fun x20 e19 h18 => ?_)
  have e19 : x20.toInt = x17.toInt - 1 := e19
  have k21 : M5 a0 1 = tp := (Fr.kp (k := 1) f2 hk_a0 rfl).trans k_tp
  have q22 : x11.toInt ≤ tp.toInt := by
    have := (h_nx).1; have := (h_nx).2; have := (h_tp).1; have := (h_tp).2; have := (h10).1; have := (h10).2; omega
  obtain ⟨x25, k23⟩ : ∃ x, M5 a0 15 = x := ⟨_, rfl⟩
  have h24 : iv (-2147483648) 2147483647 x25 := by rw [← k23]; exact hS.2.1.int hz_a0 hk_a0 (show rgI 12 15 = ((-2147483648), 2147483647) from rfl)
  refine tw_goi hS (md_runV (As := [.int 0, .int x20]) (rest := []) hx hb hml hown hW hK hT hS.1 (t_X12_numberHere l D cy tx base Z K N M5 Ra J4 hS.2.1 a0 hz_a0 hk_a0 0 (iv_mono (iv_c (c := 0) (n := 0) (by decide)) (by decide) (by decide)) x20 (iv_mono h18 (by decide) (by decide)) tb k_tb x11 k9 (iv_mono h10 (by decide) (by decide)) tp k21 (iv_mono h_tp (by decide) (by decide)) q22 x25 k23 (iv_mono h24 (by decide) (by decide))) s_X12_200 ⟨rfl, rfl, ⟨Nat.le_of_ble_eq_true rfl, Nat.le_of_ble_eq_true rfl⟩, ⟨Nat.le_of_ble_eq_true rfl, Nat.le_of_ble_eq_true rfl⟩⟩ hz_a0 hk_a0 (by decide) rfl rfl hl.1 rfl (Nat.le_of_ble_eq_true rfl) dX12_isBentHere_12) rfl rfl (fun x32 H locs M29 R30 J28 hS f26 g27 E31 => ?_)
  have eR30 := Fr.nil g27 rfl
  subst eR30
  obtain ⟨h_x32, p33, p34, p35⟩ := E31
  obtain ⟨x38, k36, h37, q39⟩ := p33
  have k36 : M29 a0 13 = x38 := k36
  obtain ⟨x43, k44, h42, q45⟩ := p34
  have k44 : M29 a0 15 = x43 := k44
  have q46 : (0 : Int32).toInt = 0 := (by decide)
  have z47 : x32 = 0 → ¬ (M29 a0 14).toInt = 0 := p35
  refine lv_if_ne (tgt := 20) hx hb dX12_isBentHere_15 (by decide) (fun c48 => ?_) (fun c48 => ?_)
  · have q49 : ¬ x32.toInt = 0 := ti_ne c48
    have h50 : iv 1 1 x32 := ⟨by have := (h_x32).1; have := ((iv_c (c := 0) (n := 0) (by decide))).1; have := ((iv_c (c := 0) (n := 0) (by decide))).2; omega, by have := (h_x32).2; have := ((iv_c (c := 0) (n := 0) (by decide))).1; have := ((iv_c (c := 0) (n := 0) (by decide))).2; omega⟩
    refine lv_aload_n hx hb dX12_isBentHere_20 rfl (lv_at hl 0 rfl) ?_
    refine tw_getk hx hb hW hown hK hS f_X12_152_11 hz_a0 hk_a0 (v := x43) k44 dX12_isBentHere_21 ?_
    refine lv_istore_n (lv' := [(1, .int x43), (0, .ref (base + a0))]) hx hb dX12_isBentHere_24 rfl hl (by decide) rfl (fun ls hl => ?_)
    refine lv_aload_n hx hb dX12_isBentHere_25 rfl (lv_at hl 1 rfl) ?_
    refine lv_iconst (v := 0) hx hb dX12_isBentHere_26 (by decide) ?_
    refine lv_iconst (v := 5) hx hb dX12_isBentHere_27 (by decide) ?_
    have k51 : M29 a0 1 = tp := ((Fr.kp (k := 1) f26 hk_a0 rfl).trans (Fr.kp (k := 1) f2 hk_a0 rfl)).trans k_tp
    have q52 : x38.toInt ≤ tp.toInt := by
      have := (h_nx).1; have := (h_nx).2; have := (h_tp).1; have := (h_tp).2; have := (h10).1; have := (h10).2; have := (h50).1; have := (h50).2; have := (h37).1; have := (h37).2; omega
    refine tw_goi hS (md_runV (As := [.int 0, .int 5]) (rest := []) hx hb hml hown hW hK hT hS.1 (t_X12_numberHere l D cy tx base Z K N M29 Ra J28 hS.2.1 a0 hz_a0 hk_a0 0 (iv_mono (iv_c (c := 0) (n := 0) (by decide)) (by decide) (by decide)) 5 (iv_mono (iv_c (c := 5) (n := 5) (by decide)) (by decide) (by decide)) tb k_tb x38 k36 (iv_mono h37 (by decide) (by decide)) tp k51 (iv_mono h_tp (by decide) (by decide)) q52 x43 k44 (iv_mono h42 (by decide) (by decide))) s_X12_200 ⟨rfl, rfl, ⟨Nat.le_of_ble_eq_true rfl, Nat.le_of_ble_eq_true rfl⟩, ⟨Nat.le_of_ble_eq_true rfl, Nat.le_of_ble_eq_true rfl⟩⟩ hz_a0 hk_a0 (by decide) rfl rfl hl.1 rfl (Nat.le_of_ble_eq_true rfl) dX12_isBentHere_28) rfl rfl (fun x59 H locs M56 R57 J55 hS f53 g54 E58 => ?_)
    have eR57 := Fr.nil g54 rfl
    subst eR57
    obtain ⟨h_x59, p60, p61, p62⟩ := E58
    obtain ⟨x65, k63, h64, q66⟩ := p60
    have k63 : M56 a0 13 = x65 := k63
    obtain ⟨x70, k71, h69, q72⟩ := p61
    have k71 : M56 a0 15 = x70 := k71
    have q73 : (0 : Int32).toInt = 0 := (by decide)
    have q74 : (5 : Int32).toInt = 5 := (by decide)
    have z75 : x59 = 0 → ¬ (M56 a0 14).toInt = 0 := p62
    refine lv_if_ne (tgt := 36) hx hb dX12_isBentHere_31 (by decide) (fun c76 => ?_) (fun c76 => ?_)
    · have q77 : ¬ x59.toInt = 0 := ti_ne c76
      have h78 : iv 1 1 x59 := ⟨by have := (h_x59).1; have := ((iv_c (c := 0) (n := 0) (by decide))).1; have := ((iv_c (c := 0) (n := 0) (by decide))).2; omega, by have := (h_x59).2; have := ((iv_c (c := 0) (n := 0) (by decide))).1; have := ((iv_c (c := 0) (n := 0) (by decide))).2; omega⟩
      refine lv_aload_n hx hb dX12_isBentHere_36 rfl (lv_at hl 1 rfl) ?_
      refine tw_getr hx hb hW hown hK hS f_X12_32_11 hz_a0 hk_a0 (t := 14) (n := 10) rfl dX12_isBentHere_37 (fun b79 k80 hz_b79 hk_b79 hn_b79 => ?_)
      have hn_b79 := hn_b79 (by decide)
      refine lv_iload_n hx hb dX12_isBentHere_40 rfl (lv_at hl 0 rfl) ?_
      refine lv_aload_n hx hb dX12_isBentHere_41 rfl (lv_at hl 1 rfl) ?_
      refine tw_getk hx hb hW hown hK hS f_X12_152_11 hz_a0 hk_a0 (v := x70) k71 dX12_isBentHere_42 ?_
      have h81 : iv 0 9 x43 := by
        have := (h_nx).1; have := (h_nx).2; have := (h_tp).1; have := (h_tp).2; have := (h15).1; have := (h15).2; have := (h18).1; have := (h18).2; have := (h42).1; have := (h42).2; exact ⟨by omega, by omega⟩
      refine tw_iast hx hb hK hS hz_b79 hk_b79 (Or.inl rfl) hn_b79 h81 ⟨by decide, by decide⟩ h69 (rg_s14 ⟨by decide, by decide⟩) (jl := 0) (jh := 1999999) ⟨by decide, by decide⟩ rfl dX12_isBentHere_45 (fun H locs M84 hS k82 f83 => ?_)
      refine lv_iconst (v := 1) hx hb dX12_isBentHere_46 (by decide) ?_
      have k85 : M84 a0 13 = x65 := (Fr.kp (k := 13) f83 hk_a0 rfl).trans k63
      have q86 : nx.toInt ≤ x65.toInt ∧ x65.toInt ≤ tp.toInt := by
        have := (h_nx).1; have := (h_nx).2; have := (h_tp).1; have := (h_tp).2; have := (h10).1; have := (h10).2; have := (h50).1; have := (h50).2; have := (h37).1; have := (h37).2; have := (h78).1; have := (h78).2; have := (h64).1; have := (h64).2; omega
      exact tw_endz hx hb hr hlocks hK hT hS hQ rfl (⟨(iv_mono (iv_c (c := 1) (n := 1) (by decide)) (by decide) (by decide)), ⟨x65, k85, h64, q86⟩, (fun h => absurd h (by decide))⟩) dX12_isBentHere_47
    · have q87 : x59.toInt = 0 := ti_eq c76
      have z88 := z75 c76
      have h89 : iv 0 0 x59 := ⟨by have := (h_x59).1; have := ((iv_c (c := 0) (n := 0) (by decide))).1; omega, by have := (h_x59).2; have := ((iv_c (c := 0) (n := 0) (by decide))).2; omega⟩
      refine lv_iconst (v := 0) hx hb dX12_isBentHere_34 (by decide) ?_
      have q90 : nx.toInt ≤ x65.toInt ∧ x65.toInt ≤ tp.toInt := by
        have := (h_nx).1; have := (h_nx).2; have := (h_tp).1; have := (h_tp).2; have := (h10).1; have := (h10).2; have := (h50).1; have := (h50).2; have := (h37).1; have := (h37).2; have := (h89).1; have := (h89).2; have := (h64).1; have := (h64).2; omega
      exact tw_endz hx hb hr hlocks hK hT hS hQ rfl (⟨(iv_mono (iv_c (c := 0) (n := 0) (by decide)) (by decide) (by decide)), ⟨x65, k63, h64, q90⟩, (fun _ => (show ¬ (M56 a0 14).toInt = 0 from z88))⟩) dX12_isBentHere_35
  · have q91 : x32.toInt = 0 := ti_eq c48
    have z92 := z47 c48
    have h93 : iv 0 0 x32 := ⟨by have := (h_x32).1; have := ((iv_c (c := 0) (n := 0) (by decide))).1; omega, by have := (h_x32).2; have := ((iv_c (c := 0) (n := 0) (by decide))).2; omega⟩
    refine lv_iconst (v := 0) hx hb dX12_isBentHere_18 (by decide) ?_
    have q94 : nx.toInt ≤ x38.toInt ∧ x38.toInt ≤ tp.toInt := by
      have := (h_nx).1; have := (h_nx).2; have := (h_tp).1; have := (h_tp).2; have := (h10).1; have := (h10).2; have := (h93).1; have := (h93).2; have := (h37).1; have := (h37).2; omega
    exact tw_endz hx hb hr hlocks hK hT hS hQ rfl (⟨(iv_mono (iv_c (c := 0) (n := 0) (by decide)) (by decide) (by decide)), ⟨x38, k36, h37, q94⟩, (fun _ => (show ¬ (M29 a0 14).toInt = 0 from z92))⟩) dX12_isBentHere_19
def Lt_X12_isPointHere : WL := [(12, 8, 9), (12, 13, 16), (14, 0, 2000000)]
def LRt_X12_isPointHere : WL := []
set_option maxRecDepth 100000 in
set_option maxHeartbeats 4000000 in
theorem t_X12_isPointHere (l : Launch) (D : va_G) (cy : Nat → ClassId) (tx : (Nat → Nat) × (Nat → Nat)) (base Z : Nat) (K N : Nat → Nat) (Ma : MT) (Ra : RT) (Ja : JT) (hTy : Ty Z K N Ma Ra) (a0 : Nat) (hz_a0 : a0 < Z) (hk_a0 : K a0 = 12) (a1 : Int32) (h_a1 : iv 0 400 a1) (tb : Nat) (k_tb : Ra a0 0 = some tb) (nx : Int32) (k_nx : Ma a0 13 = nx) (h_nx : iv 0 400 nx) (tp : Int32) (k_tp : Ma a0 1 = tp) (h_tp : iv 0 400 tp) (hnt : nx.toInt ≤ tp.toInt) (pr : Int32) (k_pr : Ma a0 8 = pr) (h_pr : iv 0 12 pr) : Met l yX12_isPointHere [Cond.code yX12_isPointHere cX12_isPointHere 5 (some .boolean)] (md_rm 3 0 0) (va_Pc [.ref (base + a0), .int a1] (md_U D cy tx base Z K N Ma Ra Ja)) (mQi D cy tx base (fun r u => TP Z K N Lt_X12_isPointHere LRt_X12_isPointHere Ma Ra u ∧ (iv 0 1 r ∧ (∃ x0 : Int32, u.2.2.2.1 a0 13 = x0 ∧ iv 0 400 x0 ∧ (nx.toInt ≤ x0.toInt ∧ x0.toInt ≤ tp.toInt)) ∧ (r = 0 → ¬ (u.2.2.2.1 a0 14).toInt = 0)))) 0 0 (fun q => base ≤ q) := by
  refine tw_ofW (L := Lt_X12_isPointHere) (LR := LRt_X12_isPointHere) (by decide) (Nat.le_of_ble_eq_true rfl) hTy ?_
  intro p e s m args below meth c Q ls hx hb hr hlocks hown hml hW hK hT hS hQ hl
  have hl : lv_has ls 5 [(0, .ref (base + a0)), (1, .int a1)] := hl
  obtain ⟨hz_tb, hk_tb, hn_tb⟩ := hTy.refn hz_a0 hk_a0 (show rtR 12 0 = (13, 400, 0) from rfl) k_tb
  have hn_tb := hn_tb (by decide)
  refine lv_aload_n hx hb dX12_isPointHere_0 rfl (lv_at hl 0 rfl) ?_
  refine tw_getk hx hb hW hown hK hS f_X12_254_11 hz_a0 hk_a0 (v := pr) k_pr dX12_isPointHere_1 ?_
  refine lv_bipush (v := 12) hx hb dX12_isPointHere_4 (by decide) ?_
  refine lv_icmp_ne (tgt := 16) hx hb dX12_isPointHere_6 (by decide) (fun c1 => ?_) (fun c1 => ?_)
  · have q2 : ¬ pr.toInt = 12 := ti_ne c1
    have h3 : iv 0 11 pr := ⟨by have := (h_pr).1; have := ((iv_c (c := 12) (n := 12) (by decide))).1; have := ((iv_c (c := 12) (n := 12) (by decide))).2; omega, by have := (h_pr).2; have := ((iv_c (c := 12) (n := 12) (by decide))).1; have := ((iv_c (c := 12) (n := 12) (by decide))).2; omega⟩
    refine lv_aload_n hx hb dX12_isPointHere_16 rfl (lv_at hl 0 rfl) ?_
    have q4 : nx.toInt ≤ tp.toInt := by
      have := (h_a1).1; have := (h_a1).2; have := (h_nx).1; have := (h_nx).2; have := (h3).1; have := (h3).2; have := (h_tp).1; have := (h_tp).2; omega
    refine tw_gov hS (md_runV (As := []) (rest := []) hx hb hml hown hW hK hT hS.1 (t_X12_passWord l D cy tx base Z K N Ma Ra Ja hS.2.1 a0 hz_a0 hk_a0 tb k_tb nx k_nx (iv_mono h_nx (by decide) (by decide)) tp k_tp (iv_mono h_tp (by decide) (by decide)) q4) s_X12_142 ⟨rfl, rfl, ⟨Nat.le_of_ble_eq_true rfl, Nat.le_of_ble_eq_true rfl⟩, ⟨Nat.le_of_ble_eq_true rfl, Nat.le_of_ble_eq_true rfl⟩⟩ hz_a0 hk_a0 (by decide) rfl rfl hl.1 rfl (Nat.le_of_ble_eq_true rfl) dX12_isPointHere_17) rfl rfl (fun H locs M8 R9 J7 hS f5 g6 E10 => ?_)
    have eR9 := Fr.nil g6 rfl
    subst eR9
    have p11 := E10
    clear E10
    obtain ⟨x14, k12, h13, q15, z17⟩ := p11
    have k12 : M8 a0 13 = x14 := k12
    refine lv_iconst (v := 0) hx hb dX12_isPointHere_20 (by decide) ?_
    refine lv_istore_n (lv' := [(2, .int 0), (0, .ref (base + a0)), (1, .int a1)]) hx hb dX12_isPointHere_21 rfl hl (by decide) rfl (fun ls hl => ?_)
    have W22_19 : ∀ (n_19 : Nat) (x18 : Int32) (x24 : Int32) (x26 : Int32) (M19 : MT) (R20 : RT) (J21 : JT) (H : Heap) (locs : List Loc) (ls : Array Slot) (h_x18 : iv 0 10 x18) (h_x24 : iv 0 400 x24) (k25 : M19 a0 13 = x24) (h_x26 : iv 0 11 x26) (k27 : M19 a0 8 = x26) (w0_19 : nx.toInt ≤ x24.toInt ∧ x24.toInt ≤ tp.toInt) (hm_19 : 10 - x18.toInt < (n_19 : Int)) (hS : SB D cy base Z K N Lt_X12_isPointHere LRt_X12_isPointHere Ma Ra M19 R20 J21 s H locs) (hl : lv_has ls 5 [(2, .int x18), (0, .ref (base + a0)), (1, .int a1)]), W p l e (md_rm 3 0 0) s m args below meth c H locs 0 0 Q (F0 m 22 ls []) := by
      intro n_19
      induction n_19 with
      | zero =>
        intro x18 x24 x26 M19 R20 J21 H locs ls h_x18 h_x24 k25 h_x26 k27 w0_19 hm_19 hS hl
        exfalso
        have := (h_a1).1; have := (h_a1).2; have := (h_nx).1; have := (h_nx).2; have := (h3).1; have := (h3).2; have := (h_tp).1; have := (h_tp).2; have := (h_x18).1; have := (h_x18).2; omega
      | succ n_19 ih_19 =>
        intro x18 x24 x26 M19 R20 J21 H locs ls h_x18 h_x24 k25 h_x26 k27 w0_19 hm_19 hS hl
        have f22 := hS.2.2.1
        have g23 := hS.2.2.2
        refine lv_iload_n hx hb dX12_isPointHere_22 rfl (lv_at hl 0 rfl) ?_
        refine lv_aload_n hx hb dX12_isPointHere_23 rfl (lv_at hl 1 rfl) ?_
        refine tw_geti hx hb hW hown hK hS f_X12_251_11 hz_a0 hk_a0 (lo := 0) (hi := 10) rfl dX12_isPointHere_24 (fun x30 k29 h28 => ?_)
        refine lv_icmp_ge (tgt := 141) hx hb dX12_isPointHere_27 (by decide) (fun c31 => ?_) (fun c31 => ?_)
        · have q32 : x30.toInt ≤ x18.toInt := ti_le c31
          refine lv_aload_n hx hb dX12_isPointHere_141 rfl (lv_at hl 1 rfl) ?_
          refine lv_dup hx hb dX12_isPointHere_142 rfl ?_
          refine tw_getk hx hb hW hown hK hS f_X12_254_11 hz_a0 hk_a0 (v := x26) k27 dX12_isPointHere_143 ?_
          refine lv_iconst (v := 1) hx hb dX12_isPointHere_146 (by decide) ?_
          refine tw_iadd (lo := 1) (hi := 12) hx hb h_x26 (iv_c (c := 1) (n := 1) (by decide)) ⟨by decide, by decide⟩ ⟨by decide, by decide⟩ dX12_isPointHere_147 (fun x35 e34 h33 => ?_)
          have e34 : x35.toInt = x26.toInt + 1 := e34
          refine tw_puti hx hb hW hown hK hS f_X12_254_11 hz_a0 hk_a0 rfl rfl (lo := 0) (hi := 12) rfl (iv_mono h33 (by decide) (by decide)) rfl dX12_isPointHere_148 (fun H locs M38 hS k36 f37 => ?_)
          refine lv_iconst (v := 1) hx hb dX12_isPointHere_151 (by decide) ?_
          have k39 : M38 a0 13 = x24 := (Fr.kp (k := 13) f37 hk_a0 rfl).trans k25
          have q40 : nx.toInt ≤ x24.toInt ∧ x24.toInt ≤ tp.toInt := by
            have := (h_a1).1; have := (h_a1).2; have := (h_nx).1; have := (h_nx).2; have := (h3).1; have := (h3).2; have := (h_tp).1; have := (h_tp).2; have := (h13).1; have := (h13).2; have := (h_x24).1; have := (h_x24).2; omega
          exact tw_endz hx hb hr hlocks hK hT hS hQ rfl (⟨(iv_mono (iv_c (c := 1) (n := 1) (by decide)) (by decide) (by decide)), ⟨x24, k39, h_x24, q40⟩, (fun h => absurd h (by decide))⟩) dX12_isPointHere_152
        · have q41 : x18.toInt < x30.toInt := ti_nle c31
          have h42 : iv 0 9 x18 := iv_ltL (y := x30) h_x18 h28 q41 (by decide)
          have h43 : iv 1 10 x30 := iv_gtL (y := x18) h28 h_x18 q41 (by decide)
          refine lv_aload_n hx hb dX12_isPointHere_30 rfl (lv_at hl 1 rfl) ?_
          have k44 : R20 a0 0 = some tb := (Fr.kp (k := 0) g23 hk_a0 rfl).trans k_tb
          have k45 : M19 a0 1 = tp := (Fr.kp (k := 1) f22 hk_a0 rfl).trans k_tp
          have q46 : x24.toInt ≤ tp.toInt := by
            have := (h_a1).1; have := (h_a1).2; have := (h_nx).1; have := (h_nx).2; have := (h3).1; have := (h3).2; have := (h_tp).1; have := (h_tp).2; have := (h13).1; have := (h13).2; have := (h_x24).1; have := (h_x24).2; omega
          refine tw_goi hS (md_runV (As := []) (rest := []) hx hb hml hown hW hK hT hS.1 (t_X12_see l D cy tx base Z K N M19 R20 J21 hS.2.1 a0 hz_a0 hk_a0 tb k44 x24 k25 (iv_mono h_x24 (by decide) (by decide)) tp k45 (iv_mono h_tp (by decide) (by decide)) q46) s_X12_130 ⟨rfl, rfl, ⟨Nat.le_of_ble_eq_true rfl, Nat.le_of_ble_eq_true rfl⟩, ⟨Nat.le_of_ble_eq_true rfl, Nat.le_of_ble_eq_true rfl⟩⟩ hz_a0 hk_a0 (by decide) rfl rfl hl.1 rfl (Nat.le_of_ble_eq_true rfl) dX12_isPointHere_31) rfl rfl (fun x53 H locs M50 R51 J49 hS f47 g48 E52 => ?_)
          have eR51 := Fr.nil g48 rfl
          subst eR51
          obtain ⟨h_x53, p54⟩ := E52
          obtain ⟨x57, k55, h56, q58, z59⟩ := p54
          have k55 : M50 a0 13 = x57 := k55
          refine lv_istore_n (lv' := [(3, .int x53), (2, .int x18), (0, .ref (base + a0)), (1, .int a1)]) hx hb dX12_isPointHere_34 rfl hl (by decide) rfl (fun ls hl => ?_)
          refine lv_iload_n hx hb dX12_isPointHere_35 rfl (lv_at hl 0 rfl) ?_
          refine lv_bipush (v := 43) hx hb dX12_isPointHere_36 (by decide) ?_
          refine lv_icmp_eq (tgt := 47) hx hb dX12_isPointHere_38 (by decide) (fun c61 => ?_) (fun c61 => ?_)
          · have q62 : x53.toInt = 43 := ti_eq c61
            have h63 : iv 43 43 x53 := ⟨by have := (h_x53).1; have := ((iv_c (c := 43) (n := 43) (by decide))).1; omega, by have := (h_x53).2; have := ((iv_c (c := 43) (n := 43) (by decide))).2; omega⟩
            refine lv_iconst (v := 1) hx hb dX12_isPointHere_47 (by decide) ?_
            refine lv_goto (tgt := 52) hx hb dX12_isPointHere_48 (by decide) ?_
            refine lv_istore (lv' := [(4, .int 1), (3, .int x53), (2, .int x18), (0, .ref (base + a0)), (1, .int a1)]) hx hb dX12_isPointHere_52 hl (by decide) rfl (fun ls hl => ?_)
            refine lv_iload hx hb dX12_isPointHere_54 (lv_at hl 0 rfl) ?_
            refine lv_if_eq (tgt := 69) hx hb dX12_isPointHere_56 (by decide) (fun h => absurd h (by decide)) (fun _ => ?_)
            refine lv_aload_n hx hb dX12_isPointHere_59 rfl (lv_at hl 3 rfl) ?_
            refine lv_dup hx hb dX12_isPointHere_60 rfl ?_
            refine tw_getk hx hb hW hown hK hS f_X12_127_11 hz_a0 hk_a0 (v := x57) k55 dX12_isPointHere_61 ?_
            refine lv_iconst (v := 1) hx hb dX12_isPointHere_64 (by decide) ?_
            refine tw_iadd (lo := 1) (hi := 401) hx hb h56 (iv_c (c := 1) (n := 1) (by decide)) ⟨by decide, by decide⟩ ⟨by decide, by decide⟩ dX12_isPointHere_65 (fun x66 e65 h64 => ?_)
            have e65 : x66.toInt = x57.toInt + 1 := e65
            have h69 : iv 0 400 x66 := by
              have := (h_a1).1; have := (h_a1).2; have := (h_nx).1; have := (h_nx).2; have := (h3).1; have := (h3).2; have := (h_tp).1; have := (h_tp).2; have := (h13).1; have := (h13).2; have := (h_x24).1; have := (h_x24).2; have := (h63).1; have := (h63).2; have := (h56).1; have := (h56).2; have := (h64).1; have := (h64).2; exact ⟨by omega, by omega⟩
            refine tw_puti hx hb hW hown hK hS f_X12_127_11 hz_a0 hk_a0 rfl rfl (lo := 0) (hi := 400) rfl h69 rfl dX12_isPointHere_66 (fun H locs M70 hS k67 f68 => ?_)
            refine lv_iload hx hb dX12_isPointHere_69 (lv_at hl 0 rfl) ?_
            refine lv_if_eq (tgt := 91) hx hb dX12_isPointHere_71 (by decide) (fun h => absurd h (by decide)) (fun _ => ?_)
            refine lv_aload_n hx hb dX12_isPointHere_74 rfl (lv_at hl 3 rfl) ?_
            refine tw_goi hS (md_runV (As := []) (rest := []) hx hb hml hown hW hK hT hS.1 (t_X12_isDigitHere l D cy tx base Z K N M70 R20 J49 hS.2.1 a0 hz_a0 hk_a0) s_X12_257 ⟨rfl, rfl, ⟨Nat.le_of_ble_eq_true rfl, Nat.le_of_ble_eq_true rfl⟩, ⟨Nat.le_of_ble_eq_true rfl, Nat.le_of_ble_eq_true rfl⟩⟩ hz_a0 hk_a0 (by decide) rfl rfl hl.1 rfl (Nat.le_of_ble_eq_true rfl) dX12_isPointHere_75) rfl rfl (fun x77 H locs M74 R75 J73 hS f71 g72 E76 => ?_)
            have eM74 := Fr.nil f71 rfl
            subst eM74
            have eR75 := Fr.nil g72 rfl
            subst eR75
            have h_x77 := E76
            clear E76
            refine lv_if_ne (tgt := 91) hx hb dX12_isPointHere_78 (by decide) (fun c78 => ?_) (fun c78 => ?_)
            · have q79 : ¬ x77.toInt = 0 := ti_ne c78
              have h80 : iv 1 1 x77 := ⟨by have := (h_x77).1; have := ((iv_c (c := 0) (n := 0) (by decide))).1; have := ((iv_c (c := 0) (n := 0) (by decide))).2; omega, by have := (h_x77).2; have := ((iv_c (c := 0) (n := 0) (by decide))).1; have := ((iv_c (c := 0) (n := 0) (by decide))).2; omega⟩
              refine lv_aload_n hx hb dX12_isPointHere_91 rfl (lv_at hl 3 rfl) ?_
              refine lv_iconst (v := 0) hx hb dX12_isPointHere_92 (by decide) ?_
              refine lv_bipush (v := 99) hx hb dX12_isPointHere_93 (by decide) ?_
              have k81 : R20 a0 0 = some tb := (Fr.kp (k := 0) g23 hk_a0 rfl).trans k_tb
              have k82 : M70 a0 1 = tp := ((Fr.kp (k := 1) f68 hk_a0 rfl).trans ((Fr.kp (k := 1) f47 hk_a0 rfl).trans (Fr.kp (k := 1) f22 hk_a0 rfl))).trans k_tp
              have q83 : x66.toInt ≤ tp.toInt := by
                have := (h_a1).1; have := (h_a1).2; have := (h_nx).1; have := (h_nx).2; have := (h3).1; have := (h3).2; have := (h_tp).1; have := (h_tp).2; have := (h13).1; have := (h13).2; have := (h_x24).1; have := (h_x24).2; have := (h63).1; have := (h63).2; have := (h56).1; have := (h56).2; have := (h69).1; have := (h69).2; omega
              obtain ⟨x86, k84⟩ : ∃ x, M70 a0 15 = x := ⟨_, rfl⟩
              have h85 : iv (-2147483648) 2147483647 x86 := by rw [← k84]; exact hS.2.1.int hz_a0 hk_a0 (show rgI 12 15 = ((-2147483648), 2147483647) from rfl)
              refine tw_goi hS (md_runV (As := [.int 0, .int 99]) (rest := []) hx hb hml hown hW hK hT hS.1 (t_X12_numberHere l D cy tx base Z K N M70 R20 J73 hS.2.1 a0 hz_a0 hk_a0 0 (iv_mono (iv_c (c := 0) (n := 0) (by decide)) (by decide) (by decide)) 99 (iv_mono (iv_c (c := 99) (n := 99) (by decide)) (by decide) (by decide)) tb k81 x66 k67 (iv_mono h69 (by decide) (by decide)) tp k82 (iv_mono h_tp (by decide) (by decide)) q83 x86 k84 (iv_mono h85 (by decide) (by decide))) s_X12_200 ⟨rfl, rfl, ⟨Nat.le_of_ble_eq_true rfl, Nat.le_of_ble_eq_true rfl⟩, ⟨Nat.le_of_ble_eq_true rfl, Nat.le_of_ble_eq_true rfl⟩⟩ hz_a0 hk_a0 (by decide) rfl rfl hl.1 rfl (Nat.le_of_ble_eq_true rfl) dX12_isPointHere_95) rfl rfl (fun x93 H locs M90 R91 J89 hS f87 g88 E92 => ?_)
              have eR91 := Fr.nil g88 rfl
              subst eR91
              obtain ⟨h_x93, p94, p95, p96⟩ := E92
              obtain ⟨x99, k97, h98, q100⟩ := p94
              have k97 : M90 a0 13 = x99 := k97
              obtain ⟨x104, k105, h103, q106⟩ := p95
              have k105 : M90 a0 15 = x104 := k105
              have q107 : (0 : Int32).toInt = 0 := (by decide)
              have q108 : (99 : Int32).toInt = 99 := (by decide)
              have z109 : x93 = 0 → ¬ (M90 a0 14).toInt = 0 := p96
              refine lv_if_ne (tgt := 103) hx hb dX12_isPointHere_98 (by decide) (fun c110 => ?_) (fun c110 => ?_)
              · have q111 : ¬ x93.toInt = 0 := ti_ne c110
                have h112 : iv 1 1 x93 := ⟨by have := (h_x93).1; have := ((iv_c (c := 0) (n := 0) (by decide))).1; have := ((iv_c (c := 0) (n := 0) (by decide))).2; omega, by have := (h_x93).2; have := ((iv_c (c := 0) (n := 0) (by decide))).1; have := ((iv_c (c := 0) (n := 0) (by decide))).2; omega⟩
                refine lv_aload_n hx hb dX12_isPointHere_103 rfl (lv_at hl 3 rfl) ?_
                refine tw_getr hx hb hW hown hK hS f_X12_26_11 hz_a0 hk_a0 (t := 14) (n := 120) rfl dX12_isPointHere_104 (fun b113 k114 hz_b113 hk_b113 hn_b113 => ?_)
                have hn_b113 := hn_b113 (by decide)
                refine lv_bipush (v := 10) hx hb dX12_isPointHere_107 (by decide) ?_
                refine lv_aload_n hx hb dX12_isPointHere_109 rfl (lv_at hl 3 rfl) ?_
                have k115 : M90 a0 8 = x26 := ((Fr.kp (k := 8) f87 hk_a0 rfl).trans ((Fr.kp (k := 8) f68 hk_a0 rfl).trans (Fr.kp (k := 8) f47 hk_a0 rfl))).trans k27
                refine tw_getk hx hb hW hown hK hS f_X12_254_11 hz_a0 hk_a0 (v := x26) k115 dX12_isPointHere_110 ?_
                refine tw_icmul (k := 10) (lo := 0) (hi := 110) hx hb (by decide) h_x26 (by decide) ⟨by decide, by decide⟩ ⟨by decide, by decide⟩ dX12_isPointHere_113 (fun x118 e117 h116 => ?_)
                refine lv_iload_n hx hb dX12_isPointHere_114 rfl (lv_at hl 2 rfl) ?_
                refine tw_iadd (lo := 0) (hi := 119) hx hb h116 h42 ⟨by decide, by decide⟩ ⟨by decide, by decide⟩ dX12_isPointHere_115 (fun x121 e120 h119 => ?_)
                refine lv_iload_n hx hb dX12_isPointHere_116 rfl (lv_at hl 1 rfl) ?_
                refine lv_bipush (v := 45) hx hb dX12_isPointHere_117 (by decide) ?_
                refine lv_icmp_ne (tgt := 130) hx hb dX12_isPointHere_119 (by decide) (fun c122 => ?_) (fun c122 => False.elim (by have q : x53.toInt = 45 := ti_eq c122; have := (h63).1; have := (h63).2; omega))
                have q123 : ¬ x53.toInt = 45 := ti_ne c122
                refine lv_aload_n hx hb dX12_isPointHere_130 rfl (lv_at hl 3 rfl) ?_
                refine tw_getk hx hb hW hown hK hS f_X12_152_11 hz_a0 hk_a0 (v := x104) k105 dX12_isPointHere_131 ?_
                refine tw_iast hx hb hK hS hz_b113 hk_b113 (Or.inl rfl) hn_b113 h119 ⟨by decide, by decide⟩ h103 (rg_s14 ⟨by decide, by decide⟩) (jl := 0) (jh := 1999999) ⟨by decide, by decide⟩ rfl dX12_isPointHere_134 (fun H locs M126 hS k124 f125 => ?_)
                refine tw_iinc (lv' := fun x129 => [(2, .int x129), (4, .int 1), (3, .int x53), (0, .ref (base + a0)), (1, .int a1)]) (lo := 1) (hi := 10) hx hb dX12_isPointHere_135 hl (k := 2) rfl h42 (by decide) ⟨by decide, by decide⟩ ⟨by decide, by decide⟩ (by decide) (fun _ => rfl) (fun x129 ls e128 h127 hl => ?_)
                refine lv_goto (tgt := 22) hx hb dX12_isPointHere_138 (by decide) ?_
                have k130 : M126 a0 13 = x99 := (Fr.kp (k := 13) f125 hk_a0 rfl).trans k97
                have k131 : M126 a0 8 = x26 := (Fr.kp (k := 8) f125 hk_a0 rfl).trans k115
                have w132 : nx.toInt ≤ x99.toInt ∧ x99.toInt ≤ tp.toInt := by
                  have := (h_a1).1; have := (h_a1).2; have := (h_nx).1; have := (h_nx).2; have := (h3).1; have := (h3).2; have := (h_tp).1; have := (h_tp).2; have := (h13).1; have := (h13).2; have := (h_x24).1; have := (h_x24).2; have := (h63).1; have := (h63).2; have := (h56).1; have := (h56).2; have := (h69).1; have := (h69).2; have := (h112).1; have := (h112).2; have := (h98).1; have := (h98).2; omega
                have hm133 : 10 - x129.toInt < (n_19 : Int) := by
                  have := (h_a1).1; have := (h_a1).2; have := (h_nx).1; have := (h_nx).2; have := (h3).1; have := (h3).2; have := (h_tp).1; have := (h_tp).2; have := (h119).1; have := (h119).2; have := (h127).1; have := (h127).2; have := (h42).1; have := (h42).2; omega
                exact ih_19 x129 x99 x26 M126 R20 J89 H locs _ (iv_mono h127 (by decide) (by decide)) h98 k130 h_x26 k131 w132 hm133 hS (lv_sub hl [0, 3, 4] rfl)
              · have q134 : x93.toInt = 0 := ti_eq c110
                have z135 := z109 c110
                have h136 : iv 0 0 x93 := ⟨by have := (h_x93).1; have := ((iv_c (c := 0) (n := 0) (by decide))).1; omega, by have := (h_x93).2; have := ((iv_c (c := 0) (n := 0) (by decide))).2; omega⟩
                refine lv_iconst (v := 0) hx hb dX12_isPointHere_101 (by decide) ?_
                have q137 : nx.toInt ≤ x99.toInt ∧ x99.toInt ≤ tp.toInt := by
                  have := (h_a1).1; have := (h_a1).2; have := (h_nx).1; have := (h_nx).2; have := (h3).1; have := (h3).2; have := (h_tp).1; have := (h_tp).2; have := (h13).1; have := (h13).2; have := (h_x24).1; have := (h_x24).2; have := (h63).1; have := (h63).2; have := (h56).1; have := (h56).2; have := (h69).1; have := (h69).2; have := (h136).1; have := (h136).2; have := (h98).1; have := (h98).2; omega
                exact tw_endz hx hb hr hlocks hK hT hS hQ rfl (⟨(iv_mono (iv_c (c := 0) (n := 0) (by decide)) (by decide) (by decide)), ⟨x99, k97, h98, q137⟩, (fun _ => (show ¬ (M90 a0 14).toInt = 0 from z135))⟩) dX12_isPointHere_102
            · have q138 : x77.toInt = 0 := ti_eq c78
              have h139 : iv 0 0 x77 := ⟨by have := (h_x77).1; have := ((iv_c (c := 0) (n := 0) (by decide))).1; omega, by have := (h_x77).2; have := ((iv_c (c := 0) (n := 0) (by decide))).2; omega⟩
              refine lv_aload_n hx hb dX12_isPointHere_81 rfl (lv_at hl 3 rfl) ?_
              refine lv_iconst (v := 0) hx hb dX12_isPointHere_82 (by decide) ?_
              refine lv_aload_n hx hb dX12_isPointHere_83 rfl (lv_at hl 3 rfl) ?_
              refine tw_getk hx hb hW hown hK hS f_X12_127_11 hz_a0 hk_a0 (v := x66) k67 dX12_isPointHere_84 ?_
              refine tw_goi hS (md_runV (As := [.int 0, .int x66]) (rest := []) hx hb hml hown hW hK hT hS.1 (t_X12_fails l D cy tx base Z K N M70 R20 J73 hS.2.1 a0 hz_a0 hk_a0 0 (iv_mono (iv_c (c := 0) (n := 0) (by decide)) (by decide) (by decide)) x66 h69) s_X12_148 ⟨rfl, rfl, ⟨Nat.le_of_ble_eq_true rfl, Nat.le_of_ble_eq_true rfl⟩, ⟨Nat.le_of_ble_eq_true rfl, Nat.le_of_ble_eq_true rfl⟩⟩ hz_a0 hk_a0 (by decide) rfl rfl hl.1 rfl (Nat.le_of_ble_eq_true rfl) dX12_isPointHere_87) rfl rfl (fun x146 H locs M143 R144 J142 hS f140 g141 E145 => ?_)
              have eR144 := Fr.nil g141 rfl
              subst eR144
              obtain ⟨h_x146, p147⟩ := E145
              have z148 : x146 = 0 → ¬ (M143 a0 14).toInt = 0 := p147
              have z149 := z148 (iv0 h_x146)
              have k150 : M143 a0 13 = x66 := (Fr.kp (k := 13) f140 hk_a0 rfl).trans k67
              have q151 : nx.toInt ≤ x66.toInt ∧ x66.toInt ≤ tp.toInt := by
                have := (h_a1).1; have := (h_a1).2; have := (h_nx).1; have := (h_nx).2; have := (h3).1; have := (h3).2; have := (h_tp).1; have := (h_tp).2; have := (h13).1; have := (h13).2; have := (h_x24).1; have := (h_x24).2; have := (h63).1; have := (h63).2; have := (h56).1; have := (h56).2; have := (h69).1; have := (h69).2; omega
              exact tw_endz hx hb hr hlocks hK hT hS hQ (nar_b (iv_mono h_x146 (by decide) (by decide))) (⟨(iv_mono h_x146 (by decide) (by decide)), ⟨x66, k150, h69, q151⟩, (fun _ => (show ¬ (M143 a0 14).toInt = 0 from z149))⟩) dX12_isPointHere_90
          · have q152 : ¬ x53.toInt = 43 := ti_ne c61
            refine lv_iload_n hx hb dX12_isPointHere_41 rfl (lv_at hl 0 rfl) ?_
            refine lv_bipush (v := 45) hx hb dX12_isPointHere_42 (by decide) ?_
            refine lv_icmp_ne (tgt := 51) hx hb dX12_isPointHere_44 (by decide) (fun c153 => ?_) (fun c153 => ?_)
            · have q154 : ¬ x53.toInt = 45 := ti_ne c153
              refine lv_iconst (v := 0) hx hb dX12_isPointHere_51 (by decide) ?_
              refine lv_istore (lv' := [(4, .int 0), (3, .int x53), (2, .int x18), (0, .ref (base + a0)), (1, .int a1)]) hx hb dX12_isPointHere_52 hl (by decide) rfl (fun ls hl => ?_)
              refine lv_iload hx hb dX12_isPointHere_54 (lv_at hl 0 rfl) ?_
              refine lv_if_eq (tgt := 69) hx hb dX12_isPointHere_56 (by decide) (fun _ => ?_) (fun h => absurd h (by decide))
              refine lv_iload hx hb dX12_isPointHere_69 (lv_at hl 0 rfl) ?_
              refine lv_if_eq (tgt := 91) hx hb dX12_isPointHere_71 (by decide) (fun _ => ?_) (fun h => absurd h (by decide))
              refine lv_aload_n hx hb dX12_isPointHere_91 rfl (lv_at hl 3 rfl) ?_
              refine lv_iconst (v := 0) hx hb dX12_isPointHere_92 (by decide) ?_
              refine lv_bipush (v := 99) hx hb dX12_isPointHere_93 (by decide) ?_
              have k155 : R20 a0 0 = some tb := (Fr.kp (k := 0) g23 hk_a0 rfl).trans k_tb
              have k156 : M50 a0 1 = tp := ((Fr.kp (k := 1) f47 hk_a0 rfl).trans (Fr.kp (k := 1) f22 hk_a0 rfl)).trans k_tp
              have q157 : x57.toInt ≤ tp.toInt := by
                have := (h_a1).1; have := (h_a1).2; have := (h_nx).1; have := (h_nx).2; have := (h3).1; have := (h3).2; have := (h_tp).1; have := (h_tp).2; have := (h13).1; have := (h13).2; have := (h_x24).1; have := (h_x24).2; have := (h_x53).1; have := (h_x53).2; have := (h56).1; have := (h56).2; omega
              obtain ⟨x160, k158⟩ : ∃ x, M50 a0 15 = x := ⟨_, rfl⟩
              have h159 : iv (-2147483648) 2147483647 x160 := by rw [← k158]; exact hS.2.1.int hz_a0 hk_a0 (show rgI 12 15 = ((-2147483648), 2147483647) from rfl)
              refine tw_goi hS (md_runV (As := [.int 0, .int 99]) (rest := []) hx hb hml hown hW hK hT hS.1 (t_X12_numberHere l D cy tx base Z K N M50 R20 J49 hS.2.1 a0 hz_a0 hk_a0 0 (iv_mono (iv_c (c := 0) (n := 0) (by decide)) (by decide) (by decide)) 99 (iv_mono (iv_c (c := 99) (n := 99) (by decide)) (by decide) (by decide)) tb k155 x57 k55 (iv_mono h56 (by decide) (by decide)) tp k156 (iv_mono h_tp (by decide) (by decide)) q157 x160 k158 (iv_mono h159 (by decide) (by decide))) s_X12_200 ⟨rfl, rfl, ⟨Nat.le_of_ble_eq_true rfl, Nat.le_of_ble_eq_true rfl⟩, ⟨Nat.le_of_ble_eq_true rfl, Nat.le_of_ble_eq_true rfl⟩⟩ hz_a0 hk_a0 (by decide) rfl rfl hl.1 rfl (Nat.le_of_ble_eq_true rfl) dX12_isPointHere_95) rfl rfl (fun x167 H locs M164 R165 J163 hS f161 g162 E166 => ?_)
              have eR165 := Fr.nil g162 rfl
              subst eR165
              obtain ⟨h_x167, p168, p169, p170⟩ := E166
              obtain ⟨x173, k171, h172, q174⟩ := p168
              have k171 : M164 a0 13 = x173 := k171
              obtain ⟨x178, k179, h177, q180⟩ := p169
              have k179 : M164 a0 15 = x178 := k179
              have q181 : (0 : Int32).toInt = 0 := (by decide)
              have q182 : (99 : Int32).toInt = 99 := (by decide)
              have z183 : x167 = 0 → ¬ (M164 a0 14).toInt = 0 := p170
              refine lv_if_ne (tgt := 103) hx hb dX12_isPointHere_98 (by decide) (fun c184 => ?_) (fun c184 => ?_)
              · have q185 : ¬ x167.toInt = 0 := ti_ne c184
                have h186 : iv 1 1 x167 := ⟨by have := (h_x167).1; have := ((iv_c (c := 0) (n := 0) (by decide))).1; have := ((iv_c (c := 0) (n := 0) (by decide))).2; omega, by have := (h_x167).2; have := ((iv_c (c := 0) (n := 0) (by decide))).1; have := ((iv_c (c := 0) (n := 0) (by decide))).2; omega⟩
                refine lv_aload_n hx hb dX12_isPointHere_103 rfl (lv_at hl 3 rfl) ?_
                refine tw_getr hx hb hW hown hK hS f_X12_26_11 hz_a0 hk_a0 (t := 14) (n := 120) rfl dX12_isPointHere_104 (fun b187 k188 hz_b187 hk_b187 hn_b187 => ?_)
                have hn_b187 := hn_b187 (by decide)
                refine lv_bipush (v := 10) hx hb dX12_isPointHere_107 (by decide) ?_
                refine lv_aload_n hx hb dX12_isPointHere_109 rfl (lv_at hl 3 rfl) ?_
                have k189 : M164 a0 8 = x26 := ((Fr.kp (k := 8) f161 hk_a0 rfl).trans (Fr.kp (k := 8) f47 hk_a0 rfl)).trans k27
                refine tw_getk hx hb hW hown hK hS f_X12_254_11 hz_a0 hk_a0 (v := x26) k189 dX12_isPointHere_110 ?_
                refine tw_icmul (k := 10) (lo := 0) (hi := 110) hx hb (by decide) h_x26 (by decide) ⟨by decide, by decide⟩ ⟨by decide, by decide⟩ dX12_isPointHere_113 (fun x192 e191 h190 => ?_)
                refine lv_iload_n hx hb dX12_isPointHere_114 rfl (lv_at hl 2 rfl) ?_
                refine tw_iadd (lo := 0) (hi := 119) hx hb h190 h42 ⟨by decide, by decide⟩ ⟨by decide, by decide⟩ dX12_isPointHere_115 (fun x195 e194 h193 => ?_)
                refine lv_iload_n hx hb dX12_isPointHere_116 rfl (lv_at hl 1 rfl) ?_
                refine lv_bipush (v := 45) hx hb dX12_isPointHere_117 (by decide) ?_
                refine lv_icmp_ne (tgt := 130) hx hb dX12_isPointHere_119 (by decide) (fun c196 => ?_) (fun c196 => ?_)
                · have q197 : ¬ x53.toInt = 45 := ti_ne c196
                  refine lv_aload_n hx hb dX12_isPointHere_130 rfl (lv_at hl 3 rfl) ?_
                  refine tw_getk hx hb hW hown hK hS f_X12_152_11 hz_a0 hk_a0 (v := x178) k179 dX12_isPointHere_131 ?_
                  refine tw_iast hx hb hK hS hz_b187 hk_b187 (Or.inl rfl) hn_b187 h193 ⟨by decide, by decide⟩ h177 (rg_s14 ⟨by decide, by decide⟩) (jl := 0) (jh := 1999999) ⟨by decide, by decide⟩ rfl dX12_isPointHere_134 (fun H locs M200 hS k198 f199 => ?_)
                  refine tw_iinc (lv' := fun x203 => [(2, .int x203), (4, .int 0), (3, .int x53), (0, .ref (base + a0)), (1, .int a1)]) (lo := 1) (hi := 10) hx hb dX12_isPointHere_135 hl (k := 2) rfl h42 (by decide) ⟨by decide, by decide⟩ ⟨by decide, by decide⟩ (by decide) (fun _ => rfl) (fun x203 ls e202 h201 hl => ?_)
                  refine lv_goto (tgt := 22) hx hb dX12_isPointHere_138 (by decide) ?_
                  have k204 : M200 a0 13 = x173 := (Fr.kp (k := 13) f199 hk_a0 rfl).trans k171
                  have k205 : M200 a0 8 = x26 := (Fr.kp (k := 8) f199 hk_a0 rfl).trans k189
                  have w206 : nx.toInt ≤ x173.toInt ∧ x173.toInt ≤ tp.toInt := by
                    have := (h_a1).1; have := (h_a1).2; have := (h_nx).1; have := (h_nx).2; have := (h3).1; have := (h3).2; have := (h_tp).1; have := (h_tp).2; have := (h13).1; have := (h13).2; have := (h186).1; have := (h186).2; have := (h172).1; have := (h172).2; have := (h_x24).1; have := (h_x24).2; have := (h_x53).1; have := (h_x53).2; have := (h56).1; have := (h56).2; omega
                  have hm207 : 10 - x203.toInt < (n_19 : Int) := by
                    have := (h_a1).1; have := (h_a1).2; have := (h_nx).1; have := (h_nx).2; have := (h3).1; have := (h3).2; have := (h_tp).1; have := (h_tp).2; have := (h42).1; have := (h42).2; have := (h193).1; have := (h193).2; have := (h201).1; have := (h201).2; omega
                  exact ih_19 x203 x173 x26 M200 R20 J163 H locs _ (iv_mono h201 (by decide) (by decide)) h172 k204 h_x26 k205 w206 hm207 hS (lv_sub hl [0, 3, 4] rfl)
                · have q208 : x53.toInt = 45 := ti_eq c196
                  have h209 : iv 45 45 x53 := ⟨by have := (h_x53).1; have := ((iv_c (c := 45) (n := 45) (by decide))).1; omega, by have := (h_x53).2; have := ((iv_c (c := 45) (n := 45) (by decide))).2; omega⟩
                  refine lv_aload_n hx hb dX12_isPointHere_122 rfl (lv_at hl 3 rfl) ?_
                  refine tw_getk hx hb hW hown hK hS f_X12_152_11 hz_a0 hk_a0 (v := x178) k179 dX12_isPointHere_123 ?_
                  refine lv_ineg hx hb dX12_isPointHere_126 ?_
                  refine tw_top (fun x211 => ?_)
                  have h210 := iv_any x211
                  refine lv_goto (tgt := 134) hx hb dX12_isPointHere_127 (by decide) ?_
                  refine tw_iast hx hb hK hS hz_b187 hk_b187 (Or.inl rfl) hn_b187 h193 ⟨by decide, by decide⟩ h210 (rg_s14 ⟨by decide, by decide⟩) (jl := 0) (jh := 1999999) ⟨by decide, by decide⟩ rfl dX12_isPointHere_134 (fun H locs M214 hS k212 f213 => ?_)
                  refine tw_iinc (lv' := fun x217 => [(2, .int x217), (4, .int 0), (3, .int x53), (0, .ref (base + a0)), (1, .int a1)]) (lo := 1) (hi := 10) hx hb dX12_isPointHere_135 hl (k := 2) rfl h42 (by decide) ⟨by decide, by decide⟩ ⟨by decide, by decide⟩ (by decide) (fun _ => rfl) (fun x217 ls e216 h215 hl => ?_)
                  refine lv_goto (tgt := 22) hx hb dX12_isPointHere_138 (by decide) ?_
                  have k218 : M214 a0 13 = x173 := (Fr.kp (k := 13) f213 hk_a0 rfl).trans k171
                  have k219 : M214 a0 8 = x26 := (Fr.kp (k := 8) f213 hk_a0 rfl).trans k189
                  have w220 : nx.toInt ≤ x173.toInt ∧ x173.toInt ≤ tp.toInt := by
                    have := (h_a1).1; have := (h_a1).2; have := (h_nx).1; have := (h_nx).2; have := (h3).1; have := (h3).2; have := (h_tp).1; have := (h_tp).2; have := (h13).1; have := (h13).2; have := (h186).1; have := (h186).2; have := (h172).1; have := (h172).2; have := (h_x24).1; have := (h_x24).2; have := (h209).1; have := (h209).2; have := (h56).1; have := (h56).2; omega
                  have hm221 : 10 - x217.toInt < (n_19 : Int) := by
                    have := (h_a1).1; have := (h_a1).2; have := (h_nx).1; have := (h_nx).2; have := (h3).1; have := (h3).2; have := (h_tp).1; have := (h_tp).2; have := (h42).1; have := (h42).2; have := (h193).1; have := (h193).2; have := (h215).1; have := (h215).2; omega
                  exact ih_19 x217 x173 x26 M214 R20 J163 H locs _ (iv_mono h215 (by decide) (by decide)) h172 k218 h_x26 k219 w220 hm221 hS (lv_sub hl [0, 3, 4] rfl)
              · have q222 : x167.toInt = 0 := ti_eq c184
                have z223 := z183 c184
                have h224 : iv 0 0 x167 := ⟨by have := (h_x167).1; have := ((iv_c (c := 0) (n := 0) (by decide))).1; omega, by have := (h_x167).2; have := ((iv_c (c := 0) (n := 0) (by decide))).2; omega⟩
                refine lv_iconst (v := 0) hx hb dX12_isPointHere_101 (by decide) ?_
                have q225 : nx.toInt ≤ x173.toInt ∧ x173.toInt ≤ tp.toInt := by
                  have := (h_a1).1; have := (h_a1).2; have := (h_nx).1; have := (h_nx).2; have := (h3).1; have := (h3).2; have := (h_tp).1; have := (h_tp).2; have := (h13).1; have := (h13).2; have := (h224).1; have := (h224).2; have := (h172).1; have := (h172).2; have := (h_x24).1; have := (h_x24).2; have := (h_x53).1; have := (h_x53).2; have := (h56).1; have := (h56).2; omega
                exact tw_endz hx hb hr hlocks hK hT hS hQ rfl (⟨(iv_mono (iv_c (c := 0) (n := 0) (by decide)) (by decide) (by decide)), ⟨x173, k171, h172, q225⟩, (fun _ => (show ¬ (M164 a0 14).toInt = 0 from z223))⟩) dX12_isPointHere_102
            · have q226 : x53.toInt = 45 := ti_eq c153
              have h227 : iv 45 45 x53 := ⟨by have := (h_x53).1; have := ((iv_c (c := 45) (n := 45) (by decide))).1; omega, by have := (h_x53).2; have := ((iv_c (c := 45) (n := 45) (by decide))).2; omega⟩
              refine lv_iconst (v := 1) hx hb dX12_isPointHere_47 (by decide) ?_
              refine lv_goto (tgt := 52) hx hb dX12_isPointHere_48 (by decide) ?_
              refine lv_istore (lv' := [(4, .int 1), (3, .int x53), (2, .int x18), (0, .ref (base + a0)), (1, .int a1)]) hx hb dX12_isPointHere_52 hl (by decide) rfl (fun ls hl => ?_)
              refine lv_iload hx hb dX12_isPointHere_54 (lv_at hl 0 rfl) ?_
              refine lv_if_eq (tgt := 69) hx hb dX12_isPointHere_56 (by decide) (fun h => absurd h (by decide)) (fun _ => ?_)
              refine lv_aload_n hx hb dX12_isPointHere_59 rfl (lv_at hl 3 rfl) ?_
              refine lv_dup hx hb dX12_isPointHere_60 rfl ?_
              refine tw_getk hx hb hW hown hK hS f_X12_127_11 hz_a0 hk_a0 (v := x57) k55 dX12_isPointHere_61 ?_
              refine lv_iconst (v := 1) hx hb dX12_isPointHere_64 (by decide) ?_
              refine tw_iadd (lo := 1) (hi := 401) hx hb h56 (iv_c (c := 1) (n := 1) (by decide)) ⟨by decide, by decide⟩ ⟨by decide, by decide⟩ dX12_isPointHere_65 (fun x230 e229 h228 => ?_)
              have e229 : x230.toInt = x57.toInt + 1 := e229
              have h233 : iv 0 400 x230 := by
                have := (h_a1).1; have := (h_a1).2; have := (h_nx).1; have := (h_nx).2; have := (h3).1; have := (h3).2; have := (h_tp).1; have := (h_tp).2; have := (h13).1; have := (h13).2; have := (h228).1; have := (h228).2; have := (h_x24).1; have := (h_x24).2; have := (h227).1; have := (h227).2; have := (h56).1; have := (h56).2; exact ⟨by omega, by omega⟩
              refine tw_puti hx hb hW hown hK hS f_X12_127_11 hz_a0 hk_a0 rfl rfl (lo := 0) (hi := 400) rfl h233 rfl dX12_isPointHere_66 (fun H locs M234 hS k231 f232 => ?_)
              refine lv_iload hx hb dX12_isPointHere_69 (lv_at hl 0 rfl) ?_
              refine lv_if_eq (tgt := 91) hx hb dX12_isPointHere_71 (by decide) (fun h => absurd h (by decide)) (fun _ => ?_)
              refine lv_aload_n hx hb dX12_isPointHere_74 rfl (lv_at hl 3 rfl) ?_
              refine tw_goi hS (md_runV (As := []) (rest := []) hx hb hml hown hW hK hT hS.1 (t_X12_isDigitHere l D cy tx base Z K N M234 R20 J49 hS.2.1 a0 hz_a0 hk_a0) s_X12_257 ⟨rfl, rfl, ⟨Nat.le_of_ble_eq_true rfl, Nat.le_of_ble_eq_true rfl⟩, ⟨Nat.le_of_ble_eq_true rfl, Nat.le_of_ble_eq_true rfl⟩⟩ hz_a0 hk_a0 (by decide) rfl rfl hl.1 rfl (Nat.le_of_ble_eq_true rfl) dX12_isPointHere_75) rfl rfl (fun x241 H locs M238 R239 J237 hS f235 g236 E240 => ?_)
              have eM238 := Fr.nil f235 rfl
              subst eM238
              have eR239 := Fr.nil g236 rfl
              subst eR239
              have h_x241 := E240
              clear E240
              refine lv_if_ne (tgt := 91) hx hb dX12_isPointHere_78 (by decide) (fun c242 => ?_) (fun c242 => ?_)
              · have q243 : ¬ x241.toInt = 0 := ti_ne c242
                have h244 : iv 1 1 x241 := ⟨by have := (h_x241).1; have := ((iv_c (c := 0) (n := 0) (by decide))).1; have := ((iv_c (c := 0) (n := 0) (by decide))).2; omega, by have := (h_x241).2; have := ((iv_c (c := 0) (n := 0) (by decide))).1; have := ((iv_c (c := 0) (n := 0) (by decide))).2; omega⟩
                refine lv_aload_n hx hb dX12_isPointHere_91 rfl (lv_at hl 3 rfl) ?_
                refine lv_iconst (v := 0) hx hb dX12_isPointHere_92 (by decide) ?_
                refine lv_bipush (v := 99) hx hb dX12_isPointHere_93 (by decide) ?_
                have k245 : R20 a0 0 = some tb := (Fr.kp (k := 0) g23 hk_a0 rfl).trans k_tb
                have k246 : M234 a0 1 = tp := ((Fr.kp (k := 1) f232 hk_a0 rfl).trans ((Fr.kp (k := 1) f47 hk_a0 rfl).trans (Fr.kp (k := 1) f22 hk_a0 rfl))).trans k_tp
                have q247 : x230.toInt ≤ tp.toInt := by
                  have := (h_a1).1; have := (h_a1).2; have := (h_nx).1; have := (h_nx).2; have := (h3).1; have := (h3).2; have := (h_tp).1; have := (h_tp).2; have := (h13).1; have := (h13).2; have := (h233).1; have := (h233).2; have := (h_x24).1; have := (h_x24).2; have := (h227).1; have := (h227).2; have := (h56).1; have := (h56).2; omega
                obtain ⟨x250, k248⟩ : ∃ x, M234 a0 15 = x := ⟨_, rfl⟩
                have h249 : iv (-2147483648) 2147483647 x250 := by rw [← k248]; exact hS.2.1.int hz_a0 hk_a0 (show rgI 12 15 = ((-2147483648), 2147483647) from rfl)
                refine tw_goi hS (md_runV (As := [.int 0, .int 99]) (rest := []) hx hb hml hown hW hK hT hS.1 (t_X12_numberHere l D cy tx base Z K N M234 R20 J237 hS.2.1 a0 hz_a0 hk_a0 0 (iv_mono (iv_c (c := 0) (n := 0) (by decide)) (by decide) (by decide)) 99 (iv_mono (iv_c (c := 99) (n := 99) (by decide)) (by decide) (by decide)) tb k245 x230 k231 (iv_mono h233 (by decide) (by decide)) tp k246 (iv_mono h_tp (by decide) (by decide)) q247 x250 k248 (iv_mono h249 (by decide) (by decide))) s_X12_200 ⟨rfl, rfl, ⟨Nat.le_of_ble_eq_true rfl, Nat.le_of_ble_eq_true rfl⟩, ⟨Nat.le_of_ble_eq_true rfl, Nat.le_of_ble_eq_true rfl⟩⟩ hz_a0 hk_a0 (by decide) rfl rfl hl.1 rfl (Nat.le_of_ble_eq_true rfl) dX12_isPointHere_95) rfl rfl (fun x257 H locs M254 R255 J253 hS f251 g252 E256 => ?_)
                have eR255 := Fr.nil g252 rfl
                subst eR255
                obtain ⟨h_x257, p258, p259, p260⟩ := E256
                obtain ⟨x263, k261, h262, q264⟩ := p258
                have k261 : M254 a0 13 = x263 := k261
                obtain ⟨x268, k269, h267, q270⟩ := p259
                have k269 : M254 a0 15 = x268 := k269
                have q271 : (0 : Int32).toInt = 0 := (by decide)
                have q272 : (99 : Int32).toInt = 99 := (by decide)
                have z273 : x257 = 0 → ¬ (M254 a0 14).toInt = 0 := p260
                refine lv_if_ne (tgt := 103) hx hb dX12_isPointHere_98 (by decide) (fun c274 => ?_) (fun c274 => ?_)
                · have q275 : ¬ x257.toInt = 0 := ti_ne c274
                  have h276 : iv 1 1 x257 := ⟨by have := (h_x257).1; have := ((iv_c (c := 0) (n := 0) (by decide))).1; have := ((iv_c (c := 0) (n := 0) (by decide))).2; omega, by have := (h_x257).2; have := ((iv_c (c := 0) (n := 0) (by decide))).1; have := ((iv_c (c := 0) (n := 0) (by decide))).2; omega⟩
                  refine lv_aload_n hx hb dX12_isPointHere_103 rfl (lv_at hl 3 rfl) ?_
                  refine tw_getr hx hb hW hown hK hS f_X12_26_11 hz_a0 hk_a0 (t := 14) (n := 120) rfl dX12_isPointHere_104 (fun b277 k278 hz_b277 hk_b277 hn_b277 => ?_)
                  have hn_b277 := hn_b277 (by decide)
                  refine lv_bipush (v := 10) hx hb dX12_isPointHere_107 (by decide) ?_
                  refine lv_aload_n hx hb dX12_isPointHere_109 rfl (lv_at hl 3 rfl) ?_
                  have k279 : M254 a0 8 = x26 := ((Fr.kp (k := 8) f251 hk_a0 rfl).trans ((Fr.kp (k := 8) f232 hk_a0 rfl).trans (Fr.kp (k := 8) f47 hk_a0 rfl))).trans k27
                  refine tw_getk hx hb hW hown hK hS f_X12_254_11 hz_a0 hk_a0 (v := x26) k279 dX12_isPointHere_110 ?_
                  refine tw_icmul (k := 10) (lo := 0) (hi := 110) hx hb (by decide) h_x26 (by decide) ⟨by decide, by decide⟩ ⟨by decide, by decide⟩ dX12_isPointHere_113 (fun x282 e281 h280 => ?_)
                  refine lv_iload_n hx hb dX12_isPointHere_114 rfl (lv_at hl 2 rfl) ?_
                  refine tw_iadd (lo := 0) (hi := 119) hx hb h280 h42 ⟨by decide, by decide⟩ ⟨by decide, by decide⟩ dX12_isPointHere_115 (fun x285 e284 h283 => ?_)
                  refine lv_iload_n hx hb dX12_isPointHere_116 rfl (lv_at hl 1 rfl) ?_
                  refine lv_bipush (v := 45) hx hb dX12_isPointHere_117 (by decide) ?_
                  refine lv_icmp_ne (tgt := 130) hx hb dX12_isPointHere_119 (by decide) (fun c286 => False.elim (by have q : ¬ x53.toInt = 45 := ti_ne c286; have := (h227).1; have := (h227).2; omega)) (fun c286 => ?_)
                  have q287 : x53.toInt = 45 := ti_eq c286
                  refine lv_aload_n hx hb dX12_isPointHere_122 rfl (lv_at hl 3 rfl) ?_
                  refine tw_getk hx hb hW hown hK hS f_X12_152_11 hz_a0 hk_a0 (v := x268) k269 dX12_isPointHere_123 ?_
                  refine lv_ineg hx hb dX12_isPointHere_126 ?_
                  refine tw_top (fun x289 => ?_)
                  have h288 := iv_any x289
                  refine lv_goto (tgt := 134) hx hb dX12_isPointHere_127 (by decide) ?_
                  refine tw_iast hx hb hK hS hz_b277 hk_b277 (Or.inl rfl) hn_b277 h283 ⟨by decide, by decide⟩ h288 (rg_s14 ⟨by decide, by decide⟩) (jl := 0) (jh := 1999999) ⟨by decide, by decide⟩ rfl dX12_isPointHere_134 (fun H locs M292 hS k290 f291 => ?_)
                  refine tw_iinc (lv' := fun x295 => [(2, .int x295), (4, .int 1), (3, .int x53), (0, .ref (base + a0)), (1, .int a1)]) (lo := 1) (hi := 10) hx hb dX12_isPointHere_135 hl (k := 2) rfl h42 (by decide) ⟨by decide, by decide⟩ ⟨by decide, by decide⟩ (by decide) (fun _ => rfl) (fun x295 ls e294 h293 hl => ?_)
                  refine lv_goto (tgt := 22) hx hb dX12_isPointHere_138 (by decide) ?_
                  have k296 : M292 a0 13 = x263 := (Fr.kp (k := 13) f291 hk_a0 rfl).trans k261
                  have k297 : M292 a0 8 = x26 := (Fr.kp (k := 8) f291 hk_a0 rfl).trans k279
                  have w298 : nx.toInt ≤ x263.toInt ∧ x263.toInt ≤ tp.toInt := by
                    have := (h_a1).1; have := (h_a1).2; have := (h_nx).1; have := (h_nx).2; have := (h3).1; have := (h3).2; have := (h_tp).1; have := (h_tp).2; have := (h13).1; have := (h13).2; have := (h233).1; have := (h233).2; have := (h_x24).1; have := (h_x24).2; have := (h276).1; have := (h276).2; have := (h262).1; have := (h262).2; have := (h227).1; have := (h227).2; have := (h56).1; have := (h56).2; omega
                  have hm299 : 10 - x295.toInt < (n_19 : Int) := by
                    have := (h_a1).1; have := (h_a1).2; have := (h_nx).1; have := (h_nx).2; have := (h3).1; have := (h3).2; have := (h_tp).1; have := (h_tp).2; have := (h42).1; have := (h42).2; have := (h283).1; have := (h283).2; have := (h293).1; have := (h293).2; omega
                  exact ih_19 x295 x263 x26 M292 R20 J253 H locs _ (iv_mono h293 (by decide) (by decide)) h262 k296 h_x26 k297 w298 hm299 hS (lv_sub hl [0, 3, 4] rfl)
                · have q300 : x257.toInt = 0 := ti_eq c274
                  have z301 := z273 c274
                  have h302 : iv 0 0 x257 := ⟨by have := (h_x257).1; have := ((iv_c (c := 0) (n := 0) (by decide))).1; omega, by have := (h_x257).2; have := ((iv_c (c := 0) (n := 0) (by decide))).2; omega⟩
                  refine lv_iconst (v := 0) hx hb dX12_isPointHere_101 (by decide) ?_
                  have q303 : nx.toInt ≤ x263.toInt ∧ x263.toInt ≤ tp.toInt := by
                    have := (h_a1).1; have := (h_a1).2; have := (h_nx).1; have := (h_nx).2; have := (h3).1; have := (h3).2; have := (h_tp).1; have := (h_tp).2; have := (h13).1; have := (h13).2; have := (h233).1; have := (h233).2; have := (h_x24).1; have := (h_x24).2; have := (h302).1; have := (h302).2; have := (h262).1; have := (h262).2; have := (h227).1; have := (h227).2; have := (h56).1; have := (h56).2; omega
                  exact tw_endz hx hb hr hlocks hK hT hS hQ rfl (⟨(iv_mono (iv_c (c := 0) (n := 0) (by decide)) (by decide) (by decide)), ⟨x263, k261, h262, q303⟩, (fun _ => (show ¬ (M254 a0 14).toInt = 0 from z301))⟩) dX12_isPointHere_102
              · have q304 : x241.toInt = 0 := ti_eq c242
                have h305 : iv 0 0 x241 := ⟨by have := (h_x241).1; have := ((iv_c (c := 0) (n := 0) (by decide))).1; omega, by have := (h_x241).2; have := ((iv_c (c := 0) (n := 0) (by decide))).2; omega⟩
                refine lv_aload_n hx hb dX12_isPointHere_81 rfl (lv_at hl 3 rfl) ?_
                refine lv_iconst (v := 0) hx hb dX12_isPointHere_82 (by decide) ?_
                refine lv_aload_n hx hb dX12_isPointHere_83 rfl (lv_at hl 3 rfl) ?_
                refine tw_getk hx hb hW hown hK hS f_X12_127_11 hz_a0 hk_a0 (v := x230) k231 dX12_isPointHere_84 ?_
                refine tw_goi hS (md_runV (As := [.int 0, .int x230]) (rest := []) hx hb hml hown hW hK hT hS.1 (t_X12_fails l D cy tx base Z K N M234 R20 J237 hS.2.1 a0 hz_a0 hk_a0 0 (iv_mono (iv_c (c := 0) (n := 0) (by decide)) (by decide) (by decide)) x230 h233) s_X12_148 ⟨rfl, rfl, ⟨Nat.le_of_ble_eq_true rfl, Nat.le_of_ble_eq_true rfl⟩, ⟨Nat.le_of_ble_eq_true rfl, Nat.le_of_ble_eq_true rfl⟩⟩ hz_a0 hk_a0 (by decide) rfl rfl hl.1 rfl (Nat.le_of_ble_eq_true rfl) dX12_isPointHere_87) rfl rfl (fun x312 H locs M309 R310 J308 hS f306 g307 E311 => ?_)
                have eR310 := Fr.nil g307 rfl
                subst eR310
                obtain ⟨h_x312, p313⟩ := E311
                have z314 : x312 = 0 → ¬ (M309 a0 14).toInt = 0 := p313
                have z315 := z314 (iv0 h_x312)
                have k316 : M309 a0 13 = x230 := (Fr.kp (k := 13) f306 hk_a0 rfl).trans k231
                have q317 : nx.toInt ≤ x230.toInt ∧ x230.toInt ≤ tp.toInt := by
                  have := (h_a1).1; have := (h_a1).2; have := (h_nx).1; have := (h_nx).2; have := (h3).1; have := (h3).2; have := (h_tp).1; have := (h_tp).2; have := (h13).1; have := (h13).2; have := (h233).1; have := (h233).2; have := (h_x24).1; have := (h_x24).2; have := (h227).1; have := (h227).2; have := (h56).1; have := (h56).2; omega
                exact tw_endz hx hb hr hlocks hK hT hS hQ (nar_b (iv_mono h_x312 (by decide) (by decide))) (⟨(iv_mono h_x312 (by decide) (by decide)), ⟨x230, k316, h233, q317⟩, (fun _ => (show ¬ (M309 a0 14).toInt = 0 from z315))⟩) dX12_isPointHere_90
    have k318 : M8 a0 8 = pr := (Fr.kp (k := 8) f5 hk_a0 rfl).trans k_pr
    have w319 : nx.toInt ≤ x14.toInt ∧ x14.toInt ≤ tp.toInt := by
      have := (h_a1).1; have := (h_a1).2; have := (h_nx).1; have := (h_nx).2; have := (h3).1; have := (h3).2; have := (h_tp).1; have := (h_tp).2; have := (h13).1; have := (h13).2; omega
    have hm320 : 10 - (0 : Int32).toInt < (((11 : Nat) : Int) : Int) := by
      have := (h_a1).1; have := (h_a1).2; have := (h_nx).1; have := (h_nx).2; have := (h3).1; have := (h3).2; have := (h_tp).1; have := (h_tp).2; have : (0 : Int32).toInt = 0 := (by decide); omega
    exact W22_19 11 0 x14 pr M8 Ra J7 H locs _ (iv_mono (iv_c (c := 0) (n := 0) (by decide)) (by decide) (by decide)) h13 k12 h3 k318 w319 hm320 hS hl
  · have q321 : pr.toInt = 12 := ti_eq c1
    have h322 : iv 12 12 pr := ⟨by have := (h_pr).1; have := ((iv_c (c := 12) (n := 12) (by decide))).1; omega, by have := (h_pr).2; have := ((iv_c (c := 12) (n := 12) (by decide))).2; omega⟩
    refine lv_aload_n hx hb dX12_isPointHere_9 rfl (lv_at hl 0 rfl) ?_
    refine lv_iconst (v := 4) hx hb dX12_isPointHere_10 (by decide) ?_
    refine lv_iload_n hx hb dX12_isPointHere_11 rfl (lv_at hl 1 rfl) ?_
    refine tw_goi hS (md_runV (As := [.int 4, .int a1]) (rest := []) hx hb hml hown hW hK hT hS.1 (t_X12_fails l D cy tx base Z K N Ma Ra Ja hS.2.1 a0 hz_a0 hk_a0 4 (iv_mono (iv_c (c := 4) (n := 4) (by decide)) (by decide) (by decide)) a1 h_a1) s_X12_148 ⟨rfl, rfl, ⟨Nat.le_of_ble_eq_true rfl, Nat.le_of_ble_eq_true rfl⟩, ⟨Nat.le_of_ble_eq_true rfl, Nat.le_of_ble_eq_true rfl⟩⟩ hz_a0 hk_a0 (by decide) rfl rfl hl.1 rfl (Nat.le_of_ble_eq_true rfl) dX12_isPointHere_12) rfl rfl (fun x329 H locs M326 R327 J325 hS f323 g324 E328 => ?_)
    have eR327 := Fr.nil g324 rfl
    subst eR327
    obtain ⟨h_x329, p330⟩ := E328
    have z331 : x329 = 0 → ¬ (M326 a0 14).toInt = 0 := p330
    have z332 := z331 (iv0 h_x329)
    have k333 : M326 a0 13 = nx := (Fr.kp (k := 13) f323 hk_a0 rfl).trans k_nx
    have q334 : nx.toInt ≤ nx.toInt ∧ nx.toInt ≤ tp.toInt := by
      have := (h_a1).1; have := (h_a1).2; have := (h_nx).1; have := (h_nx).2; have := (h322).1; have := (h322).2; have := (h_tp).1; have := (h_tp).2; omega
    exact tw_endz hx hb hr hlocks hK hT hS hQ (nar_b (iv_mono h_x329 (by decide) (by decide))) (⟨(iv_mono h_x329 (by decide) (by decide)), ⟨nx, k333, h_nx, q334⟩, (fun _ => (show ¬ (M326 a0 14).toInt = 0 from z332))⟩) dX12_isPointHere_15
def Lt_X12_isWord : WL := [(12, 13, 14)]
def LRt_X12_isWord : WL := []
set_option maxRecDepth 100000 in
set_option maxHeartbeats 4000000 in
theorem t_X12_isWord (l : Launch) (D : va_G) (cy : Nat → ClassId) (tx : (Nat → Nat) × (Nat → Nat)) (base Z : Nat) (K N : Nat → Nat) (Ma : MT) (Ra : RT) (Ja : JT) (hTy : Ty Z K N Ma Ra) (a0 : Nat) (hz_a0 : a0 < Z) (hk_a0 : K a0 = 12) (a1 : Int64) (tb : Nat) (k_tb : Ra a0 0 = some tb) (nx : Int32) (k_nx : Ma a0 13 = nx) (h_nx : iv 0 400 nx) (tp : Int32) (k_tp : Ma a0 1 = tp) (h_tp : iv 0 400 tp) (hnt : nx.toInt ≤ tp.toInt) : Met l yX12_isWord [Cond.code yX12_isWord cX12_isWord 6 (some .boolean)] (md_rm 2 0 0) (va_Pc [.ref (base + a0), .long a1] (md_U D cy tx base Z K N Ma Ra Ja)) (mQi D cy tx base (fun r u => TP Z K N Lt_X12_isWord LRt_X12_isWord Ma Ra u ∧ (iv 0 1 r ∧ (∃ x0 : Int32, u.2.2.2.1 a0 13 = x0 ∧ iv 0 400 x0 ∧ (nx.toInt ≤ x0.toInt ∧ x0.toInt ≤ tp.toInt) ∧ (∀ lo hi : Int, 33 ≤ lo → chF lo hi Ma tb nx tp → x0.toInt = nx.toInt) ∧ (¬ r = 0 → chF 97 122 Ma tb x0 tp))))) 0 0 (fun q => base ≤ q) := by
  refine tw_ofW (L := Lt_X12_isWord) (LR := LRt_X12_isWord) (by decide) (Nat.le_of_ble_eq_true rfl) hTy ?_
  intro p e s m args below meth c Q ls hx hb hr hlocks hown hml hW hK hT hS hQ hl
  have hl : lv_has ls 6 [(0, .ref (base + a0)), (1, .long a1)] := hl
  obtain ⟨hz_tb, hk_tb, hn_tb⟩ := hTy.refn hz_a0 hk_a0 (show rtR 12 0 = (13, 400, 0) from rfl) k_tb
  have hn_tb := hn_tb (by decide)
  refine lv_aload_n hx hb dX12_isWord_0 rfl (lv_at hl 0 rfl) ?_
  have q1 : nx.toInt ≤ tp.toInt := by
    have := (h_nx).1; have := (h_nx).2; have := (h_tp).1; have := (h_tp).2; omega
  refine tw_goi hS (md_runV (As := []) (rest := []) hx hb hml hown hW hK hT hS.1 (t_X12_see l D cy tx base Z K N Ma Ra Ja hS.2.1 a0 hz_a0 hk_a0 tb k_tb nx k_nx (iv_mono h_nx (by decide) (by decide)) tp k_tp (iv_mono h_tp (by decide) (by decide)) q1) s_X12_130 ⟨rfl, rfl, ⟨Nat.le_of_ble_eq_true rfl, Nat.le_of_ble_eq_true rfl⟩, ⟨Nat.le_of_ble_eq_true rfl, Nat.le_of_ble_eq_true rfl⟩⟩ hz_a0 hk_a0 (by decide) rfl rfl hl.1 rfl (Nat.le_of_ble_eq_true rfl) dX12_isWord_1) rfl rfl (fun x8 H locs M5 R6 J4 hS f2 g3 E7 => ?_)
  have eR6 := Fr.nil g3 rfl
  subst eR6
  obtain ⟨h_x8, p9⟩ := E7
  obtain ⟨x12, k10, h11, q13, z14⟩ := p9
  have k10 : M5 a0 13 = x12 := k10
  refine lv_pop hx hb dX12_isWord_4 rfl ?_
  refine lv_lconst (v := 0) hx hb dX12_isWord_5 (by decide) ?_
  refine lv_lstore_n (lv' := [(3, .long 0), (0, .ref (base + a0)), (1, .long a1)]) hx hb dX12_isWord_6 rfl hl (by decide) rfl (fun ls hl => ?_)
  refine lv_iconst (v := 0) hx hb dX12_isWord_7 (by decide) ?_
  refine lv_istore (lv' := [(5, .int 0), (3, .long 0), (0, .ref (base + a0)), (1, .long a1)]) hx hb dX12_isWord_8 hl (by decide) rfl (fun ls hl => ?_)
  have W10_18 : ∀ (n_18 : Nat) (x16 : Int64) (x17 : Int32) (x23 : Int32) (M18 : MT) (R19 : RT) (J20 : JT) (H : Heap) (locs : List Loc) (ls : Array Slot) (h_x17 : iv 0 400 x17) (h_x23 : iv 0 400 x23) (k24 : M18 a0 13 = x23) (w0_18 : nx.toInt ≤ x23.toInt ∧ x23.toInt + x17.toInt ≤ tp.toInt) (w1_18 : x17.toInt = 0 ∨ chF 97 122 Ma tb x23 tp) (w2_18 : (∀ lo hi : Int, 33 ≤ lo → chF lo hi Ma tb nx tp → x23.toInt = nx.toInt)) (hm_18 : 400 - x17.toInt < (n_18 : Int)) (hS : SB D cy base Z K N Lt_X12_isWord LRt_X12_isWord Ma Ra M18 R19 J20 s H locs) (hl : lv_has ls 6 [(3, .long x16), (5, .int x17), (0, .ref (base + a0)), (1, .long a1)]), W p l e (md_rm 2 0 0) s m args below meth c H locs 0 0 Q (F0 m 10 ls []) := by
    intro n_18
    induction n_18 with
    | zero =>
      intro x16 x17 x23 M18 R19 J20 H locs ls h_x17 h_x23 k24 w0_18 w1_18 w2_18 hm_18 hS hl
      exfalso
      have := (h_nx).1; have := (h_nx).2; have := (h_tp).1; have := (h_tp).2; have := (h11).1; have := (h11).2; have := (h_x17).1; have := (h_x17).2; have := (h_x23).1; have := (h_x23).2; omega
    | succ n_18 ih_18 =>
      intro x16 x17 x23 M18 R19 J20 H locs ls h_x17 h_x23 k24 w0_18 w1_18 w2_18 hm_18 hS hl
      have f21 := hS.2.2.1
      have g22 := hS.2.2.2
      refine lv_aload_n hx hb dX12_isWord_10 rfl (lv_at hl 2 rfl) ?_
      refine lv_aload_n hx hb dX12_isWord_11 rfl (lv_at hl 2 rfl) ?_
      refine tw_getk hx hb hW hown hK hS f_X12_127_11 hz_a0 hk_a0 (v := x23) k24 dX12_isWord_12 ?_
      refine lv_iload hx hb dX12_isWord_15 (lv_at hl 1 rfl) ?_
      refine tw_iadd (lo := 0) (hi := 800) hx hb h_x23 h_x17 ⟨by decide, by decide⟩ ⟨by decide, by decide⟩ dX12_isWord_17 (fun x27 e26 h25 => ?_)
      have h28 : iv 0 400 x27 := by
        have := (h_nx).1; have := (h_nx).2; have := (h_tp).1; have := (h_tp).2; have := (h11).1; have := (h11).2; have := (h_x17).1; have := (h_x17).2; have := (h_x23).1; have := (h_x23).2; have := (h25).1; have := (h25).2; exact ⟨by omega, by omega⟩
      have k29 : R19 a0 0 = some tb := (Fr.kp (k := 0) g22 hk_a0 rfl).trans k_tb
      have k30 : M18 a0 1 = tp := (Fr.kp (k := 1) f21 hk_a0 rfl).trans k_tp
      refine tw_goi hS (md_runV (As := [.int x27]) (rest := []) hx hb hml hown hW hK hT hS.1 (t_X12_isLetter l D cy tx base Z K N M18 R19 J20 hS.2.1 a0 hz_a0 hk_a0 x27 h28 tb k29 tp k30 (iv_mono h_tp (by decide) (by decide))) s_X12_134 ⟨rfl, rfl, ⟨Nat.le_of_ble_eq_true rfl, Nat.le_of_ble_eq_true rfl⟩, ⟨Nat.le_of_ble_eq_true rfl, Nat.le_of_ble_eq_true rfl⟩⟩ hz_a0 hk_a0 (by decide) rfl rfl hl.1 rfl (Nat.le_of_ble_eq_true rfl) dX12_isWord_18) rfl rfl (fun x37 H locs M34 R35 J33 hS f31 g32 E36 => ?_)
      have eM34 := Fr.nil f31 rfl
      subst eM34
      have eR35 := Fr.nil g32 rfl
      subst eR35
      obtain ⟨h_x37, p38⟩ := E36
      have z39 : ¬ x37 = 0 → chF 97 122 Ma tb x27 tp := fun h => chF.rf (p38.1 h) hS.2.2.1 hk_tb rfl
      have z40 : x37 = 0 → ¬ chF 97 122 Ma tb x27 tp := fun h q => p38.2 h (chF.fr q hS.2.2.1 hk_tb rfl)
      refine lv_if_eq (tgt := 56) hx hb dX12_isWord_21 (by decide) (fun c41 => ?_) (fun c41 => ?_)
      · have q42 : x37.toInt = 0 := ti_eq c41
        have z43 := z40 c41
        have h44 : iv 0 0 x37 := ⟨by have := (h_x37).1; have := ((iv_c (c := 0) (n := 0) (by decide))).1; omega, by have := (h_x37).2; have := ((iv_c (c := 0) (n := 0) (by decide))).2; omega⟩
        refine lv_iload hx hb dX12_isWord_56 (lv_at hl 1 rfl) ?_
        refine lv_if_le (tgt := 78) hx hb dX12_isWord_58 (by decide) (fun c45 => ?_) (fun c45 => ?_)
        · have q46 : x17.toInt ≤ 0 := ti_le c45
          have h47 : iv 0 0 x17 := iv_leL (y := 0) h_x17 (iv_c (c := 0) (n := 0) (by decide)) q46 (by decide)
          refine lv_iconst (v := 0) hx hb dX12_isWord_78 (by decide) ?_
          have q48 : nx.toInt ≤ x23.toInt ∧ x23.toInt ≤ tp.toInt := by
            have := (h_nx).1; have := (h_nx).2; have := (h_tp).1; have := (h_tp).2; have := (h11).1; have := (h11).2; have := (h47).1; have := (h47).2; have := (h_x23).1; have := (h_x23).2; have := (h25).1; have := (h25).2; omega
          exact tw_endz hx hb hr hlocks hK hT hS hQ rfl (⟨(iv_mono (iv_c (c := 0) (n := 0) (by decide)) (by decide) (by decide)), ⟨x23, k24, h_x23, q48, w2_18, (fun h => absurd rfl h)⟩⟩) dX12_isWord_79
        · have q49 : 0 < x17.toInt := ti_nle c45
          have h50 : iv 1 400 x17 := iv_gtL (y := 0) h_x17 (iv_c (c := 0) (n := 0) (by decide)) q49 (by decide)
          refine lv_iload hx hb dX12_isWord_61 (lv_at hl 1 rfl) ?_
          refine lv_bipush (v := 8) hx hb dX12_isWord_63 (by decide) ?_
          refine lv_icmp_ge (tgt := 78) hx hb dX12_isWord_65 (by decide) (fun c51 => ?_) (fun c51 => ?_)
          · have q52 : 8 ≤ x17.toInt := ti_le c51
            have h53 : iv 8 400 x17 := iv_geL (y := 8) h50 (iv_c (c := 8) (n := 8) (by decide)) q52 (by decide)
            refine lv_iconst (v := 0) hx hb dX12_isWord_78 (by decide) ?_
            have q54 : nx.toInt ≤ x23.toInt ∧ x23.toInt ≤ tp.toInt := by
              have := (h_nx).1; have := (h_nx).2; have := (h_tp).1; have := (h_tp).2; have := (h11).1; have := (h11).2; have := (h53).1; have := (h53).2; have := (h_x23).1; have := (h_x23).2; have := (h25).1; have := (h25).2; omega
            exact tw_endz hx hb hr hlocks hK hT hS hQ rfl (⟨(iv_mono (iv_c (c := 0) (n := 0) (by decide)) (by decide) (by decide)), ⟨x23, k24, h_x23, q54, w2_18, (fun h => absurd rfl h)⟩⟩) dX12_isWord_79
          · have q55 : x17.toInt < 8 := ti_nle c51
            have h56 : iv 1 7 x17 := iv_ltL (y := 8) h50 (iv_c (c := 8) (n := 8) (by decide)) q55 (by decide)
            refine lv_lload_n hx hb dX12_isWord_68 rfl (lv_at hl 0 rfl) ?_
            refine lv_lload_n hx hb dX12_isWord_69 rfl (lv_at hl 3 rfl) ?_
            refine W.lcmp hx hb dX12_isWord_70 ?_
            refine lv_topi (fun x59 e58 => ?_)
            have h57 := iv_any x59
            refine lv_if_ne (tgt := 78) hx hb dX12_isWord_71 (by decide) (fun c60 => ?_) (fun c60 => ?_)
            · have q61 : ¬ x59.toInt = 0 := ti_ne c60
              have n62 := md_lne e58 c60
              refine lv_iconst (v := 0) hx hb dX12_isWord_78 (by decide) ?_
              have q63 : nx.toInt ≤ x23.toInt ∧ x23.toInt ≤ tp.toInt := by
                have := (h_nx).1; have := (h_nx).2; have := (h_tp).1; have := (h_tp).2; have := (h11).1; have := (h11).2; have := (h56).1; have := (h56).2; have := (h_x23).1; have := (h_x23).2; have := (h25).1; have := (h25).2; omega
              exact tw_endz hx hb hr hlocks hK hT hS hQ rfl (⟨(iv_mono (iv_c (c := 0) (n := 0) (by decide)) (by decide) (by decide)), ⟨x23, k24, h_x23, q63, w2_18, (fun h => absurd rfl h)⟩⟩) dX12_isWord_79
            · have q64 : x59.toInt = 0 := ti_eq c60
              have h65 : iv 0 0 x59 := ⟨by have := (h57).1; have := ((iv_c (c := 0) (n := 0) (by decide))).1; omega, by have := (h57).2; have := ((iv_c (c := 0) (n := 0) (by decide))).2; omega⟩
              refine lv_iconst (v := 1) hx hb dX12_isWord_74 (by decide) ?_
              refine lv_goto (tgt := 79) hx hb dX12_isWord_75 (by decide) ?_
              have q66 : nx.toInt ≤ x23.toInt ∧ x23.toInt ≤ tp.toInt := by
                have := (h_nx).1; have := (h_nx).2; have := (h_tp).1; have := (h_tp).2; have := (h11).1; have := (h11).2; have := (h56).1; have := (h56).2; have := (h_x23).1; have := (h_x23).2; have := (h25).1; have := (h25).2; omega
              exact tw_endz hx hb hr hlocks hK hT hS hQ rfl (⟨(iv_mono (iv_c (c := 1) (n := 1) (by decide)) (by decide) (by decide)), ⟨x23, k24, h_x23, q66, w2_18, (fun _ => w1_18.resolve_left (by omega))⟩⟩) dX12_isWord_79
      · have q67 : ¬ x37.toInt = 0 := ti_ne c41
        have h68 : iv 1 1 x37 := ⟨by have := (h_x37).1; have := ((iv_c (c := 0) (n := 0) (by decide))).1; have := ((iv_c (c := 0) (n := 0) (by decide))).2; omega, by have := (h_x37).2; have := ((iv_c (c := 0) (n := 0) (by decide))).1; have := ((iv_c (c := 0) (n := 0) (by decide))).2; omega⟩
        have z69 := z39 c41
        have q70 := z69.1
        have h71 : iv 0 399 x27 := iv_ltL (y := tp) h25 h_tp q70 (by decide)
        refine lv_iload hx hb dX12_isWord_24 (lv_at hl 1 rfl) ?_
        refine lv_bipush (v := 8) hx hb dX12_isWord_26 (by decide) ?_
        refine lv_icmp_ge (tgt := 50) hx hb dX12_isWord_28 (by decide) (fun c72 => ?_) (fun c72 => ?_)
        · have q73 : 8 ≤ x17.toInt := ti_le c72
          have h74 : iv 8 400 x17 := iv_geL (y := 8) h_x17 (iv_c (c := 8) (n := 8) (by decide)) q73 (by decide)
          refine tw_iinc (lv' := fun x77 => [(5, .int x77), (3, .long x16), (0, .ref (base + a0)), (1, .long a1)]) (lo := 9) (hi := 401) hx hb dX12_isWord_50 hl (k := 1) rfl h74 (by decide) ⟨by decide, by decide⟩ ⟨by decide, by decide⟩ (by decide) (fun _ => rfl) (fun x77 ls e76 h75 hl => ?_)
          refine lv_goto (tgt := 10) hx hb dX12_isWord_53 (by decide) ?_
          have h78 : iv 0 400 x77 := by
            have := (h_nx).1; have := (h_nx).2; have := (h_tp).1; have := (h_tp).2; have := (h11).1; have := (h11).2; have := (h74).1; have := (h74).2; have := (h_x23).1; have := (h_x23).2; have := (h71).1; have := (h71).2; have := (h75).1; have := (h75).2; exact ⟨by omega, by omega⟩
          have w79 : nx.toInt ≤ x23.toInt ∧ x23.toInt + x77.toInt ≤ tp.toInt := by
            have := (h_nx).1; have := (h_nx).2; have := (h_tp).1; have := (h_tp).2; have := (h11).1; have := (h11).2; have := (h74).1; have := (h74).2; have := (h_x23).1; have := (h_x23).2; have := (h71).1; have := (h71).2; have := (h75).1; have := (h75).2; omega
          have w80 : x77.toInt = 0 ∨ chF 97 122 Ma tb x23 tp := by rcases w1_18 with h | h; (· exact Or.inr (z69.at (by omega))); (· exact Or.inr h)
          have w81 : (∀ lo hi : Int, 33 ≤ lo → chF lo hi Ma tb nx tp → x23.toInt = nx.toInt) := w2_18
          have hm82 : 400 - x77.toInt < (n_18 : Int) := by
            have := (h_nx).1; have := (h_nx).2; have := (h_tp).1; have := (h_tp).2; have := (h11).1; have := (h11).2; have := (h74).1; have := (h74).2; have := (h_x23).1; have := (h_x23).2; have := (h71).1; have := (h71).2; have := (h75).1; have := (h75).2; omega
          exact ih_18 (x16) x77 x23 M18 R19 J33 H locs _ h78 h_x23 k24 w79 w80 w81 hm82 hS (lv_sub hl [1, 0, 2, 3] rfl)
        · have q83 : x17.toInt < 8 := ti_nle c72
          have h84 : iv 0 7 x17 := iv_ltL (y := 8) h_x17 (iv_c (c := 8) (n := 8) (by decide)) q83 (by decide)
          refine lv_lload_n hx hb dX12_isWord_31 rfl (lv_at hl 0 rfl) ?_
          refine lv_bipush (v := 8) hx hb dX12_isWord_32 (by decide) ?_
          refine lv_lshl hx hb dX12_isWord_34 rfl ?_
          refine tw_topl (fun x85 => ?_)
          refine lv_aload_n hx hb dX12_isWord_35 rfl (lv_at hl 2 rfl) ?_
          have k86 : R19 a0 0 = some tb := (Fr.kp (k := 0) g22 hk_a0 rfl).trans k_tb
          refine tw_getrk hx hb hW hown hK hS f_X12_7_11 hz_a0 hk_a0 (b := tb) k86 dX12_isWord_36 ?_
          refine lv_aload_n hx hb dX12_isWord_39 rfl (lv_at hl 2 rfl) ?_
          refine tw_getk hx hb hW hown hK hS f_X12_127_11 hz_a0 hk_a0 (v := x23) k24 dX12_isWord_40 ?_
          refine lv_iload hx hb dX12_isWord_43 (lv_at hl 1 rfl) ?_
          refine tw_iadd (lo := 0) (hi := 407) hx hb h_x23 h84 ⟨by decide, by decide⟩ ⟨by decide, by decide⟩ dX12_isWord_45 (fun x89 e88 h87 => ?_)
          have h90 : iv 0 399 x89 := by
            have := (h_nx).1; have := (h_nx).2; have := (h_tp).1; have := (h_tp).2; have := (h11).1; have := (h11).2; have := (h84).1; have := (h84).2; have := (h_x23).1; have := (h_x23).2; have := (h71).1; have := (h71).2; have := (h87).1; have := (h87).2; exact ⟨by omega, by omega⟩
          refine tw_bald hx hb hK hS hz_tb hk_tb hn_tb h90 ⟨by decide, by decide⟩ dX12_isWord_46 (fun x93 k92 => ?_)
          have h91 := iv_any x93
          refine lv_i2l hx hb dX12_isWord_47 rfl ?_
          refine lv_lor hx hb dX12_isWord_48 ?_
          refine tw_topl (fun x94 => ?_)
          refine lv_lstore_n (lv' := [(3, .long x94), (5, .int x17), (0, .ref (base + a0)), (1, .long a1)]) hx hb dX12_isWord_49 rfl hl (by decide) rfl (fun ls hl => ?_)
          refine tw_iinc (lv' := fun x97 => [(5, .int x97), (3, .long x94), (0, .ref (base + a0)), (1, .long a1)]) (lo := 1) (hi := 8) hx hb dX12_isWord_50 hl (k := 1) rfl h84 (by decide) ⟨by decide, by decide⟩ ⟨by decide, by decide⟩ (by decide) (fun _ => rfl) (fun x97 ls e96 h95 hl => ?_)
          refine lv_goto (tgt := 10) hx hb dX12_isWord_53 (by decide) ?_
          have w98 : nx.toInt ≤ x23.toInt ∧ x23.toInt + x97.toInt ≤ tp.toInt := by
            have := (h_nx).1; have := (h_nx).2; have := (h_tp).1; have := (h_tp).2; have := (h11).1; have := (h11).2; have := (h84).1; have := (h84).2; have := (h_x23).1; have := (h_x23).2; have := (h71).1; have := (h71).2; have := (h90).1; have := (h90).2; have := (h95).1; have := (h95).2; omega
          have w99 : x97.toInt = 0 ∨ chF 97 122 Ma tb x23 tp := by rcases w1_18 with h | h; (· exact Or.inr (z69.at (by omega))); (· exact Or.inr h)
          have w100 : (∀ lo hi : Int, 33 ≤ lo → chF lo hi Ma tb nx tp → x23.toInt = nx.toInt) := w2_18
          have hm101 : 400 - x97.toInt < (n_18 : Int) := by
            have := (h_nx).1; have := (h_nx).2; have := (h_tp).1; have := (h_tp).2; have := (h11).1; have := (h11).2; have := (h84).1; have := (h84).2; have := (h_x23).1; have := (h_x23).2; have := (h71).1; have := (h71).2; have := (h90).1; have := (h90).2; have := (h95).1; have := (h95).2; omega
          exact ih_18 (x94) x97 x23 M18 R19 J33 H locs _ (iv_mono h95 (by decide) (by decide)) h_x23 k24 w98 w99 w100 hm101 hS (lv_sub hl [1, 0, 2, 3] rfl)
  have w102 : nx.toInt ≤ x12.toInt ∧ x12.toInt + (0 : Int32).toInt ≤ tp.toInt := by
    have := (h_nx).1; have := (h_nx).2; have := (h_tp).1; have := (h_tp).2; have := (h11).1; have := (h11).2; have := (h_x8).1; have := (h_x8).2; have : (0 : Int32).toInt = 0 := (by decide); omega
  have w103 : (0 : Int32).toInt = 0 ∨ chF 97 122 Ma tb x12 tp := Or.inl (by decide)
  have w104 : (∀ lo hi : Int, 33 ≤ lo → chF lo hi Ma tb nx tp → x12.toInt = nx.toInt) := z14
  have hm105 : 400 - (0 : Int32).toInt < (((401 : Nat) : Int) : Int) := by
    have := (h_nx).1; have := (h_nx).2; have := (h_tp).1; have := (h_tp).2; have : (0 : Int32).toInt = 0 := (by decide); omega
  exact W10_18 401 (0) 0 x12 M5 Ra J4 H locs _ (iv_mono (iv_c (c := 0) (n := 0) (by decide)) (by decide) (by decide)) h11 k10 w102 w103 w104 hm105 hS (lv_sub hl [1, 0, 2, 3] rfl)
def Lt_X12_councilLineHere : WL := [(12, 7, 10), (12, 13, 16), (14, 0, 2000000), (35, 0, 2000000)]
def LRt_X12_councilLineHere : WL := []
set_option maxRecDepth 100000 in
set_option maxHeartbeats 4000000 in
theorem t_X12_councilLineHere (l : Launch) (D : va_G) (cy : Nat → ClassId) (tx : (Nat → Nat) × (Nat → Nat)) (base Z : Nat) (K N : Nat → Nat) (Ma : MT) (Ra : RT) (Ja : JT) (hTy : Ty Z K N Ma Ra) (a0 : Nat) (hz_a0 : a0 < Z) (hk_a0 : K a0 = 12) (a1 : Int32) (h_a1 : iv 0 400 a1) (tb : Nat) (k_tb : Ra a0 0 = some tb) (nx : Int32) (k_nx : Ma a0 13 = nx) (h_nx : iv 0 400 nx) (tp : Int32) (k_tp : Ma a0 1 = tp) (h_tp : iv 0 400 tp) (hnt : nx.toInt ≤ tp.toInt) : Met l yX12_councilLineHere [Cond.code yX12_councilLineHere cX12_councilLineHere 2 (some .boolean)] (md_rm 4 0 0) (va_Pc [.ref (base + a0), .int a1] (md_U D cy tx base Z K N Ma Ra Ja)) (mQi D cy tx base (fun r u => TP Z K N Lt_X12_councilLineHere LRt_X12_councilLineHere Ma Ra u ∧ (iv 0 1 r ∧ (∃ x0 : Int32, u.2.2.2.1 a0 13 = x0 ∧ iv 0 400 x0 ∧ (nx.toInt ≤ x0.toInt ∧ x0.toInt ≤ tp.toInt)) ∧ (r = 0 → ¬ (u.2.2.2.1 a0 14).toInt = 0)))) 0 0 (fun q => base ≤ q) := by
  refine tw_ofW (L := Lt_X12_councilLineHere) (LR := LRt_X12_councilLineHere) (by decide) (Nat.le_of_ble_eq_true rfl) hTy ?_
  intro p e s m args below meth c Q ls hx hb hr hlocks hown hml hW hK hT hS hQ hl
  have hl : lv_has ls 2 [(0, .ref (base + a0)), (1, .int a1)] := hl
  obtain ⟨hz_tb, hk_tb, hn_tb⟩ := hTy.refn hz_a0 hk_a0 (show rtR 12 0 = (13, 400, 0) from rfl) k_tb
  have hn_tb := hn_tb (by decide)
  refine lv_aload_n hx hb dX12_councilLineHere_0 rfl (lv_at hl 0 rfl) ?_
  refine lv_ldc2 hx hb hown (hW _ w_6_235 rfl) dX12_councilLineHere_1 ?_
  have q1 : nx.toInt ≤ tp.toInt := by
    have := (h_a1).1; have := (h_a1).2; have := (h_nx).1; have := (h_nx).2; have := (h_tp).1; have := (h_tp).2; omega
  refine tw_goi hS (md_runV (As := [.long 30792292938117747]) (rest := []) hx hb hml hown hW hK hT hS.1 (t_X12_isWord l D cy tx base Z K N Ma Ra Ja hS.2.1 a0 hz_a0 hk_a0 (30792292938117747) tb k_tb nx k_nx (iv_mono h_nx (by decide) (by decide)) tp k_tp (iv_mono h_tp (by decide) (by decide)) q1) s_X12_138 ⟨rfl, rfl, ⟨Nat.le_of_ble_eq_true rfl, Nat.le_of_ble_eq_true rfl⟩, ⟨Nat.le_of_ble_eq_true rfl, Nat.le_of_ble_eq_true rfl⟩⟩ hz_a0 hk_a0 (by decide) rfl rfl hl.1 rfl (Nat.le_of_ble_eq_true rfl) dX12_councilLineHere_4) rfl rfl (fun x8 H locs M5 R6 J4 hS f2 g3 E7 => ?_)
  have eR6 := Fr.nil g3 rfl
  subst eR6
  obtain ⟨h_x8, p9⟩ := E7
  obtain ⟨x12, k10, h11, q13, z14, z15⟩ := p9
  have k10 : M5 a0 13 = x12 := k10
  have z16 : ¬ x8 = 0 → chF 97 122 Ma tb x12 tp := fun h => chF.rf (chF.fr (z15 h) f2 hk_tb rfl) hS.2.2.1 hk_tb rfl
  refine lv_if_eq (tgt := 16) hx hb dX12_councilLineHere_7 (by decide) (fun c17 => ?_) (fun c17 => ?_)
  · have q18 : x8.toInt = 0 := ti_eq c17
    have h19 : iv 0 0 x8 := ⟨by have := (h_x8).1; have := ((iv_c (c := 0) (n := 0) (by decide))).1; omega, by have := (h_x8).2; have := ((iv_c (c := 0) (n := 0) (by decide))).2; omega⟩
    refine lv_aload_n hx hb dX12_councilLineHere_16 rfl (lv_at hl 0 rfl) ?_
    refine tw_geti hx hb hW hown hK hS f_X12_251_11 hz_a0 hk_a0 (lo := 0) (hi := 10) rfl dX12_councilLineHere_17 (fun x22 k21 h20 => ?_)
    refine lv_if_ne (tgt := 30) hx hb dX12_councilLineHere_20 (by decide) (fun c23 => ?_) (fun c23 => ?_)
    · have q24 : ¬ x22.toInt = 0 := ti_ne c23
      have h25 : iv 1 10 x22 := ⟨by have := (h20).1; have := ((iv_c (c := 0) (n := 0) (by decide))).1; have := ((iv_c (c := 0) (n := 0) (by decide))).2; omega, by have := (h20).2; have := ((iv_c (c := 0) (n := 0) (by decide))).1; have := ((iv_c (c := 0) (n := 0) (by decide))).2; omega⟩
      refine lv_aload_n hx hb dX12_councilLineHere_30 rfl (lv_at hl 0 rfl) ?_
      refine lv_ldc2 hx hb hown (hW _ w_7_4 rfl) dX12_councilLineHere_31 ?_
      have k26 : M5 a0 1 = tp := (Fr.kp (k := 1) f2 hk_a0 rfl).trans k_tp
      have q27 : x12.toInt ≤ tp.toInt := by
        have := (h_a1).1; have := (h_a1).2; have := (h_nx).1; have := (h_nx).2; have := (h_tp).1; have := (h_tp).2; have := (h11).1; have := (h11).2; have := (h19).1; have := (h19).2; omega
      refine tw_goi hS (md_runV (As := [.long 482905517684]) (rest := []) hx hb hml hown hW hK hT hS.1 (t_X12_isWord l D cy tx base Z K N M5 Ra J4 hS.2.1 a0 hz_a0 hk_a0 (482905517684) tb k_tb x12 k10 (iv_mono h11 (by decide) (by decide)) tp k26 (iv_mono h_tp (by decide) (by decide)) q27) s_X12_138 ⟨rfl, rfl, ⟨Nat.le_of_ble_eq_true rfl, Nat.le_of_ble_eq_true rfl⟩, ⟨Nat.le_of_ble_eq_true rfl, Nat.le_of_ble_eq_true rfl⟩⟩ hz_a0 hk_a0 (by decide) rfl rfl hl.1 rfl (Nat.le_of_ble_eq_true rfl) dX12_councilLineHere_34) rfl rfl (fun x34 H locs M31 R32 J30 hS f28 g29 E33 => ?_)
      have eR32 := Fr.nil g29 rfl
      subst eR32
      obtain ⟨h_x34, p35⟩ := E33
      obtain ⟨x38, k36, h37, q39, z40, z41⟩ := p35
      have k36 : M31 a0 13 = x38 := k36
      have z42 : ¬ x34 = 0 → chF 97 122 Ma tb x38 tp := fun h => chF.rf (chF.fr (z41 h) f28 hk_tb rfl) hS.2.2.1 hk_tb rfl
      refine lv_if_eq (tgt := 48) hx hb dX12_councilLineHere_37 (by decide) (fun c43 => ?_) (fun c43 => ?_)
      · have q44 : x34.toInt = 0 := ti_eq c43
        have h45 : iv 0 0 x34 := ⟨by have := (h_x34).1; have := ((iv_c (c := 0) (n := 0) (by decide))).1; omega, by have := (h_x34).2; have := ((iv_c (c := 0) (n := 0) (by decide))).2; omega⟩
        refine lv_aload_n hx hb dX12_councilLineHere_48 rfl (lv_at hl 0 rfl) ?_
        refine lv_ldc2 hx hb hown (hW _ w_7_5 rfl) dX12_councilLineHere_49 ?_
        have k46 : M31 a0 1 = tp := ((Fr.kp (k := 1) f28 hk_a0 rfl).trans (Fr.kp (k := 1) f2 hk_a0 rfl)).trans k_tp
        have q47 : x38.toInt ≤ tp.toInt := by
          have := (h_a1).1; have := (h_a1).2; have := (h_nx).1; have := (h_nx).2; have := (h_tp).1; have := (h_tp).2; have := (h11).1; have := (h11).2; have := (h45).1; have := (h45).2; have := (h37).1; have := (h37).2; have := (h19).1; have := (h19).2; omega
        refine tw_goi hS (md_runV (As := [.long 130220881569139]) (rest := []) hx hb hml hown hW hK hT hS.1 (t_X12_isWord l D cy tx base Z K N M31 Ra J30 hS.2.1 a0 hz_a0 hk_a0 (130220881569139) tb k_tb x38 k36 (iv_mono h37 (by decide) (by decide)) tp k46 (iv_mono h_tp (by decide) (by decide)) q47) s_X12_138 ⟨rfl, rfl, ⟨Nat.le_of_ble_eq_true rfl, Nat.le_of_ble_eq_true rfl⟩, ⟨Nat.le_of_ble_eq_true rfl, Nat.le_of_ble_eq_true rfl⟩⟩ hz_a0 hk_a0 (by decide) rfl rfl hl.1 rfl (Nat.le_of_ble_eq_true rfl) dX12_councilLineHere_52) rfl rfl (fun x54 H locs M51 R52 J50 hS f48 g49 E53 => ?_)
        have eR52 := Fr.nil g49 rfl
        subst eR52
        obtain ⟨h_x54, p55⟩ := E53
        obtain ⟨x58, k56, h57, q59, z60, z61⟩ := p55
        have k56 : M51 a0 13 = x58 := k56
        have z62 : ¬ x54 = 0 → chF 97 122 Ma tb x58 tp := fun h => chF.rf (chF.fr (z61 h) f48 hk_tb rfl) hS.2.2.1 hk_tb rfl
        refine lv_if_eq (tgt := 66) hx hb dX12_councilLineHere_55 (by decide) (fun c63 => ?_) (fun c63 => ?_)
        · have q64 : x54.toInt = 0 := ti_eq c63
          have h65 : iv 0 0 x54 := ⟨by have := (h_x54).1; have := ((iv_c (c := 0) (n := 0) (by decide))).1; omega, by have := (h_x54).2; have := ((iv_c (c := 0) (n := 0) (by decide))).2; omega⟩
          refine lv_aload_n hx hb dX12_councilLineHere_66 rfl (lv_at hl 0 rfl) ?_
          have k66 : M51 a0 1 = tp := ((Fr.kp (k := 1) f48 hk_a0 rfl).trans ((Fr.kp (k := 1) f28 hk_a0 rfl).trans (Fr.kp (k := 1) f2 hk_a0 rfl))).trans k_tp
          have q67 : x58.toInt ≤ tp.toInt := by
            have := (h_a1).1; have := (h_a1).2; have := (h_nx).1; have := (h_nx).2; have := (h_tp).1; have := (h_tp).2; have := (h11).1; have := (h11).2; have := (h45).1; have := (h45).2; have := (h37).1; have := (h37).2; have := (h65).1; have := (h65).2; have := (h57).1; have := (h57).2; have := (h19).1; have := (h19).2; omega
          refine tw_goi hS (md_runV (As := []) (rest := []) hx hb hml hown hW hK hT hS.1 (t_X12_isBentHere l D cy tx base Z K N M51 Ra J50 hS.2.1 a0 hz_a0 hk_a0 tb k_tb x58 k56 (iv_mono h57 (by decide) (by decide)) tp k66 (iv_mono h_tp (by decide) (by decide)) q67) s_X12_275 ⟨rfl, rfl, ⟨Nat.le_of_ble_eq_true rfl, Nat.le_of_ble_eq_true rfl⟩, ⟨Nat.le_of_ble_eq_true rfl, Nat.le_of_ble_eq_true rfl⟩⟩ hz_a0 hk_a0 (by decide) rfl rfl hl.1 rfl (Nat.le_of_ble_eq_true rfl) dX12_councilLineHere_67) rfl rfl (fun x74 H locs M71 R72 J70 hS f68 g69 E73 => ?_)
          have eR72 := Fr.nil g69 rfl
          subst eR72
          obtain ⟨h_x74, p75, p76⟩ := E73
          obtain ⟨x79, k77, h78, q80⟩ := p75
          have k77 : M71 a0 13 = x79 := k77
          have z83 : x74 = 0 → ¬ (M71 a0 14).toInt = 0 := p76
          have q84 : nx.toInt ≤ x79.toInt ∧ x79.toInt ≤ tp.toInt := by
            have := (h_a1).1; have := (h_a1).2; have := (h_nx).1; have := (h_nx).2; have := (h_tp).1; have := (h_tp).2; have := (h11).1; have := (h11).2; have := (h45).1; have := (h45).2; have := (h37).1; have := (h37).2; have := (h65).1; have := (h65).2; have := (h57).1; have := (h57).2; have := (h_x74).1; have := (h_x74).2; have := (h78).1; have := (h78).2; have := (h19).1; have := (h19).2; omega
          exact tw_endz hx hb hr hlocks hK hT hS hQ (nar_b h_x74) (⟨h_x74, ⟨x79, k77, h78, q84⟩, z83⟩) dX12_councilLineHere_70
        · have q85 : ¬ x54.toInt = 0 := ti_ne c63
          have h86 : iv 1 1 x54 := ⟨by have := (h_x54).1; have := ((iv_c (c := 0) (n := 0) (by decide))).1; have := ((iv_c (c := 0) (n := 0) (by decide))).2; omega, by have := (h_x54).2; have := ((iv_c (c := 0) (n := 0) (by decide))).1; have := ((iv_c (c := 0) (n := 0) (by decide))).2; omega⟩
          have z87 := z62 c63
          have q88 := z87.1
          refine lv_aload_n hx hb dX12_councilLineHere_58 rfl (lv_at hl 0 rfl) ?_
          refine lv_iload_n hx hb dX12_councilLineHere_59 rfl (lv_at hl 1 rfl) ?_
          have k89 : M51 a0 1 = tp := ((Fr.kp (k := 1) f48 hk_a0 rfl).trans ((Fr.kp (k := 1) f28 hk_a0 rfl).trans (Fr.kp (k := 1) f2 hk_a0 rfl))).trans k_tp
          have q90 : x58.toInt ≤ tp.toInt := by
            have := (h_a1).1; have := (h_a1).2; have := (h_nx).1; have := (h_nx).2; have := (h_tp).1; have := (h_tp).2; have := (h11).1; have := (h11).2; have := (h45).1; have := (h45).2; have := (h37).1; have := (h37).2; have := (h86).1; have := (h86).2; have := (h57).1; have := (h57).2; have := (h19).1; have := (h19).2; omega
          refine tw_goi hS (md_runV (As := [.int a1]) (rest := []) hx hb hml hown hW hK hT hS.1 (t_X12_areVoicesHere l D cy tx base Z K N M51 Ra J50 hS.2.1 a0 hz_a0 hk_a0 a1 h_a1 tb k_tb x58 k56 (iv_mono h57 (by decide) (by decide)) tp k89 (iv_mono h_tp (by decide) (by decide)) q90) s_X12_272 ⟨rfl, rfl, ⟨Nat.le_of_ble_eq_true rfl, Nat.le_of_ble_eq_true rfl⟩, ⟨Nat.le_of_ble_eq_true rfl, Nat.le_of_ble_eq_true rfl⟩⟩ hz_a0 hk_a0 (by decide) rfl rfl hl.1 rfl (Nat.le_of_ble_eq_true rfl) dX12_councilLineHere_60) rfl rfl (fun x97 H locs M94 R95 J93 hS f91 g92 E96 => ?_)
          have eR95 := Fr.nil g92 rfl
          subst eR95
          obtain ⟨h_x97, p98, p99⟩ := E96
          obtain ⟨x102, k100, h101, q103⟩ := p98
          have k100 : M94 a0 13 = x102 := k100
          have z106 : x97 = 0 → ¬ (M94 a0 14).toInt = 0 := p99
          refine lv_goto (tgt := 70) hx hb dX12_councilLineHere_63 (by decide) ?_
          have q107 : nx.toInt ≤ x102.toInt ∧ x102.toInt ≤ tp.toInt := by
            have := (h_a1).1; have := (h_a1).2; have := (h_nx).1; have := (h_nx).2; have := (h_tp).1; have := (h_tp).2; have := (h101).1; have := (h101).2; have := (h11).1; have := (h11).2; have := (h45).1; have := (h45).2; have := (h37).1; have := (h37).2; have := (h86).1; have := (h86).2; have := (h57).1; have := (h57).2; have := (h19).1; have := (h19).2; have := (h_x97).1; have := (h_x97).2; omega
          exact tw_endz hx hb hr hlocks hK hT hS hQ (nar_b h_x97) (⟨h_x97, ⟨x102, k100, h101, q107⟩, z106⟩) dX12_councilLineHere_70
      · have q108 : ¬ x34.toInt = 0 := ti_ne c43
        have h109 : iv 1 1 x34 := ⟨by have := (h_x34).1; have := ((iv_c (c := 0) (n := 0) (by decide))).1; have := ((iv_c (c := 0) (n := 0) (by decide))).2; omega, by have := (h_x34).2; have := ((iv_c (c := 0) (n := 0) (by decide))).1; have := ((iv_c (c := 0) (n := 0) (by decide))).2; omega⟩
        have z110 := z42 c43
        have q111 := z110.1
        refine lv_aload_n hx hb dX12_councilLineHere_40 rfl (lv_at hl 0 rfl) ?_
        refine lv_iload_n hx hb dX12_councilLineHere_41 rfl (lv_at hl 1 rfl) ?_
        have k112 : M31 a0 1 = tp := ((Fr.kp (k := 1) f28 hk_a0 rfl).trans (Fr.kp (k := 1) f2 hk_a0 rfl)).trans k_tp
        have q113 : x38.toInt ≤ tp.toInt := by
          have := (h_a1).1; have := (h_a1).2; have := (h_nx).1; have := (h_nx).2; have := (h_tp).1; have := (h_tp).2; have := (h11).1; have := (h11).2; have := (h109).1; have := (h109).2; have := (h37).1; have := (h37).2; have := (h19).1; have := (h19).2; omega
        obtain ⟨x116, k114⟩ : ∃ x, M31 a0 8 = x := ⟨_, rfl⟩
        have h115 : iv 0 12 x116 := by rw [← k114]; exact hS.2.1.int hz_a0 hk_a0 (show rgI 12 8 = (0, 12) from rfl)
        refine tw_goi hS (md_runV (As := [.int a1]) (rest := []) hx hb hml hown hW hK hT hS.1 (t_X12_isPointHere l D cy tx base Z K N M31 Ra J30 hS.2.1 a0 hz_a0 hk_a0 a1 h_a1 tb k_tb x38 k36 (iv_mono h37 (by decide) (by decide)) tp k112 (iv_mono h_tp (by decide) (by decide)) q113 x116 k114 (iv_mono h115 (by decide) (by decide))) s_X12_269 ⟨rfl, rfl, ⟨Nat.le_of_ble_eq_true rfl, Nat.le_of_ble_eq_true rfl⟩, ⟨Nat.le_of_ble_eq_true rfl, Nat.le_of_ble_eq_true rfl⟩⟩ hz_a0 hk_a0 (by decide) rfl rfl hl.1 rfl (Nat.le_of_ble_eq_true rfl) dX12_councilLineHere_42) rfl rfl (fun x123 H locs M120 R121 J119 hS f117 g118 E122 => ?_)
        have eR121 := Fr.nil g118 rfl
        subst eR121
        obtain ⟨h_x123, p124, p125⟩ := E122
        obtain ⟨x128, k126, h127, q129⟩ := p124
        have k126 : M120 a0 13 = x128 := k126
        have z132 : x123 = 0 → ¬ (M120 a0 14).toInt = 0 := p125
        refine lv_goto (tgt := 70) hx hb dX12_councilLineHere_45 (by decide) ?_
        have q133 : nx.toInt ≤ x128.toInt ∧ x128.toInt ≤ tp.toInt := by
          have := (h_a1).1; have := (h_a1).2; have := (h_nx).1; have := (h_nx).2; have := (h_tp).1; have := (h_tp).2; have := (h11).1; have := (h11).2; have := (h_x123).1; have := (h_x123).2; have := (h127).1; have := (h127).2; have := (h109).1; have := (h109).2; have := (h37).1; have := (h37).2; have := (h19).1; have := (h19).2; omega
        exact tw_endz hx hb hr hlocks hK hT hS hQ (nar_b h_x123) (⟨h_x123, ⟨x128, k126, h127, q133⟩, z132⟩) dX12_councilLineHere_70
    · have q134 : x22.toInt = 0 := ti_eq c23
      have h135 : iv 0 0 x22 := ⟨by have := (h20).1; have := ((iv_c (c := 0) (n := 0) (by decide))).1; omega, by have := (h20).2; have := ((iv_c (c := 0) (n := 0) (by decide))).2; omega⟩
      refine lv_aload_n hx hb dX12_councilLineHere_23 rfl (lv_at hl 0 rfl) ?_
      refine lv_iconst (v := 4) hx hb dX12_councilLineHere_24 (by decide) ?_
      refine lv_iload_n hx hb dX12_councilLineHere_25 rfl (lv_at hl 1 rfl) ?_
      refine tw_goi hS (md_runV (As := [.int 4, .int a1]) (rest := []) hx hb hml hown hW hK hT hS.1 (t_X12_fails l D cy tx base Z K N M5 Ra J4 hS.2.1 a0 hz_a0 hk_a0 4 (iv_mono (iv_c (c := 4) (n := 4) (by decide)) (by decide) (by decide)) a1 h_a1) s_X12_148 ⟨rfl, rfl, ⟨Nat.le_of_ble_eq_true rfl, Nat.le_of_ble_eq_true rfl⟩, ⟨Nat.le_of_ble_eq_true rfl, Nat.le_of_ble_eq_true rfl⟩⟩ hz_a0 hk_a0 (by decide) rfl rfl hl.1 rfl (Nat.le_of_ble_eq_true rfl) dX12_councilLineHere_26) rfl rfl (fun x142 H locs M139 R140 J138 hS f136 g137 E141 => ?_)
      have eR140 := Fr.nil g137 rfl
      subst eR140
      obtain ⟨h_x142, p143⟩ := E141
      have z144 : x142 = 0 → ¬ (M139 a0 14).toInt = 0 := p143
      have z145 := z144 (iv0 h_x142)
      have k146 : M139 a0 13 = x12 := (Fr.kp (k := 13) f136 hk_a0 rfl).trans k10
      have q147 : nx.toInt ≤ x12.toInt ∧ x12.toInt ≤ tp.toInt := by
        have := (h_a1).1; have := (h_a1).2; have := (h_nx).1; have := (h_nx).2; have := (h_tp).1; have := (h_tp).2; have := (h11).1; have := (h11).2; have := (h19).1; have := (h19).2; omega
      exact tw_endz hx hb hr hlocks hK hT hS hQ (nar_b (iv_mono h_x142 (by decide) (by decide))) (⟨(iv_mono h_x142 (by decide) (by decide)), ⟨x12, k146, h11, q147⟩, (fun _ => (show ¬ (M139 a0 14).toInt = 0 from z145))⟩) dX12_councilLineHere_29
  · have q148 : ¬ x8.toInt = 0 := ti_ne c17
    have h149 : iv 1 1 x8 := ⟨by have := (h_x8).1; have := ((iv_c (c := 0) (n := 0) (by decide))).1; have := ((iv_c (c := 0) (n := 0) (by decide))).2; omega, by have := (h_x8).2; have := ((iv_c (c := 0) (n := 0) (by decide))).1; have := ((iv_c (c := 0) (n := 0) (by decide))).2; omega⟩
    have z150 := z16 c17
    have q151 := z150.1
    refine lv_aload_n hx hb dX12_councilLineHere_10 rfl (lv_at hl 0 rfl) ?_
    refine lv_iload_n hx hb dX12_councilLineHere_11 rfl (lv_at hl 1 rfl) ?_
    have k152 : M5 a0 1 = tp := (Fr.kp (k := 1) f2 hk_a0 rfl).trans k_tp
    have q153 : x12.toInt ≤ tp.toInt := by
      have := (h_a1).1; have := (h_a1).2; have := (h_nx).1; have := (h_nx).2; have := (h_tp).1; have := (h_tp).2; have := (h11).1; have := (h11).2; have := (h149).1; have := (h149).2; omega
    refine tw_goi hS (md_runV (As := [.int a1]) (rest := []) hx hb hml hown hW hK hT hS.1 (t_X12_areMembersHere l D cy tx base Z K N M5 Ra J4 hS.2.1 a0 hz_a0 hk_a0 a1 h_a1 tb k_tb x12 k10 (iv_mono h11 (by decide) (by decide)) tp k152 (iv_mono h_tp (by decide) (by decide)) q153) s_X12_266 ⟨rfl, rfl, ⟨Nat.le_of_ble_eq_true rfl, Nat.le_of_ble_eq_true rfl⟩, ⟨Nat.le_of_ble_eq_true rfl, Nat.le_of_ble_eq_true rfl⟩⟩ hz_a0 hk_a0 (by decide) rfl rfl hl.1 rfl (Nat.le_of_ble_eq_true rfl) dX12_councilLineHere_12) rfl rfl (fun x160 H locs M157 R158 J156 hS f154 g155 E159 => ?_)
    have eR158 := Fr.nil g155 rfl
    subst eR158
    obtain ⟨h_x160, p161, p162⟩ := E159
    obtain ⟨x165, k163, h164, q166⟩ := p161
    have k163 : M157 a0 13 = x165 := k163
    have z169 : x160 = 0 → ¬ (M157 a0 14).toInt = 0 := p162
    have q170 : nx.toInt ≤ x165.toInt ∧ x165.toInt ≤ tp.toInt := by
      have := (h_a1).1; have := (h_a1).2; have := (h_nx).1; have := (h_nx).2; have := (h_tp).1; have := (h_tp).2; have := (h11).1; have := (h11).2; have := (h_x160).1; have := (h_x160).2; have := (h164).1; have := (h164).2; have := (h149).1; have := (h149).2; omega
    exact tw_endz hx hb hr hlocks hK hT hS hQ (nar_b h_x160) (⟨h_x160, ⟨x165, k163, h164, q170⟩, z169⟩) dX12_councilLineHere_15
def Lt_X12_takesWord : WL := [(12, 13, 14)]
def LRt_X12_takesWord : WL := []
set_option maxRecDepth 100000 in
set_option maxHeartbeats 4000000 in
theorem t_X12_takesWord (l : Launch) (D : va_G) (cy : Nat → ClassId) (tx : (Nat → Nat) × (Nat → Nat)) (base Z : Nat) (K N : Nat → Nat) (Ma : MT) (Ra : RT) (Ja : JT) (hTy : Ty Z K N Ma Ra) (a0 : Nat) (hz_a0 : a0 < Z) (hk_a0 : K a0 = 12) (a1 : Int64) (tb : Nat) (k_tb : Ra a0 0 = some tb) (nx : Int32) (k_nx : Ma a0 13 = nx) (h_nx : iv 0 400 nx) (tp : Int32) (k_tp : Ma a0 1 = tp) (h_tp : iv 0 400 tp) (hnt : nx.toInt ≤ tp.toInt) : Met l yX12_takesWord [Cond.code yX12_takesWord cX12_takesWord 3 (some .boolean)] (md_rm 3 0 0) (va_Pc [.ref (base + a0), .long a1] (md_U D cy tx base Z K N Ma Ra Ja)) (mQi D cy tx base (fun r u => TP Z K N Lt_X12_takesWord LRt_X12_takesWord Ma Ra u ∧ (iv 0 1 r ∧ (∃ x0 : Int32, u.2.2.2.1 a0 13 = x0 ∧ iv 0 400 x0 ∧ (nx.toInt ≤ x0.toInt ∧ x0.toInt ≤ tp.toInt))))) 0 0 (fun q => base ≤ q) := by
  refine tw_ofW (L := Lt_X12_takesWord) (LR := LRt_X12_takesWord) (by decide) (Nat.le_of_ble_eq_true rfl) hTy ?_
  intro p e s m args below meth c Q ls hx hb hr hlocks hown hml hW hK hT hS hQ hl
  have hl : lv_has ls 3 [(0, .ref (base + a0)), (1, .long a1)] := hl
  obtain ⟨hz_tb, hk_tb, hn_tb⟩ := hTy.refn hz_a0 hk_a0 (show rtR 12 0 = (13, 400, 0) from rfl) k_tb
  have hn_tb := hn_tb (by decide)
  refine lv_aload_n hx hb dX12_takesWord_0 rfl (lv_at hl 0 rfl) ?_
  refine lv_lload_n hx hb dX12_takesWord_1 rfl (lv_at hl 1 rfl) ?_
  have q1 : nx.toInt ≤ tp.toInt := by
    have := (h_nx).1; have := (h_nx).2; have := (h_tp).1; have := (h_tp).2; omega
  refine tw_goi hS (md_runV (As := [.long a1]) (rest := []) hx hb hml hown hW hK hT hS.1 (t_X12_isWord l D cy tx base Z K N Ma Ra Ja hS.2.1 a0 hz_a0 hk_a0 (a1) tb k_tb nx k_nx (iv_mono h_nx (by decide) (by decide)) tp k_tp (iv_mono h_tp (by decide) (by decide)) q1) s_X12_138 ⟨rfl, rfl, ⟨Nat.le_of_ble_eq_true rfl, Nat.le_of_ble_eq_true rfl⟩, ⟨Nat.le_of_ble_eq_true rfl, Nat.le_of_ble_eq_true rfl⟩⟩ hz_a0 hk_a0 (by decide) rfl rfl hl.1 rfl (Nat.le_of_ble_eq_true rfl) dX12_takesWord_2) rfl rfl (fun x8 H locs M5 R6 J4 hS f2 g3 E7 => ?_)
  have eR6 := Fr.nil g3 rfl
  subst eR6
  obtain ⟨h_x8, p9⟩ := E7
  obtain ⟨x12, k10, h11, q13, z14, z15⟩ := p9
  have k10 : M5 a0 13 = x12 := k10
  have z16 : ¬ x8 = 0 → chF 97 122 Ma tb x12 tp := fun h => chF.rf (chF.fr (z15 h) f2 hk_tb rfl) hS.2.2.1 hk_tb rfl
  refine lv_if_ne (tgt := 10) hx hb dX12_takesWord_5 (by decide) (fun c17 => ?_) (fun c17 => ?_)
  · have q18 : ¬ x8.toInt = 0 := ti_ne c17
    have h19 : iv 1 1 x8 := ⟨by have := (h_x8).1; have := ((iv_c (c := 0) (n := 0) (by decide))).1; have := ((iv_c (c := 0) (n := 0) (by decide))).2; omega, by have := (h_x8).2; have := ((iv_c (c := 0) (n := 0) (by decide))).1; have := ((iv_c (c := 0) (n := 0) (by decide))).2; omega⟩
    have z20 := z16 c17
    have q21 := z20.1
    refine lv_aload_n hx hb dX12_takesWord_10 rfl (lv_at hl 0 rfl) ?_
    have k22 : M5 a0 1 = tp := (Fr.kp (k := 1) f2 hk_a0 rfl).trans k_tp
    have q23 : x12.toInt ≤ tp.toInt := by
      have := (h_nx).1; have := (h_nx).2; have := (h_tp).1; have := (h_tp).2; have := (h11).1; have := (h11).2; have := (h19).1; have := (h19).2; omega
    refine tw_gov hS (md_runV (As := []) (rest := []) hx hb hml hown hW hK hT hS.1 (t_X12_passWord l D cy tx base Z K N M5 Ra J4 hS.2.1 a0 hz_a0 hk_a0 tb k_tb x12 k10 (iv_mono h11 (by decide) (by decide)) tp k22 (iv_mono h_tp (by decide) (by decide)) q23) s_X12_142 ⟨rfl, rfl, ⟨Nat.le_of_ble_eq_true rfl, Nat.le_of_ble_eq_true rfl⟩, ⟨Nat.le_of_ble_eq_true rfl, Nat.le_of_ble_eq_true rfl⟩⟩ hz_a0 hk_a0 (by decide) rfl rfl hl.1 rfl (Nat.le_of_ble_eq_true rfl) dX12_takesWord_11) rfl rfl (fun H locs M27 R28 J26 hS f24 g25 E29 => ?_)
    have eR28 := Fr.nil g25 rfl
    subst eR28
    have p30 := E29
    clear E29
    obtain ⟨x33, k31, h32, q34, z36⟩ := p30
    have k31 : M27 a0 13 = x33 := k31
    have q37 := z36 (chF.rf (chF.fr z20 hS.2.2.1 hk_tb rfl) f24 hk_tb rfl)
    refine lv_iconst (v := 1) hx hb dX12_takesWord_14 (by decide) ?_
    have q38 : nx.toInt ≤ x33.toInt ∧ x33.toInt ≤ tp.toInt := by
      have := (h_nx).1; have := (h_nx).2; have := (h_tp).1; have := (h_tp).2; have := (h11).1; have := (h11).2; have := (h32).1; have := (h32).2; have := (h19).1; have := (h19).2; omega
    exact tw_endz hx hb hr hlocks hK hT hS hQ rfl (⟨(iv_mono (iv_c (c := 1) (n := 1) (by decide)) (by decide) (by decide)), ⟨x33, k31, h32, q38⟩⟩) dX12_takesWord_15
  · have q39 : x8.toInt = 0 := ti_eq c17
    have h40 : iv 0 0 x8 := ⟨by have := (h_x8).1; have := ((iv_c (c := 0) (n := 0) (by decide))).1; omega, by have := (h_x8).2; have := ((iv_c (c := 0) (n := 0) (by decide))).2; omega⟩
    refine lv_iconst (v := 0) hx hb dX12_takesWord_8 (by decide) ?_
    have q41 : nx.toInt ≤ x12.toInt ∧ x12.toInt ≤ tp.toInt := by
      have := (h_nx).1; have := (h_nx).2; have := (h_tp).1; have := (h_tp).2; have := (h11).1; have := (h11).2; have := (h40).1; have := (h40).2; omega
    exact tw_endz hx hb hr hlocks hK hT hS hQ rfl (⟨(iv_mono (iv_c (c := 0) (n := 0) (by decide)) (by decide) (by decide)), ⟨x12, k10, h11, q41⟩⟩) dX12_takesWord_9
