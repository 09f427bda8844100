def Lt_X12_chair : WL := [(12, 23, 24), (12, 28, 29), (12, 30, 33), (12, 35, 37), (14, 0, 2000000), (30, 0, 2000000), (31, 0, 2000000), (33, 0, 2000000)]
def LRt_X12_chair : WL := []
set_option maxRecDepth 100000 in
set_option maxHeartbeats 4000000 in
theorem t_X12_chair (l : Launch) (D : va_G) (cy : Nat → ClassId) (tx : (Nat → Nat) × (Nat → Nat)) (base Z : Nat) (K N : Nat → Nat) (Ma : MT) (Ra : RT) (Ja : JT) (hTy : Ty Z K N Ma Ra) (a0 : Nat) (hz_a0 : a0 < Z) (hk_a0 : K a0 = 12) (a1 : Int32) (h_a1 : iv (-2147483648) 2147483647 a1) (a2 : Int32) (h_a2 : iv (-2147483648) 2147483647 a2) (a3 : Int32) (h_a3 : iv (-2147483648) 2147483647 a3) (co_a0 : Codes Ma Ra a0) : Met l yX12_chair [Cond.code yX12_chair cX12_chair 11 (some .int)] (md_rm 6 0 0) (va_Pc [.ref (base + a0), .int a1, .int a2, .int a3] (md_U D cy tx base Z K N Ma Ra Ja)) (mQi D cy tx base (fun r u => TP Z K N Lt_X12_chair LRt_X12_chair Ma Ra u ∧ (iv (-2147483648) 2147483647 r))) 0 0 (fun q => base ≤ q) := by
  refine tw_ofW (L := Lt_X12_chair) (LR := LRt_X12_chair) (by decide) (Nat.le_of_ble_eq_true rfl) hTy ?_
  intro p e s m args below meth c Q ls hx hb hr hlocks hown hml hW hK hT hS hQ hl
  have hl : lv_has ls 11 [(0, .ref (base + a0)), (1, .int a1), (2, .int a2), (3, .int a3)] := hl
  refine lv_aload_n hx hb dX12_chair_0 rfl (lv_at hl 0 rfl) ?_
  refine tw_getr hx hb hW hown hK hS f_X12_45_11 hz_a0 hk_a0 (t := 23) (n := 226) rfl dX12_chair_1 (fun b1 k2 hz_b1 hk_b1 hn_b1 => ?_)
  have hn_b1 := hn_b1 (by decide)
  refine lv_iconst (v := 4) hx hb dX12_chair_4 (by decide) ?_
  refine tw_iald hx hb hK hS hz_b1 hk_b1 (Or.inr (by decide)) hn_b1 (lo := 0) (hi := 8) (iv_c (c := 4) (n := 4) (by decide)) ⟨by decide, by decide⟩ (rg_c (k0 := 4) rfl rfl rfl) dX12_chair_5 (fun x5 k4 h3 => ?_)
  refine lv_istore (lv' := [(4, .int x5), (0, .ref (base + a0)), (1, .int a1), (2, .int a2), (3, .int a3)]) hx hb dX12_chair_6 hl (by decide) rfl (fun ls hl => ?_)
  refine lv_aload_n hx hb dX12_chair_8 rfl (lv_at hl 1 rfl) ?_
  refine lv_iload_n hx hb dX12_chair_9 rfl (lv_at hl 2 rfl) ?_
  refine tw_goi hS (md_runV (As := [.int a1]) (rest := []) hx hb hml hown hW hK hT hS.1 (t_X12_isMember l D cy tx base Z K N Ma Ra Ja hS.2.1 a0 hz_a0 hk_a0 a1 h_a1) s_X12_319 ⟨rfl, rfl, ⟨Nat.le_of_ble_eq_true rfl, Nat.le_of_ble_eq_true rfl⟩, ⟨Nat.le_of_ble_eq_true rfl, Nat.le_of_ble_eq_true rfl⟩⟩ hz_a0 hk_a0 (by decide) rfl rfl hl.1 rfl (Nat.le_of_ble_eq_true rfl) dX12_chair_10) rfl rfl (fun x12 H locs M9 R10 J8 hS f6 g7 E11 => ?_)
  have eM9 := Fr.nil f6 rfl
  subst eM9
  have eR10 := Fr.nil g7 rfl
  subst eR10
  obtain ⟨h_x12, p13⟩ := E11
  refine lv_if_eq (tgt := 41) hx hb dX12_chair_13 (by decide) (fun c14 => ?_) (fun c14 => ?_)
  · have q15 : x12.toInt = 0 := ti_eq c14
    have h16 : iv 0 0 x12 := ⟨by have := (h_x12).1; have := ((iv_c (c := 0) (n := 0) (by decide))).1; omega, by have := (h_x12).2; have := ((iv_c (c := 0) (n := 0) (by decide))).2; omega⟩
    refine lv_ldcw hx hb hown (hW _ w_8_46 rfl) dX12_chair_41 ?_
    exact tw_endi hx hb hr hlocks hK hT hS hQ ((iv_mono (iv_c (c := (-1000000)) (n := (-1000000)) (by decide)) (by decide) (by decide))) dX12_chair_44
  · have q17 : ¬ x12.toInt = 0 := ti_ne c14
    have h18 : iv 1 1 x12 := ⟨by have := (h_x12).1; have := ((iv_c (c := 0) (n := 0) (by decide))).1; have := ((iv_c (c := 0) (n := 0) (by decide))).2; omega, by have := (h_x12).2; have := ((iv_c (c := 0) (n := 0) (by decide))).1; have := ((iv_c (c := 0) (n := 0) (by decide))).2; omega⟩
    have h19 : iv 0 9 a1 := ⟨by have := (p13 c14).1; have := (h_a1).1; omega, by have := (p13 c14).2; have := (h_a1).2; omega⟩
    refine lv_iload hx hb dX12_chair_16 (lv_at hl 0 rfl) ?_
    refine lv_i2l hx hb dX12_chair_18 rfl ?_
    refine lv_lconst (v := 1) hx hb dX12_chair_19 (by decide) ?_
    refine lv_ldc2 hx hb hown (hW _ w_8_120 rfl) dX12_chair_20 ?_
    refine tw_goi hS (md_runS (As := [.long x5.toInt64, .long 1, .long 6]) (rest := []) hx hb hml hown hW hK hT hS.1 (t_X12_in l D cy tx base Z K N Ma Ra J8 hS.2.1 (x5.toInt64) (1) (6)) s_X12_155 ⟨rfl, rfl, ⟨Nat.le_of_ble_eq_true rfl, Nat.le_of_ble_eq_true rfl⟩, ⟨Nat.le_of_ble_eq_true rfl, Nat.le_of_ble_eq_true rfl⟩⟩ rfl hl.1 rfl (Nat.le_of_ble_eq_true rfl) dX12_chair_23) rfl rfl (fun x26 H locs M23 R24 J22 hS f20 g21 E25 => ?_)
    have eM23 := Fr.nil f20 rfl
    subst eM23
    have eR24 := Fr.nil g21 rfl
    subst eR24
    obtain ⟨h_x26, p27⟩ := E25
    refine lv_if_eq (tgt := 41) hx hb dX12_chair_26 (by decide) (fun c28 => ?_) (fun c28 => ?_)
    · have q29 : x26.toInt = 0 := ti_eq c28
      have h30 : iv 0 0 x26 := ⟨by have := (h_x26).1; have := ((iv_c (c := 0) (n := 0) (by decide))).1; omega, by have := (h_x26).2; have := ((iv_c (c := 0) (n := 0) (by decide))).2; omega⟩
      refine lv_ldcw hx hb hown (hW _ w_8_46 rfl) dX12_chair_41 ?_
      exact tw_endi hx hb hr hlocks hK hT hS hQ ((iv_mono (iv_c (c := (-1000000)) (n := (-1000000)) (by decide)) (by decide) (by decide))) dX12_chair_44
    · have q31 : ¬ x26.toInt = 0 := ti_ne c28
      have h32 : iv 1 1 x26 := ⟨by have := (h_x26).1; have := ((iv_c (c := 0) (n := 0) (by decide))).1; have := ((iv_c (c := 0) (n := 0) (by decide))).2; omega, by have := (h_x26).2; have := ((iv_c (c := 0) (n := 0) (by decide))).1; have := ((iv_c (c := 0) (n := 0) (by decide))).2; omega⟩
      have h33 : iv 1 6 x5 := in2iv (p27 c28) ((jv_c (x := 1) (n := 1) (by decide))).1 ((jv_c (x := 6) (n := 6) (by decide))).2
      refine lv_iload_n hx hb dX12_chair_29 rfl (lv_at hl 4 rfl) ?_
      refine lv_i2l hx hb dX12_chair_30 rfl ?_
      refine lv_lconst (v := 0) hx hb dX12_chair_31 (by decide) ?_
      refine lv_iload hx hb dX12_chair_32 (lv_at hl 0 rfl) ?_
      refine lv_i2l hx hb dX12_chair_34 rfl ?_
      refine tw_goi hS (md_runS (As := [.long a3.toInt64, .long 0, .long x5.toInt64]) (rest := []) hx hb hml hown hW hK hT hS.1 (t_X12_in l D cy tx base Z K N Ma Ra J22 hS.2.1 (a3.toInt64) (0) (x5.toInt64)) s_X12_155 ⟨rfl, rfl, ⟨Nat.le_of_ble_eq_true rfl, Nat.le_of_ble_eq_true rfl⟩, ⟨Nat.le_of_ble_eq_true rfl, Nat.le_of_ble_eq_true rfl⟩⟩ rfl hl.1 rfl (Nat.le_of_ble_eq_true rfl) dX12_chair_35) rfl rfl (fun x40 H locs M37 R38 J36 hS f34 g35 E39 => ?_)
      have eM37 := Fr.nil f34 rfl
      subst eM37
      have eR38 := Fr.nil g35 rfl
      subst eR38
      obtain ⟨h_x40, p41⟩ := E39
      refine lv_if_ne (tgt := 45) hx hb dX12_chair_38 (by decide) (fun c42 => ?_) (fun c42 => ?_)
      · have q43 : ¬ x40.toInt = 0 := ti_ne c42
        have h44 : iv 1 1 x40 := ⟨by have := (h_x40).1; have := ((iv_c (c := 0) (n := 0) (by decide))).1; have := ((iv_c (c := 0) (n := 0) (by decide))).2; omega, by have := (h_x40).2; have := ((iv_c (c := 0) (n := 0) (by decide))).1; have := ((iv_c (c := 0) (n := 0) (by decide))).2; omega⟩
        have h45 : iv 0 6 a3 := in2iv (p41 c42) ((jv_c (x := 0) (n := 0) (by decide))).1 ((jv_o h33)).2
        have q46 := (p41 c42).2
        rw [Int32.toInt_toInt64, Int32.toInt_toInt64] at q46
        refine lv_iconst (v := 1) hx hb dX12_chair_45 (by decide) ?_
        refine lv_istore (lv' := [(5, .int 1), (4, .int x5), (0, .ref (base + a0)), (1, .int a1), (2, .int a2), (3, .int a3)]) hx hb dX12_chair_46 hl (by decide) rfl (fun ls hl => ?_)
        refine lv_iconst (v := 0) hx hb dX12_chair_48 (by decide) ?_
        refine lv_istore (lv' := [(6, .int 0), (5, .int 1), (4, .int x5), (0, .ref (base + a0)), (1, .int a1), (2, .int a2), (3, .int a3)]) hx hb dX12_chair_49 hl (by decide) rfl (fun ls hl => ?_)
        have W51_49 : ∀ (n_49 : Nat) (x47 : Int32) (x48 : Int32) (M49 : MT) (R50 : RT) (J51 : JT) (H : Heap) (locs : List Loc) (ls : Array Slot) (h_x47 : iv (-2147483648) 2147483647 x47) (h_x48 : iv 0 6 x48) (hm_49 : 6 - x48.toInt < (n_49 : Int)) (hS : SB D cy base Z K N Lt_X12_chair LRt_X12_chair Ma Ra M49 R50 J51 s H locs) (hl : lv_has ls 11 [(5, .int x47), (6, .int x48), (4, .int x5), (0, .ref (base + a0)), (1, .int a1), (2, .int a2), (3, .int a3)]), W p l e (md_rm 6 0 0) s m args below meth c H locs 0 0 Q (F0 m 51 ls []) := by
          intro n_49
          induction n_49 with
          | zero =>
            intro x47 x48 M49 R50 J51 H locs ls h_x47 h_x48 hm_49 hS hl
            exfalso
            have := (h19).1; have := (h19).2; have := (h_a2).1; have := (h_a2).2; have := (h45).1; have := (h45).2; have := (h_x48).1; have := (h_x48).2; omega
          | succ n_49 ih_49 =>
            intro x47 x48 M49 R50 J51 H locs ls h_x47 h_x48 hm_49 hS hl
            have f52 := hS.2.2.1
            have g53 := hS.2.2.2
            refine lv_iload hx hb dX12_chair_51 (lv_at hl 1 rfl) ?_
            refine lv_iload hx hb dX12_chair_53 (lv_at hl 2 rfl) ?_
            refine lv_icmp_ge (tgt := 71) hx hb dX12_chair_55 (by decide) (fun c54 => ?_) (fun c54 => ?_)
            · have q55 : x5.toInt ≤ x48.toInt := ti_le c54
              have h56 : iv 1 6 x48 := iv_geL (y := x5) h_x48 h33 q55 (by decide)
              refine lv_iconst (v := 0) hx hb dX12_chair_71 (by decide) ?_
              refine lv_istore (lv' := [(6, .int 0), (5, .int x47), (4, .int x5), (0, .ref (base + a0)), (1, .int a1), (2, .int a2), (3, .int a3)]) hx hb dX12_chair_72 hl (by decide) rfl (fun ls hl => ?_)
              refine lv_iconst (v := 0) hx hb dX12_chair_74 (by decide) ?_
              refine lv_istore (lv' := [(7, .int 0), (6, .int 0), (5, .int x47), (4, .int x5), (0, .ref (base + a0)), (1, .int a1), (2, .int a2), (3, .int a3)]) hx hb dX12_chair_75 hl (by decide) rfl (fun ls hl => ?_)
              refine lv_iconst (v := 0) hx hb dX12_chair_77 (by decide) ?_
              refine lv_istore (lv' := [(8, .int 0), (7, .int 0), (6, .int 0), (5, .int x47), (4, .int x5), (0, .ref (base + a0)), (1, .int a1), (2, .int a2), (3, .int a3)]) hx hb dX12_chair_78 hl (by decide) rfl (fun ls hl => ?_)
              have W80_60 : ∀ (n_60 : Nat) (x57 : Int32) (x58 : Int32) (x59 : Int32) (M60 : MT) (R61 : RT) (J62 : JT) (H : Heap) (locs : List Loc) (ls : Array Slot) (h_x57 : iv 0 1 x57) (h_x58 : iv (-2147483648) 2147483647 x58) (h_x59 : iv 0 2147483647 x59) (hm_60 : 2147483647 - x59.toInt < (n_60 : Int)) (hS : SB D cy base Z K N Lt_X12_chair LRt_X12_chair Ma Ra M60 R61 J62 s H locs) (hl : lv_has ls 11 [(6, .int x57), (7, .int x58), (8, .int x59), (5, .int x47), (4, .int x5), (0, .ref (base + a0)), (1, .int a1), (2, .int a2), (3, .int a3)]), W p l e (md_rm 6 0 0) s m args below meth c H locs 0 0 Q (F0 m 80 ls []) := by
                intro n_60
                induction n_60 with
                | zero =>
                  intro x57 x58 x59 M60 R61 J62 H locs ls h_x57 h_x58 h_x59 hm_60 hS hl
                  exfalso
                  have := (h19).1; have := (h19).2; have := (h_a2).1; have := (h_a2).2; have := (h45).1; have := (h45).2; have := (h_x59).1; have := (h_x59).2; omega
                | succ n_60 ih_60 =>
                  intro x57 x58 x59 M60 R61 J62 H locs ls h_x57 h_x58 h_x59 hm_60 hS hl
                  have f63 := hS.2.2.1
                  have g64 := hS.2.2.2
                  refine lv_iload hx hb dX12_chair_80 (lv_at hl 2 rfl) ?_
                  refine lv_iload hx hb dX12_chair_82 (lv_at hl 3 rfl) ?_
                  refine lv_icmp_ge (tgt := 260) hx hb dX12_chair_84 (by decide) (fun c65 => ?_) (fun c65 => ?_)
                  · have q66 : x47.toInt ≤ x59.toInt := ti_le c65
                    refine lv_iload_n hx hb dX12_chair_260 rfl (lv_at hl 8 rfl) ?_
                    refine lv_if_ne (tgt := 269) hx hb dX12_chair_261 (by decide) (fun c67 => ?_) (fun c67 => ?_)
                    · have q68 : ¬ a3.toInt = 0 := ti_ne c67
                      have h69 : iv 1 6 a3 := ⟨by have := (h45).1; have := ((iv_c (c := 0) (n := 0) (by decide))).1; have := ((iv_c (c := 0) (n := 0) (by decide))).2; omega, by have := (h45).2; have := ((iv_c (c := 0) (n := 0) (by decide))).1; have := ((iv_c (c := 0) (n := 0) (by decide))).2; omega⟩
                      refine lv_aload_n hx hb dX12_chair_269 rfl (lv_at hl 5 rfl) ?_
                      refine tw_getr hx hb hW hown hK hS f_X12_87_11 hz_a0 hk_a0 (t := 14) (n := 6) rfl dX12_chair_270 (fun b70 k71 hz_b70 hk_b70 hn_b70 => ?_)
                      have hn_b70 := hn_b70 (by decide)
                      refine lv_iload_n hx hb dX12_chair_273 rfl (lv_at hl 8 rfl) ?_
                      refine lv_iconst (v := 1) hx hb dX12_chair_274 (by decide) ?_
                      refine tw_isub (lo := 0) (hi := 5) hx hb h69 (iv_c (c := 1) (n := 1) (by decide)) ⟨by decide, by decide⟩ ⟨by decide, by decide⟩ dX12_chair_275 (fun x74 e73 h72 => ?_)
                      have e73 : x74.toInt = a3.toInt - 1 := e73
                      refine tw_iald hx hb hK hS hz_b70 hk_b70 (Or.inl rfl) hn_b70 (lo := (-2147483648)) (hi := 2147483647) h72 ⟨by decide, by decide⟩ rg_u14 dX12_chair_276 (fun x77 k76 h75 => ?_)
                      exact tw_endi hx hb hr hlocks hK hT hS hQ (h75) dX12_chair_277
                    · have q78 : a3.toInt = 0 := ti_eq c67
                      have h79 : iv 0 0 a3 := ⟨by have := (h45).1; have := ((iv_c (c := 0) (n := 0) (by decide))).1; omega, by have := (h45).2; have := ((iv_c (c := 0) (n := 0) (by decide))).2; omega⟩
                      refine lv_iload hx hb dX12_chair_264 (lv_at hl 1 rfl) ?_
                      refine lv_goto (tgt := 277) hx hb dX12_chair_266 (by decide) ?_
                      exact tw_endi hx hb hr hlocks hK hT hS hQ (h_x58) dX12_chair_277
                  · have q80 : x59.toInt < x47.toInt := ti_nle c65
                    have h81 : iv 0 2147483646 x59 := iv_ltL (y := x47) h_x59 h_x47 q80 (by decide)
                    have h82 : iv 1 2147483647 x47 := iv_gtL (y := x59) h_x47 h_x59 q80 (by decide)
                    refine lv_aload_n hx hb dX12_chair_87 rfl (lv_at hl 5 rfl) ?_
                    refine lv_iload hx hb dX12_chair_88 (lv_at hl 2 rfl) ?_
                    refine lv_iload hx hb dX12_chair_90 (lv_at hl 4 rfl) ?_
                    refine tw_goi hS (md_runV (As := [.int x59, .int x5]) (rest := []) hx hb hml hown hW hK hT hS.1 (t_X12_isRow l D cy tx base Z K N M60 R61 J62 hS.2.1 a0 hz_a0 hk_a0 x59 (iv_mono h81 (by decide) (by decide)) x5 h33) s_X12_472 ⟨rfl, rfl, ⟨Nat.le_of_ble_eq_true rfl, Nat.le_of_ble_eq_true rfl⟩, ⟨Nat.le_of_ble_eq_true rfl, Nat.le_of_ble_eq_true rfl⟩⟩ hz_a0 hk_a0 (by decide) rfl rfl hl.1 rfl (Nat.le_of_ble_eq_true rfl) dX12_chair_92) rfl rfl (fun x89 H locs M86 R87 J85 hS f83 g84 E88 => ?_)
                    have eR87 := Fr.nil g84 rfl
                    subst eR87
                    have h_x89 := E88
                    refine lv_if_ne (tgt := 101) hx hb dX12_chair_95 (by decide) (fun c90 => ?_) (fun c90 => ?_)
                    · have q91 : ¬ x89.toInt = 0 := ti_ne c90
                      have h92 : iv 1 1 x89 := ⟨by have := (h_x89).1; have := ((iv_c (c := 0) (n := 0) (by decide))).1; have := ((iv_c (c := 0) (n := 0) (by decide))).2; omega, by have := (h_x89).2; have := ((iv_c (c := 0) (n := 0) (by decide))).1; have := ((iv_c (c := 0) (n := 0) (by decide))).2; omega⟩
                      refine lv_aload_n hx hb dX12_chair_101 rfl (lv_at hl 5 rfl) ?_
                      have k93 : R61 a0 25 = some b1 := (Fr.kp (k := 25) g64 hk_a0 rfl).trans k2
                      have k94 : M86 b1 (4 : Int32).toNatClampNeg = x5 := ((Fr.kp (k := (4 : Int32).toNatClampNeg) f83 hk_b1 rfl).trans (Fr.kp (k := (4 : Int32).toNatClampNeg) f63 hk_b1 rfl)).trans k4
                      refine tw_gov hS (md_runV (As := []) (rest := []) hx hb hml hown hW hK hT hS.1 (t_X12_begins l D cy tx base Z K N M86 R61 J85 hS.2.1 a0 hz_a0 hk_a0 b1 k93 x5 k94 (iv_mono h33 (by decide) (by decide))) s_X12_393 ⟨rfl, rfl, ⟨Nat.le_of_ble_eq_true rfl, Nat.le_of_ble_eq_true rfl⟩, ⟨Nat.le_of_ble_eq_true rfl, Nat.le_of_ble_eq_true rfl⟩⟩ hz_a0 hk_a0 (by decide) rfl rfl hl.1 rfl (Nat.le_of_ble_eq_true rfl) dX12_chair_102) rfl rfl (fun H locs M98 R99 J97 hS f95 g96 E100 => ?_)
                      have eR99 := Fr.nil g96 rfl
                      subst eR99
                      have p101 := E100
                      have k102 : M98 a0 30 = x5 := p101
                      refine lv_iconst (v := 0) hx hb dX12_chair_105 (by decide) ?_
                      refine lv_istore (lv' := [(9, .int 0), (6, .int x57), (7, .int x58), (8, .int x59), (5, .int x47), (4, .int x5), (0, .ref (base + a0)), (1, .int a1), (2, .int a2), (3, .int a3)]) hx hb dX12_chair_106 hl (by decide) rfl (fun ls hl => ?_)
                      have W108_104 : ∀ (n_104 : Nat) (x103 : Int32) (x109 : Int32) (M104 : MT) (R105 : RT) (J106 : JT) (H : Heap) (locs : List Loc) (ls : Array Slot) (h_x103 : iv 0 6 x103) (h_x109 : iv 1 6 x109) (k110 : M104 a0 30 = x109) (hm_104 : 6 - x103.toInt < (n_104 : Int)) (hS : SB D cy base Z K N Lt_X12_chair LRt_X12_chair Ma Ra M104 R105 J106 s H locs) (hl : lv_has ls 11 [(9, .int x103), (6, .int x57), (7, .int x58), (8, .int x59), (5, .int x47), (4, .int x5), (0, .ref (base + a0)), (1, .int a1), (2, .int a2), (3, .int a3)]), W p l e (md_rm 6 0 0) s m args below meth c H locs 0 0 Q (F0 m 108 ls []) := by
                        intro n_104
                        induction n_104 with
                        | zero =>
                          intro x103 x109 M104 R105 J106 H locs ls h_x103 h_x109 k110 hm_104 hS hl
                          exfalso
                          have := (h19).1; have := (h19).2; have := (h_a2).1; have := (h_a2).2; have := (h45).1; have := (h45).2; have := (h_x103).1; have := (h_x103).2; omega
                        | succ n_104 ih_104 =>
                          intro x103 x109 M104 R105 J106 H locs ls h_x103 h_x109 k110 hm_104 hS hl
                          have f107 := hS.2.2.1
                          have g108 := hS.2.2.2
                          refine lv_iload hx hb dX12_chair_108 (lv_at hl 0 rfl) ?_
                          refine lv_iload hx hb dX12_chair_110 (lv_at hl 5 rfl) ?_
                          refine lv_icmp_ge (tgt := 144) hx hb dX12_chair_112 (by decide) (fun c111 => ?_) (fun c111 => ?_)
                          · have q112 : x5.toInt ≤ x103.toInt := ti_le c111
                            have h113 : iv 1 6 x103 := iv_geL (y := x5) h_x103 h33 q112 (by decide)
                            refine lv_aload_n hx hb dX12_chair_144 rfl (lv_at hl 6 rfl) ?_
                            refine lv_iconst (v := 0) hx hb dX12_chair_145 (by decide) ?_
                            refine tw_puti hx hb hW hown hK hS f_X12_410_11 hz_a0 hk_a0 rfl rfl (lo := (-2147483648)) (hi := 2147483647) rfl (iv_mono (iv_c (c := 0) (n := 0) (by decide)) (by decide) (by decide)) rfl dX12_chair_146 (fun H locs M116 hS k114 f115 => ?_)
                            refine lv_aload_n hx hb dX12_chair_149 rfl (lv_at hl 6 rfl) ?_
                            refine lv_iload_n hx hb dX12_chair_150 rfl (lv_at hl 7 rfl) ?_
                            refine tw_gov hS (md_runV (As := [.int a1]) (rest := []) hx hb hml hown hW hK hT hS.1 (t_X12_passes l D cy tx base Z K N M116 R105 J106 hS.2.1 a0 hz_a0 hk_a0 a1 h19 (Codes.fr co_a0 hTy hz_a0 hk_a0 hS.2.2.1 hS.2.2.2 rfl)) s_X12_417 ⟨rfl, rfl, ⟨Nat.le_of_ble_eq_true rfl, Nat.le_of_ble_eq_true rfl⟩, ⟨Nat.le_of_ble_eq_true rfl, Nat.le_of_ble_eq_true rfl⟩⟩ hz_a0 hk_a0 (by decide) rfl rfl hl.1 rfl (Nat.le_of_ble_eq_true rfl) dX12_chair_151) rfl rfl (fun H locs M120 R121 J119 hS f117 g118 E122 => ?_)
                            have eR121 := Fr.nil g118 rfl
                            subst eR121
                            refine lv_iload hx hb dX12_chair_154 (lv_at hl 1 rfl) ?_
                            have J200_123 : ∀  (M123 : MT) (R124 : RT) (J125 : JT) (H : Heap) (locs : List Loc) (ls : Array Slot) (hS : SB D cy base Z K N Lt_X12_chair LRt_X12_chair Ma Ra M123 R124 J125 s H locs) (hl : lv_has ls 11 [(9, .int x103), (6, .int x57), (7, .int x58), (8, .int x59), (5, .int x47), (4, .int x5), (0, .ref (base + a0)), (1, .int a1), (2, .int a2), (3, .int a3)]), W p l e (md_rm 6 0 0) s m args below meth c H locs 0 0 Q (F0 m 200 ls []) := by
                              intro  M123 R124 J125 H locs ls  hS hl
                              have f126 := hS.2.2.1
                              have g127 := hS.2.2.2
                              refine lv_iconst (v := 1) hx hb dX12_chair_200 (by decide) ?_
                              refine lv_goto (tgt := 205) hx hb dX12_chair_201 (by decide) ?_
                              refine lv_istore (lv' := [(9, .int 1), (6, .int x57), (7, .int x58), (8, .int x59), (5, .int x47), (4, .int x5), (0, .ref (base + a0)), (1, .int a1), (2, .int a2), (3, .int a3)]) hx hb dX12_chair_205 hl (by decide) rfl (fun ls hl => ?_)
                              refine lv_iload hx hb dX12_chair_207 (lv_at hl 0 rfl) ?_
                              refine lv_if_ne (tgt := 215) hx hb dX12_chair_209 (by decide) (fun _ => ?_) (fun h => absurd h (by decide))
                              refine lv_iconst (v := 1) hx hb dX12_chair_215 (by decide) ?_
                              refine lv_istore (lv' := [(6, .int 1), (9, .int 1), (7, .int x58), (8, .int x59), (5, .int x47), (4, .int x5), (0, .ref (base + a0)), (1, .int a1), (2, .int a2), (3, .int a3)]) hx hb dX12_chair_216 hl (by decide) rfl (fun ls hl => ?_)
                              refine lv_aload_n hx hb dX12_chair_218 rfl (lv_at hl 6 rfl) ?_
                              refine tw_geti hx hb hW hown hK hS f_X12_410_11 hz_a0 hk_a0 (lo := (-2147483648)) (hi := 2147483647) rfl dX12_chair_219 (fun x130 k129 h128 => ?_)
                              refine lv_istore (lv' := [(7, .int x130), (6, .int 1), (9, .int 1), (8, .int x59), (5, .int x47), (4, .int x5), (0, .ref (base + a0)), (1, .int a1), (2, .int a2), (3, .int a3)]) hx hb dX12_chair_222 hl (by decide) rfl (fun ls hl => ?_)
                              refine lv_iconst (v := 0) hx hb dX12_chair_224 (by decide) ?_
                              refine lv_istore (lv' := [(10, .int 0), (7, .int x130), (6, .int 1), (9, .int 1), (8, .int x59), (5, .int x47), (4, .int x5), (0, .ref (base + a0)), (1, .int a1), (2, .int a2), (3, .int a3)]) hx hb dX12_chair_225 hl (by decide) rfl (fun ls hl => ?_)
                              have W227_132 : ∀ (n_132 : Nat) (x131 : Int32) (M132 : MT) (R133 : RT) (J134 : JT) (H : Heap) (locs : List Loc) (ls : Array Slot) (h_x131 : iv 0 6 x131) (hm_132 : 6 - x131.toInt < (n_132 : Int)) (hS : SB D cy base Z K N Lt_X12_chair LRt_X12_chair Ma Ra M132 R133 J134 s H locs) (hl : lv_has ls 11 [(10, .int x131), (7, .int x130), (6, .int 1), (9, .int 1), (8, .int x59), (5, .int x47), (4, .int x5), (0, .ref (base + a0)), (1, .int a1), (2, .int a2), (3, .int a3)]), W p l e (md_rm 6 0 0) s m args below meth c H locs 0 0 Q (F0 m 227 ls []) := by
                                intro n_132
                                induction n_132 with
                                | zero =>
                                  intro x131 M132 R133 J134 H locs ls h_x131 hm_132 hS hl
                                  exfalso
                                  have := (h19).1; have := (h19).2; have := (h_a2).1; have := (h_a2).2; have := (h45).1; have := (h45).2; have := (h_x131).1; have := (h_x131).2; omega
                                | succ n_132 ih_132 =>
                                  intro x131 M132 R133 J134 H locs ls h_x131 hm_132 hS hl
                                  have f135 := hS.2.2.1
                                  have g136 := hS.2.2.2
                                  refine lv_iload hx hb dX12_chair_227 (lv_at hl 0 rfl) ?_
                                  refine lv_iload hx hb dX12_chair_229 (lv_at hl 6 rfl) ?_
                                  refine lv_icmp_ge (tgt := 254) hx hb dX12_chair_231 (by decide) (fun c137 => ?_) (fun c137 => ?_)
                                  · have q138 : x5.toInt ≤ x131.toInt := ti_le c137
                                    have h139 : iv 1 6 x131 := iv_geL (y := x5) h_x131 h33 q138 (by decide)
                                    refine tw_iinc (lv' := fun x142 => [(8, .int x142), (10, .int x131), (7, .int x130), (6, .int 1), (9, .int 1), (5, .int x47), (4, .int x5), (0, .ref (base + a0)), (1, .int a1), (2, .int a2), (3, .int a3)]) (lo := 1) (hi := 2147483647) hx hb dX12_chair_254 hl (k := 4) rfl h81 (by decide) ⟨by decide, by decide⟩ ⟨by decide, by decide⟩ (by decide) (fun _ => rfl) (fun x142 ls e141 h140 hl => ?_)
                                    refine lv_goto (tgt := 80) hx hb dX12_chair_257 (by decide) ?_
                                    have hm143 : 2147483647 - x142.toInt < (n_60 : Int) := by
                                      have := (h19).1; have := (h19).2; have := (h_a2).1; have := (h_a2).2; have := (h45).1; have := (h45).2; have := (h140).1; have := (h140).2; have := (h81).1; have := (h81).2; omega
                                    exact ih_60 1 x130 x142 M132 R133 J134 H locs _ (iv_mono (iv_c (c := 1) (n := 1) (by decide)) (by decide) (by decide)) h128 (iv_mono h140 (by decide) (by decide)) hm143 hS (lv_sub hl [3, 2, 0, 5, 6, 7, 8, 9, 10] rfl)
                                  · have q144 : x131.toInt < x5.toInt := ti_nle c137
                                    have h145 : iv 0 5 x131 := iv_ltL (y := x5) h_x131 h33 q144 (by decide)
                                    refine lv_aload_n hx hb dX12_chair_234 rfl (lv_at hl 7 rfl) ?_
                                    refine tw_getr hx hb hW hown hK hS f_X12_87_11 hz_a0 hk_a0 (t := 14) (n := 6) rfl dX12_chair_235 (fun b146 k147 hz_b146 hk_b146 hn_b146 => ?_)
                                    have hn_b146 := hn_b146 (by decide)
                                    refine lv_iload hx hb dX12_chair_238 (lv_at hl 0 rfl) ?_
                                    refine lv_aload_n hx hb dX12_chair_240 rfl (lv_at hl 7 rfl) ?_
                                    refine tw_getr hx hb hW hown hK hS f_X12_54_11 hz_a0 hk_a0 (t := 31) (n := 8) rfl dX12_chair_241 (fun b148 k149 hz_b148 hk_b148 hn_b148 => ?_)
                                    have hn_b148 := hn_b148 (by decide)
                                    refine lv_iload hx hb dX12_chair_244 (lv_at hl 0 rfl) ?_
                                    refine tw_iald hx hb hK hS hz_b148 hk_b148 (Or.inr (by decide)) hn_b148 (lo := 0) (hi := 11) h145 ⟨by decide, by decide⟩ rg_u31 dX12_chair_246 (fun x152 k151 h150 => ?_)
                                    refine tw_iast hx hb hK hS hz_b146 hk_b146 (Or.inl rfl) hn_b146 h145 ⟨by decide, by decide⟩ h150 (rg_s14 ⟨by decide, by decide⟩) (jl := 0) (jh := 1999999) ⟨by decide, by decide⟩ rfl dX12_chair_247 (fun H locs M155 hS k153 f154 => ?_)
                                    refine tw_iinc (lv' := fun x158 => [(10, .int x158), (7, .int x130), (6, .int 1), (9, .int 1), (8, .int x59), (5, .int x47), (4, .int x5), (0, .ref (base + a0)), (1, .int a1), (2, .int a2), (3, .int a3)]) (lo := 1) (hi := 6) hx hb dX12_chair_248 hl (k := 0) rfl h145 (by decide) ⟨by decide, by decide⟩ ⟨by decide, by decide⟩ (by decide) (fun _ => rfl) (fun x158 ls e157 h156 hl => ?_)
                                    refine lv_goto (tgt := 227) hx hb dX12_chair_251 (by decide) ?_
                                    have hm159 : 6 - x158.toInt < (n_132 : Int) := by
                                      have := (h19).1; have := (h19).2; have := (h_a2).1; have := (h_a2).2; have := (h45).1; have := (h45).2; have := (h145).1; have := (h145).2; have := (h156).1; have := (h156).2; omega
                                    exact ih_132 x158 M155 R133 J134 H locs _ (iv_mono h156 (by decide) (by decide)) hm159 hS hl
                              have hm160 : 6 - (0 : Int32).toInt < (((7 : Nat) : Int) : Int) := by
                                have := (h19).1; have := (h19).2; have := (h_a2).1; have := (h_a2).2; have := (h45).1; have := (h45).2; have : (0 : Int32).toInt = 0 := (by decide); omega
                              exact W227_132 7 0 M123 R124 J125 H locs _ (iv_mono (iv_c (c := 0) (n := 0) (by decide)) (by decide) (by decide)) hm160 hS hl
                            refine lv_if_eq (tgt := 200) hx hb dX12_chair_156 (by decide) (fun c161 => ?_) (fun c161 => ?_)
                            · have q162 : x57.toInt = 0 := ti_eq c161
                              have h163 : iv 0 0 x57 := ⟨by have := (h_x57).1; have := ((iv_c (c := 0) (n := 0) (by decide))).1; omega, by have := (h_x57).2; have := ((iv_c (c := 0) (n := 0) (by decide))).2; omega⟩
                              exact J200_123  M120 R105 J119 H locs _  hS hl
                            · have q164 : ¬ x57.toInt = 0 := ti_ne c161
                              have h165 : iv 1 1 x57 := ⟨by have := (h_x57).1; have := ((iv_c (c := 0) (n := 0) (by decide))).1; have := ((iv_c (c := 0) (n := 0) (by decide))).2; omega, by have := (h_x57).2; have := ((iv_c (c := 0) (n := 0) (by decide))).1; have := ((iv_c (c := 0) (n := 0) (by decide))).2; omega⟩
                              refine lv_iload_n hx hb dX12_chair_159 rfl (lv_at hl 8 rfl) ?_
                              refine lv_if_eq (tgt := 175) hx hb dX12_chair_160 (by decide) (fun c166 => ?_) (fun c166 => ?_)
                              · have q167 : a2.toInt = 0 := ti_eq c166
                                have h168 : iv 0 0 a2 := ⟨by have := (h_a2).1; have := ((iv_c (c := 0) (n := 0) (by decide))).1; omega, by have := (h_a2).2; have := ((iv_c (c := 0) (n := 0) (by decide))).2; omega⟩
                                refine lv_aload_n hx hb dX12_chair_175 rfl (lv_at hl 6 rfl) ?_
                                refine tw_geti hx hb hW hown hK hS f_X12_410_11 hz_a0 hk_a0 (lo := (-2147483648)) (hi := 2147483647) rfl dX12_chair_176 (fun x171 k170 h169 => ?_)
                                refine lv_iload hx hb dX12_chair_179 (lv_at hl 2 rfl) ?_
                                refine lv_icmp_lt (tgt := 200) hx hb dX12_chair_181 (by decide) (fun c172 => ?_) (fun c172 => ?_)
                                · have q173 : x171.toInt < x58.toInt := ti_lt c172
                                  have h174 : iv (-2147483648) 2147483646 x171 := iv_ltL (y := x58) h169 h_x58 q173 (by decide)
                                  have h175 : iv (-2147483647) 2147483647 x58 := iv_gtL (y := x171) h_x58 h169 q173 (by decide)
                                  exact J200_123  M120 R105 J119 H locs _  hS hl
                                · have q176 : x58.toInt ≤ x171.toInt := ti_nlt c172
                                  refine lv_aload_n hx hb dX12_chair_184 rfl (lv_at hl 6 rfl) ?_
                                  refine tw_getk hx hb hW hown hK hS f_X12_410_11 hz_a0 hk_a0 (v := x171) k170 dX12_chair_185 ?_
                                  refine lv_iload hx hb dX12_chair_188 (lv_at hl 2 rfl) ?_
                                  have J204_177 : ∀  (M177 : MT) (R178 : RT) (J179 : JT) (H : Heap) (locs : List Loc) (ls : Array Slot) (hS : SB D cy base Z K N Lt_X12_chair LRt_X12_chair Ma Ra M177 R178 J179 s H locs) (hl : lv_has ls 11 [(9, .int x103), (6, .int x57), (7, .int x58), (8, .int x59), (5, .int x47), (4, .int x5), (0, .ref (base + a0)), (1, .int a1), (2, .int a2), (3, .int a3)]), W p l e (md_rm 6 0 0) s m args below meth c H locs 0 0 Q (F0 m 204 ls []) := by
                                    intro  M177 R178 J179 H locs ls  hS hl
                                    have f180 := hS.2.2.1
                                    have g181 := hS.2.2.2
                                    refine lv_iconst (v := 0) hx hb dX12_chair_204 (by decide) ?_
                                    refine lv_istore (lv' := [(9, .int 0), (6, .int x57), (7, .int x58), (8, .int x59), (5, .int x47), (4, .int x5), (0, .ref (base + a0)), (1, .int a1), (2, .int a2), (3, .int a3)]) hx hb dX12_chair_205 hl (by decide) rfl (fun ls hl => ?_)
                                    refine lv_iload hx hb dX12_chair_207 (lv_at hl 0 rfl) ?_
                                    refine lv_if_ne (tgt := 215) hx hb dX12_chair_209 (by decide) (fun h => absurd h (by decide)) (fun _ => ?_)
                                    refine lv_goto (tgt := 254) hx hb dX12_chair_212 (by decide) ?_
                                    refine tw_iinc (lv' := fun x184 => [(8, .int x184), (9, .int 0), (6, .int x57), (7, .int x58), (5, .int x47), (4, .int x5), (0, .ref (base + a0)), (1, .int a1), (2, .int a2), (3, .int a3)]) (lo := 1) (hi := 2147483647) hx hb dX12_chair_254 hl (k := 3) rfl h81 (by decide) ⟨by decide, by decide⟩ ⟨by decide, by decide⟩ (by decide) (fun _ => rfl) (fun x184 ls e183 h182 hl => ?_)
                                    refine lv_goto (tgt := 80) hx hb dX12_chair_257 (by decide) ?_
                                    have hm185 : 2147483647 - x184.toInt < (n_60 : Int) := by
                                      have := (h19).1; have := (h19).2; have := (h168).1; have := (h168).2; have := (h45).1; have := (h45).2; have := (h182).1; have := (h182).2; have := (h81).1; have := (h81).2; omega
                                    exact ih_60 x57 x58 x184 M177 R178 J179 H locs _ (iv_mono h165 (by decide) (by decide)) h_x58 (iv_mono h182 (by decide) (by decide)) hm185 hS (lv_sub hl [2, 3, 0, 4, 5, 6, 7, 8, 9] rfl)
                                  refine lv_icmp_ne (tgt := 204) hx hb dX12_chair_190 (by decide) (fun c186 => ?_) (fun c186 => ?_)
                                  · have q187 : ¬ x171.toInt = x58.toInt := ti_ne c186
                                    exact J204_177  M120 R105 J119 H locs _  hS hl
                                  · have q188 : x171.toInt = x58.toInt := ti_eq c186
                                    refine lv_aload_n hx hb dX12_chair_193 rfl (lv_at hl 6 rfl) ?_
                                    have k189 : M120 a0 30 = x109 := ((Fr.kp (k := 30) f117 hk_a0 rfl).trans (Fr.kp (k := 30) f115 hk_a0 rfl)).trans k110
                                    refine tw_goi hS (md_runV (As := []) (rest := []) hx hb hml hown hW hK hT hS.1 (t_X12_isAhead l D cy tx base Z K N M120 R105 J119 hS.2.1 a0 hz_a0 hk_a0 x109 k189 (iv_mono h_x109 (by decide) (by decide))) s_X12_475 ⟨rfl, rfl, ⟨Nat.le_of_ble_eq_true rfl, Nat.le_of_ble_eq_true rfl⟩, ⟨Nat.le_of_ble_eq_true rfl, Nat.le_of_ble_eq_true rfl⟩⟩ hz_a0 hk_a0 (by decide) rfl rfl hl.1 rfl (Nat.le_of_ble_eq_true rfl) dX12_chair_194) rfl rfl (fun x196 H locs M193 R194 J192 hS f190 g191 E195 => ?_)
                                    have eM193 := Fr.nil f190 rfl
                                    subst eM193
                                    have eR194 := Fr.nil g191 rfl
                                    subst eR194
                                    have h_x196 := E195
                                    refine lv_if_eq (tgt := 204) hx hb dX12_chair_197 (by decide) (fun c197 => ?_) (fun c197 => ?_)
                                    · have q198 : x196.toInt = 0 := ti_eq c197
                                      have h199 : iv 0 0 x196 := ⟨by have := (h_x196).1; have := ((iv_c (c := 0) (n := 0) (by decide))).1; omega, by have := (h_x196).2; have := ((iv_c (c := 0) (n := 0) (by decide))).2; omega⟩
                                      exact J204_177  M120 R105 J192 H locs _  hS hl
                                    · have q200 : ¬ x196.toInt = 0 := ti_ne c197
                                      have h201 : iv 1 1 x196 := ⟨by have := (h_x196).1; have := ((iv_c (c := 0) (n := 0) (by decide))).1; have := ((iv_c (c := 0) (n := 0) (by decide))).2; omega, by have := (h_x196).2; have := ((iv_c (c := 0) (n := 0) (by decide))).1; have := ((iv_c (c := 0) (n := 0) (by decide))).2; omega⟩
                                      exact J200_123  M120 R105 J192 H locs _  hS hl
                              · have q202 : ¬ a2.toInt = 0 := ti_ne c166
                                refine lv_aload_n hx hb dX12_chair_163 rfl (lv_at hl 6 rfl) ?_
                                refine tw_geti hx hb hW hown hK hS f_X12_410_11 hz_a0 hk_a0 (lo := (-2147483648)) (hi := 2147483647) rfl dX12_chair_164 (fun x205 k204 h203 => ?_)
                                refine lv_iload hx hb dX12_chair_167 (lv_at hl 2 rfl) ?_
                                refine lv_icmp_le (tgt := 184) hx hb dX12_chair_169 (by decide) (fun c206 => ?_) (fun c206 => ?_)
                                · have q207 : x205.toInt ≤ x58.toInt := ti_le c206
                                  refine lv_aload_n hx hb dX12_chair_184 rfl (lv_at hl 6 rfl) ?_
                                  refine tw_getk hx hb hW hown hK hS f_X12_410_11 hz_a0 hk_a0 (v := x205) k204 dX12_chair_185 ?_
                                  refine lv_iload hx hb dX12_chair_188 (lv_at hl 2 rfl) ?_
                                  have J204_208 : ∀  (M208 : MT) (R209 : RT) (J210 : JT) (H : Heap) (locs : List Loc) (ls : Array Slot) (hS : SB D cy base Z K N Lt_X12_chair LRt_X12_chair Ma Ra M208 R209 J210 s H locs) (hl : lv_has ls 11 [(9, .int x103), (6, .int x57), (7, .int x58), (8, .int x59), (5, .int x47), (4, .int x5), (0, .ref (base + a0)), (1, .int a1), (2, .int a2), (3, .int a3)]), W p l e (md_rm 6 0 0) s m args below meth c H locs 0 0 Q (F0 m 204 ls []) := by
                                    intro  M208 R209 J210 H locs ls  hS hl
                                    have f211 := hS.2.2.1
                                    have g212 := hS.2.2.2
                                    refine lv_iconst (v := 0) hx hb dX12_chair_204 (by decide) ?_
                                    refine lv_istore (lv' := [(9, .int 0), (6, .int x57), (7, .int x58), (8, .int x59), (5, .int x47), (4, .int x5), (0, .ref (base + a0)), (1, .int a1), (2, .int a2), (3, .int a3)]) hx hb dX12_chair_205 hl (by decide) rfl (fun ls hl => ?_)
                                    refine lv_iload hx hb dX12_chair_207 (lv_at hl 0 rfl) ?_
                                    refine lv_if_ne (tgt := 215) hx hb dX12_chair_209 (by decide) (fun h => absurd h (by decide)) (fun _ => ?_)
                                    refine lv_goto (tgt := 254) hx hb dX12_chair_212 (by decide) ?_
                                    refine tw_iinc (lv' := fun x215 => [(8, .int x215), (9, .int 0), (6, .int x57), (7, .int x58), (5, .int x47), (4, .int x5), (0, .ref (base + a0)), (1, .int a1), (2, .int a2), (3, .int a3)]) (lo := 1) (hi := 2147483647) hx hb dX12_chair_254 hl (k := 3) rfl h81 (by decide) ⟨by decide, by decide⟩ ⟨by decide, by decide⟩ (by decide) (fun _ => rfl) (fun x215 ls e214 h213 hl => ?_)
                                    refine lv_goto (tgt := 80) hx hb dX12_chair_257 (by decide) ?_
                                    have hm216 : 2147483647 - x215.toInt < (n_60 : Int) := by
                                      have := (h19).1; have := (h19).2; have := (h_a2).1; have := (h_a2).2; have := (h45).1; have := (h45).2; have := (h213).1; have := (h213).2; have := (h81).1; have := (h81).2; omega
                                    exact ih_60 x57 x58 x215 M208 R209 J210 H locs _ (iv_mono h165 (by decide) (by decide)) h_x58 (iv_mono h213 (by decide) (by decide)) hm216 hS (lv_sub hl [2, 3, 0, 4, 5, 6, 7, 8, 9] rfl)
                                  refine lv_icmp_ne (tgt := 204) hx hb dX12_chair_190 (by decide) (fun c217 => ?_) (fun c217 => ?_)
                                  · have q218 : ¬ x205.toInt = x58.toInt := ti_ne c217
                                    exact J204_208  M120 R105 J119 H locs _  hS hl
                                  · have q219 : x205.toInt = x58.toInt := ti_eq c217
                                    refine lv_aload_n hx hb dX12_chair_193 rfl (lv_at hl 6 rfl) ?_
                                    have k220 : M120 a0 30 = x109 := ((Fr.kp (k := 30) f117 hk_a0 rfl).trans (Fr.kp (k := 30) f115 hk_a0 rfl)).trans k110
                                    refine tw_goi hS (md_runV (As := []) (rest := []) hx hb hml hown hW hK hT hS.1 (t_X12_isAhead l D cy tx base Z K N M120 R105 J119 hS.2.1 a0 hz_a0 hk_a0 x109 k220 (iv_mono h_x109 (by decide) (by decide))) s_X12_475 ⟨rfl, rfl, ⟨Nat.le_of_ble_eq_true rfl, Nat.le_of_ble_eq_true rfl⟩, ⟨Nat.le_of_ble_eq_true rfl, Nat.le_of_ble_eq_true rfl⟩⟩ hz_a0 hk_a0 (by decide) rfl rfl hl.1 rfl (Nat.le_of_ble_eq_true rfl) dX12_chair_194) rfl rfl (fun x227 H locs M224 R225 J223 hS f221 g222 E226 => ?_)
                                    have eM224 := Fr.nil f221 rfl
                                    subst eM224
                                    have eR225 := Fr.nil g222 rfl
                                    subst eR225
                                    have h_x227 := E226
                                    refine lv_if_eq (tgt := 204) hx hb dX12_chair_197 (by decide) (fun c228 => ?_) (fun c228 => ?_)
                                    · have q229 : x227.toInt = 0 := ti_eq c228
                                      have h230 : iv 0 0 x227 := ⟨by have := (h_x227).1; have := ((iv_c (c := 0) (n := 0) (by decide))).1; omega, by have := (h_x227).2; have := ((iv_c (c := 0) (n := 0) (by decide))).2; omega⟩
                                      exact J204_208  M120 R105 J223 H locs _  hS hl
                                    · have q231 : ¬ x227.toInt = 0 := ti_ne c228
                                      have h232 : iv 1 1 x227 := ⟨by have := (h_x227).1; have := ((iv_c (c := 0) (n := 0) (by decide))).1; have := ((iv_c (c := 0) (n := 0) (by decide))).2; omega, by have := (h_x227).2; have := ((iv_c (c := 0) (n := 0) (by decide))).1; have := ((iv_c (c := 0) (n := 0) (by decide))).2; omega⟩
                                      exact J200_123  M120 R105 J223 H locs _  hS hl
                                · have q233 : x58.toInt < x205.toInt := ti_nle c206
                                  have h234 : iv (-2147483647) 2147483647 x205 := iv_gtL (y := x58) h203 h_x58 q233 (by decide)
                                  have h235 : iv (-2147483648) 2147483646 x58 := iv_ltL (y := x205) h_x58 h203 q233 (by decide)
                                  refine lv_goto (tgt := 200) hx hb dX12_chair_172 (by decide) ?_
                                  exact J200_123  M120 R105 J119 H locs _  hS hl
                          · have q236 : x103.toInt < x5.toInt := ti_nle c111
                            have h237 : iv 0 5 x103 := iv_ltL (y := x5) h_x103 h33 q236 (by decide)
                            refine lv_aload_n hx hb dX12_chair_115 rfl (lv_at hl 6 rfl) ?_
                            refine tw_getr hx hb hW hown hK hS f_X12_54_11 hz_a0 hk_a0 (t := 31) (n := 8) rfl dX12_chair_116 (fun b238 k239 hz_b238 hk_b238 hn_b238 => ?_)
                            have hn_b238 := hn_b238 (by decide)
                            refine lv_iload hx hb dX12_chair_119 (lv_at hl 0 rfl) ?_
                            refine lv_aload_n hx hb dX12_chair_121 rfl (lv_at hl 6 rfl) ?_
                            have k240 : R105 a0 25 = some b1 := (Fr.kp (k := 25) g108 hk_a0 rfl).trans k2
                            refine tw_getrk hx hb hW hown hK hS f_X12_45_11 hz_a0 hk_a0 (b := b1) k240 dX12_chair_122 ?_
                            refine lv_sipush (v := 170) hx hb dX12_chair_125 (by decide) ?_
                            refine lv_aload_n hx hb dX12_chair_128 rfl (lv_at hl 6 rfl) ?_
                            refine tw_getr hx hb hW hown hK hS f_X12_90_11 hz_a0 hk_a0 (t := 33) (n := 6) rfl dX12_chair_129 (fun b241 k242 hz_b241 hk_b241 hn_b241 => ?_)
                            have hn_b241 := hn_b241 (by decide)
                            refine lv_iload hx hb dX12_chair_132 (lv_at hl 0 rfl) ?_
                            refine tw_iald hx hb hK hS hz_b241 hk_b241 (Or.inr (by decide)) hn_b241 (lo := 0) (hi := 5) h237 ⟨by decide, by decide⟩ rg_u33 dX12_chair_134 (fun x245 k244 h243 => ?_)
                            refine tw_iadd (lo := 170) (hi := 175) hx hb (iv_c (c := 170) (n := 170) (by decide)) h243 ⟨by decide, by decide⟩ ⟨by decide, by decide⟩ dX12_chair_135 (fun x248 e247 h246 => ?_)
                            have e247 : x248.toInt = 170 + x245.toInt := e247
                            refine tw_iald hx hb hK hS hz_b1 hk_b1 (Or.inr (by decide)) hn_b1 (lo := 0) (hi := 11) h246 ⟨by decide, by decide⟩ (rg_so ⟨by decide, by decide⟩) dX12_chair_136 (fun x251 k250 h249 => ?_)
                            refine tw_iast hx hb hK hS hz_b238 hk_b238 (Or.inr (by decide)) hn_b238 h237 ⟨by decide, by decide⟩ h249 (rg_s31 ⟨by decide, by decide⟩) (jl := 0) (jh := 1999999) ⟨by decide, by decide⟩ rfl dX12_chair_137 (fun H locs M254 hS k252 f253 => ?_)
                            refine tw_iinc (lv' := fun x257 => [(9, .int x257), (6, .int x57), (7, .int x58), (8, .int x59), (5, .int x47), (4, .int x5), (0, .ref (base + a0)), (1, .int a1), (2, .int a2), (3, .int a3)]) (lo := 1) (hi := 6) hx hb dX12_chair_138 hl (k := 0) rfl h237 (by decide) ⟨by decide, by decide⟩ ⟨by decide, by decide⟩ (by decide) (fun _ => rfl) (fun x257 ls e256 h255 hl => ?_)
                            refine lv_goto (tgt := 108) hx hb dX12_chair_141 (by decide) ?_
                            have k258 : M254 a0 30 = x109 := (Fr.kp (k := 30) f253 hk_a0 rfl).trans k110
                            have hm259 : 6 - x257.toInt < (n_104 : Int) := by
                              have := (h19).1; have := (h19).2; have := (h_a2).1; have := (h_a2).2; have := (h45).1; have := (h45).2; have := (h237).1; have := (h237).2; have := (h255).1; have := (h255).2; omega
                            exact ih_104 x257 x109 M254 R105 J106 H locs _ (iv_mono h255 (by decide) (by decide)) h_x109 k258 hm259 hS hl
                      have hm260 : 6 - (0 : Int32).toInt < (((7 : Nat) : Int) : Int) := by
                        have := (h19).1; have := (h19).2; have := (h_a2).1; have := (h_a2).2; have := (h45).1; have := (h45).2; have : (0 : Int32).toInt = 0 := (by decide); omega
                      exact W108_104 7 0 x5 M98 R61 J97 H locs _ (iv_mono (iv_c (c := 0) (n := 0) (by decide)) (by decide) (by decide)) h33 k102 hm260 hS hl
                    · have q261 : x89.toInt = 0 := ti_eq c90
                      have h262 : iv 0 0 x89 := ⟨by have := (h_x89).1; have := ((iv_c (c := 0) (n := 0) (by decide))).1; omega, by have := (h_x89).2; have := ((iv_c (c := 0) (n := 0) (by decide))).2; omega⟩
                      refine lv_goto (tgt := 254) hx hb dX12_chair_98 (by decide) ?_
                      refine tw_iinc (lv' := fun x265 => [(8, .int x265), (6, .int x57), (7, .int x58), (5, .int x47), (4, .int x5), (0, .ref (base + a0)), (1, .int a1), (2, .int a2), (3, .int a3)]) (lo := 1) (hi := 2147483647) hx hb dX12_chair_254 hl (k := 2) rfl h81 (by decide) ⟨by decide, by decide⟩ ⟨by decide, by decide⟩ (by decide) (fun _ => rfl) (fun x265 ls e264 h263 hl => ?_)
                      refine lv_goto (tgt := 80) hx hb dX12_chair_257 (by decide) ?_
                      have hm266 : 2147483647 - x265.toInt < (n_60 : Int) := by
                        have := (h19).1; have := (h19).2; have := (h_a2).1; have := (h_a2).2; have := (h45).1; have := (h45).2; have := (h263).1; have := (h263).2; have := (h81).1; have := (h81).2; omega
                      exact ih_60 x57 x58 x265 M86 R61 J85 H locs _ h_x57 h_x58 (iv_mono h263 (by decide) (by decide)) hm266 hS (lv_sub hl [1, 2, 0, 3, 4, 5, 6, 7, 8] rfl)
              have hm267 : 2147483647 - (0 : Int32).toInt < (((2147483648 : Nat) : Int) : Int) := by
                have := (h19).1; have := (h19).2; have := (h_a2).1; have := (h_a2).2; have := (h45).1; have := (h45).2; have : (0 : Int32).toInt = 0 := (by decide); omega
              exact W80_60 2147483648 0 0 0 M49 R50 J51 H locs _ (iv_mono (iv_c (c := 0) (n := 0) (by decide)) (by decide) (by decide)) (iv_mono (iv_c (c := 0) (n := 0) (by decide)) (by decide) (by decide)) (iv_mono (iv_c (c := 0) (n := 0) (by decide)) (by decide) (by decide)) hm267 hS (lv_sub hl [2, 1, 0, 3, 4, 5, 6, 7, 8] rfl)
            · have q268 : x48.toInt < x5.toInt := ti_nle c54
              have h269 : iv 0 5 x48 := iv_ltL (y := x5) h_x48 h33 q268 (by decide)
              refine lv_iload hx hb dX12_chair_58 (lv_at hl 0 rfl) ?_
              refine lv_iload hx hb dX12_chair_60 (lv_at hl 2 rfl) ?_
              refine lv_imul hx hb dX12_chair_62 ?_
              refine tw_top (fun x271 => ?_)
              have h270 := iv_any x271
              refine lv_istore (lv' := [(5, .int x271), (6, .int x48), (4, .int x5), (0, .ref (base + a0)), (1, .int a1), (2, .int a2), (3, .int a3)]) hx hb dX12_chair_63 hl (by decide) rfl (fun ls hl => ?_)
              refine tw_iinc (lv' := fun x274 => [(6, .int x274), (5, .int x271), (4, .int x5), (0, .ref (base + a0)), (1, .int a1), (2, .int a2), (3, .int a3)]) (lo := 1) (hi := 6) hx hb dX12_chair_65 hl (k := 1) rfl h269 (by decide) ⟨by decide, by decide⟩ ⟨by decide, by decide⟩ (by decide) (fun _ => rfl) (fun x274 ls e273 h272 hl => ?_)
              refine lv_goto (tgt := 51) hx hb dX12_chair_68 (by decide) ?_
              have hm275 : 6 - x274.toInt < (n_49 : Int) := by
                have := (h19).1; have := (h19).2; have := (h_a2).1; have := (h_a2).2; have := (h45).1; have := (h45).2; have := (h272).1; have := (h272).2; have := (h269).1; have := (h269).2; omega
              exact ih_49 x271 x274 M49 R50 J51 H locs _ h270 (iv_mono h272 (by decide) (by decide)) hm275 hS (lv_sub hl [1, 0, 2, 3, 4, 5, 6] rfl)
        have hm276 : 6 - (0 : Int32).toInt < (((7 : Nat) : Int) : Int) := by
          have := (h19).1; have := (h19).2; have := (h_a2).1; have := (h_a2).2; have := (h45).1; have := (h45).2; have : (0 : Int32).toInt = 0 := (by decide); omega
        exact W51_49 7 1 0 Ma Ra J36 H locs _ (iv_mono (iv_c (c := 1) (n := 1) (by decide)) (by decide) (by decide)) (iv_mono (iv_c (c := 0) (n := 0) (by decide)) (by decide) (by decide)) hm276 hS (lv_sub hl [1, 0, 2, 3, 4, 5, 6] rfl)
      · have q277 : x40.toInt = 0 := ti_eq c42
        have h278 : iv 0 0 x40 := ⟨by have := (h_x40).1; have := ((iv_c (c := 0) (n := 0) (by decide))).1; omega, by have := (h_x40).2; have := ((iv_c (c := 0) (n := 0) (by decide))).2; omega⟩
        refine lv_ldcw hx hb hown (hW _ w_8_46 rfl) dX12_chair_41 ?_
        exact tw_endi hx hb hr hlocks hK hT hS hQ ((iv_mono (iv_c (c := (-1000000)) (n := (-1000000)) (by decide)) (by decide) (by decide))) dX12_chair_44
def Lt_X12_isLetter : WL := []
def LRt_X12_isLetter : WL := []
set_option maxRecDepth 100000 in
set_option maxHeartbeats 4000000 in
theorem t_X12_isLetter (l : Launch) (D : va_G) (cy : Nat → ClassId) (tx : (Nat → Nat) × (Nat → Nat)) (base Z : Nat) (K N : Nat → Nat) (Ma : MT) (Ra : RT) (Ja : JT) (hTy : Ty Z K N Ma Ra) (a0 : Nat) (hz_a0 : a0 < Z) (hk_a0 : K a0 = 12) (a1 : Int32) (h_a1 : iv 0 400 a1) (tb : Nat) (k_tb : Ra a0 0 = some tb) (tp : Int32) (k_tp : Ma a0 1 = tp) (h_tp : iv 0 400 tp) : Met l yX12_isLetter [Cond.code yX12_isLetter cX12_isLetter 2 (some .boolean)] (md_rm 1 0 0) (va_Pc [.ref (base + a0), .int a1] (md_U D cy tx base Z K N Ma Ra Ja)) (mQi D cy tx base (fun r u => TP Z K N Lt_X12_isLetter LRt_X12_isLetter Ma Ra u ∧ (iv 0 1 r ∧ ((¬ r = 0 → chF 97 122 Ma tb a1 tp) ∧ (r = 0 → ¬ chF 97 122 Ma tb a1 tp))))) 0 0 (fun q => base ≤ q) := by
  refine tw_ofW (L := Lt_X12_isLetter) (LR := LRt_X12_isLetter) (by decide) (Nat.le_of_ble_eq_true rfl) hTy ?_
  intro p e s m args below meth c Q ls hx hb hr hlocks hown hml hW hK hT hS hQ hl
  have hl : lv_has ls 2 [(0, .ref (base + a0)), (1, .int a1)] := hl
  obtain ⟨hz_tb, hk_tb, hn_tb⟩ := hTy.refn hz_a0 hk_a0 (show rtR 12 0 = (13, 400, 0) from rfl) k_tb
  have hn_tb := hn_tb (by decide)
  refine lv_iload_n hx hb dX12_isLetter_0 rfl (lv_at hl 1 rfl) ?_
  refine lv_aload_n hx hb dX12_isLetter_1 rfl (lv_at hl 0 rfl) ?_
  refine tw_getk hx hb hW hown hK hS f_X12_116_11 hz_a0 hk_a0 (v := tp) k_tp dX12_isLetter_2 ?_
  refine lv_icmp_ge (tgt := 34) hx hb dX12_isLetter_5 (by decide) (fun c1 => ?_) (fun c1 => ?_)
  · have q2 : tp.toInt ≤ a1.toInt := ti_le c1
    refine lv_iconst (v := 0) hx hb dX12_isLetter_34 (by decide) ?_
    exact tw_endz hx hb hr hlocks hK hT hS hQ rfl (⟨(iv_mono (iv_c (c := 0) (n := 0) (by decide)) (by decide) (by decide)), ⟨fun h => absurd rfl h, fun _ h => by obtain ⟨h1, h2, h3⟩ := h; omega⟩⟩) dX12_isLetter_35
  · have q3 : a1.toInt < tp.toInt := ti_nle c1
    have h4 : iv 0 399 a1 := iv_ltL (y := tp) h_a1 h_tp q3 (by decide)
    have h5 : iv 1 400 tp := iv_gtL (y := a1) h_tp h_a1 q3 (by decide)
    refine lv_aload_n hx hb dX12_isLetter_8 rfl (lv_at hl 0 rfl) ?_
    refine tw_getrk hx hb hW hown hK hS f_X12_7_11 hz_a0 hk_a0 (b := tb) k_tb dX12_isLetter_9 ?_
    refine lv_iload_n hx hb dX12_isLetter_12 rfl (lv_at hl 1 rfl) ?_
    refine tw_bald hx hb hK hS hz_tb hk_tb hn_tb h4 ⟨by decide, by decide⟩ dX12_isLetter_13 (fun x8 k7 => ?_)
    have h6 := iv_any x8
    refine lv_bipush (v := 97) hx hb dX12_isLetter_14 (by decide) ?_
    refine lv_icmp_lt (tgt := 34) hx hb dX12_isLetter_16 (by decide) (fun c9 => ?_) (fun c9 => ?_)
    · have q10 : x8.toInt < 97 := ti_lt c9
      have h11 : iv (-2147483648) 96 x8 := iv_ltL (y := 97) h6 (iv_c (c := 97) (n := 97) (by decide)) q10 (by decide)
      refine lv_iconst (v := 0) hx hb dX12_isLetter_34 (by decide) ?_
      exact tw_endz hx hb hr hlocks hK hT hS hQ rfl (⟨(iv_mono (iv_c (c := 0) (n := 0) (by decide)) (by decide) (by decide)), ⟨fun h => absurd rfl h, fun _ h => by obtain ⟨h1, h2, h3⟩ := h; rw [k7] at h2 h3; omega⟩⟩) dX12_isLetter_35
    · have q12 : 97 ≤ x8.toInt := ti_nlt c9
      have h13 : iv 97 2147483647 x8 := iv_geL (y := 97) h6 (iv_c (c := 97) (n := 97) (by decide)) q12 (by decide)
      refine lv_aload_n hx hb dX12_isLetter_19 rfl (lv_at hl 0 rfl) ?_
      refine tw_getrk hx hb hW hown hK hS f_X12_7_11 hz_a0 hk_a0 (b := tb) k_tb dX12_isLetter_20 ?_
      refine lv_iload_n hx hb dX12_isLetter_23 rfl (lv_at hl 1 rfl) ?_
      refine tw_balk hx hb hK hS hz_tb hk_tb hn_tb h4 ⟨by decide, by decide⟩ (v := x8) k7 dX12_isLetter_24 ?_
      refine lv_bipush (v := 122) hx hb dX12_isLetter_25 (by decide) ?_
      refine lv_icmp_gt (tgt := 34) hx hb dX12_isLetter_27 (by decide) (fun c14 => ?_) (fun c14 => ?_)
      · have q15 : 122 < x8.toInt := ti_lt c14
        have h16 : iv 123 2147483647 x8 := iv_gtL (y := 122) h13 (iv_c (c := 122) (n := 122) (by decide)) q15 (by decide)
        refine lv_iconst (v := 0) hx hb dX12_isLetter_34 (by decide) ?_
        exact tw_endz hx hb hr hlocks hK hT hS hQ rfl (⟨(iv_mono (iv_c (c := 0) (n := 0) (by decide)) (by decide) (by decide)), ⟨fun h => absurd rfl h, fun _ h => by obtain ⟨h1, h2, h3⟩ := h; rw [k7] at h2 h3; omega⟩⟩) dX12_isLetter_35
      · have q17 : x8.toInt ≤ 122 := ti_nlt c14
        have h18 : iv 97 122 x8 := iv_leL (y := 122) h13 (iv_c (c := 122) (n := 122) (by decide)) q17 (by decide)
        refine lv_iconst (v := 1) hx hb dX12_isLetter_30 (by decide) ?_
        refine lv_goto (tgt := 35) hx hb dX12_isLetter_31 (by decide) ?_
        exact tw_endz hx hb hr hlocks hK hT hS hQ rfl (⟨(iv_mono (iv_c (c := 1) (n := 1) (by decide)) (by decide) (by decide)), ⟨fun _ => ⟨by omega, by rw [k7]; omega, by rw [k7]; omega⟩, fun h => absurd h (by decide)⟩⟩) dX12_isLetter_35
def Lt_X12_see : WL := [(12, 13, 14)]
def LRt_X12_see : WL := []
set_option maxRecDepth 100000 in
set_option maxHeartbeats 4000000 in
theorem t_X12_see (l : Launch) (D : va_G) (cy : Nat → ClassId) (tx : (Nat → Nat) × (Nat → Nat)) (base Z : Nat) (K N : Nat → Nat) (Ma : MT) (Ra : RT) (Ja : JT) (hTy : Ty Z K N Ma Ra) (a0 : Nat) (hz_a0 : a0 < Z) (hk_a0 : K a0 = 12) (tb : Nat) (k_tb : Ra a0 0 = some tb) (nx : Int32) (k_nx : Ma a0 13 = nx) (h_nx : iv 0 400 nx) (tp : Int32) (k_tp : Ma a0 1 = tp) (h_tp : iv 0 400 tp) (hnt : nx.toInt ≤ tp.toInt) : Met l yX12_see [Cond.code yX12_see cX12_see 1 (some .int)] (md_rm 1 0 0) (va_Pc [.ref (base + a0)] (md_U D cy tx base Z K N Ma Ra Ja)) (mQi D cy tx base (fun r u => TP Z K N Lt_X12_see LRt_X12_see Ma Ra u ∧ (iv (-1) 255 r ∧ (∃ x0 : Int32, u.2.2.2.1 a0 13 = x0 ∧ iv 0 400 x0 ∧ (nx.toInt ≤ x0.toInt ∧ x0.toInt ≤ tp.toInt ∧ (r.toInt = -1 ∨ x0.toInt < tp.toInt)) ∧ (∀ lo hi : Int, 33 ≤ lo → chF lo hi Ma tb nx tp → x0.toInt = nx.toInt))))) 0 0 (fun q => base ≤ q) := by
  refine tw_ofW (L := Lt_X12_see) (LR := LRt_X12_see) (by decide) (Nat.le_of_ble_eq_true rfl) hTy ?_
  intro p e s m args below meth c Q ls hx hb hr hlocks hown hml hW hK hT hS hQ hl
  have hl : lv_has ls 1 [(0, .ref (base + a0))] := hl
  obtain ⟨hz_tb, hk_tb, hn_tb⟩ := hTy.refn hz_a0 hk_a0 (show rtR 12 0 = (13, 400, 0) from rfl) k_tb
  have hn_tb := hn_tb (by decide)
  have W0_1 : ∀ (n_1 : Nat) (x6 : Int32) (M1 : MT) (R2 : RT) (J3 : JT) (H : Heap) (locs : List Loc) (ls : Array Slot) (h_x6 : iv 0 400 x6) (k7 : M1 a0 13 = x6) (w0_1 : nx.toInt ≤ x6.toInt ∧ x6.toInt ≤ tp.toInt) (w1_1 : (∀ lo hi : Int, 33 ≤ lo → chF lo hi Ma tb nx tp → x6.toInt = nx.toInt)) (hm_1 : 400 - x6.toInt < (n_1 : Int)) (hS : SB D cy base Z K N Lt_X12_see LRt_X12_see Ma Ra M1 R2 J3 s H locs) (hl : lv_has ls 1 [(0, .ref (base + a0))]), W p l e (md_rm 1 0 0) s m args below meth c H locs 0 0 Q (F0 m 0 ls []) := by
    intro n_1
    induction n_1 with
    | zero =>
      intro x6 M1 R2 J3 H locs ls h_x6 k7 w0_1 w1_1 hm_1 hS hl
      exfalso
      have := (h_nx).1; have := (h_nx).2; have := (h_tp).1; have := (h_tp).2; have := (h_x6).1; have := (h_x6).2; omega
    | succ n_1 ih_1 =>
      intro x6 M1 R2 J3 H locs ls h_x6 k7 w0_1 w1_1 hm_1 hS hl
      have f4 := hS.2.2.1
      have g5 := hS.2.2.2
      refine lv_aload_n hx hb dX12_see_0 rfl (lv_at hl 0 rfl) ?_
      refine tw_getk hx hb hW hown hK hS f_X12_127_11 hz_a0 hk_a0 (v := x6) k7 dX12_see_1 ?_
      refine lv_aload_n hx hb dX12_see_4 rfl (lv_at hl 0 rfl) ?_
      have k8 : M1 a0 1 = tp := (Fr.kp (k := 1) f4 hk_a0 rfl).trans k_tp
      refine tw_getk hx hb hW hown hK hS f_X12_116_11 hz_a0 hk_a0 (v := tp) k8 dX12_see_5 ?_
      refine lv_icmp_ge (tgt := 38) hx hb dX12_see_8 (by decide) (fun c9 => ?_) (fun c9 => ?_)
      · have q10 : tp.toInt ≤ x6.toInt := ti_le c9
        refine lv_aload_n hx hb dX12_see_38 rfl (lv_at hl 0 rfl) ?_
        refine tw_getk hx hb hW hown hK hS f_X12_127_11 hz_a0 hk_a0 (v := x6) k7 dX12_see_39 ?_
        refine lv_aload_n hx hb dX12_see_42 rfl (lv_at hl 0 rfl) ?_
        have k11 : M1 a0 1 = tp := (Fr.kp (k := 1) f4 hk_a0 rfl).trans k_tp
        refine tw_getk hx hb hW hown hK hS f_X12_116_11 hz_a0 hk_a0 (v := tp) k11 dX12_see_43 ?_
        refine lv_icmp_ge (tgt := 65) hx hb dX12_see_46 (by decide) (fun c12 => ?_) (fun c12 => ?_)
        · have q13 : tp.toInt ≤ x6.toInt := ti_le c12
          refine lv_iconst (v := (-1)) hx hb dX12_see_65 (by decide) ?_
          have q14 : nx.toInt ≤ x6.toInt ∧ x6.toInt ≤ tp.toInt ∧ ((-1 : Int32).toInt = -1 ∨ x6.toInt < tp.toInt) := by
            have := (h_nx).1; have := (h_nx).2; have := (h_tp).1; have := (h_tp).2; have := (h_x6).1; have := (h_x6).2; have : (-1 : Int32).toInt = -1 := (by decide); omega
          exact tw_endi hx hb hr hlocks hK hT hS hQ (⟨(iv_mono (iv_c (c := (-1)) (n := (-1)) (by decide)) (by decide) (by decide)), ⟨x6, k7, h_x6, q14, w1_1⟩⟩) dX12_see_66
        · have q15 : x6.toInt < tp.toInt := ti_nle c12
          have h16 : iv 0 399 x6 := iv_ltL (y := tp) h_x6 h_tp q15 (by decide)
          have h17 : iv 1 400 tp := iv_gtL (y := x6) h_tp h_x6 q15 (by decide)
          refine lv_aload_n hx hb dX12_see_49 rfl (lv_at hl 0 rfl) ?_
          have k18 : R2 a0 0 = some tb := (Fr.kp (k := 0) g5 hk_a0 rfl).trans k_tb
          refine tw_getrk hx hb hW hown hK hS f_X12_7_11 hz_a0 hk_a0 (b := tb) k18 dX12_see_50 ?_
          refine lv_aload_n hx hb dX12_see_53 rfl (lv_at hl 0 rfl) ?_
          refine tw_getk hx hb hW hown hK hS f_X12_127_11 hz_a0 hk_a0 (v := x6) k7 dX12_see_54 ?_
          refine tw_bald hx hb hK hS hz_tb hk_tb hn_tb h16 ⟨by decide, by decide⟩ dX12_see_57 (fun x21 k20 => ?_)
          have h19 := iv_any x21
          refine lv_sipush (v := 255) hx hb dX12_see_58 (by decide) ?_
          refine tw_iand (hi := 255) hx hb (iv_mono (iv_c (c := 255) (n := 255) (by decide)) (lo := 0) (hi := 255) (by decide) (by decide)) (by decide) dX12_see_61 (fun x24 h22 => ?_)
          refine lv_goto (tgt := 66) hx hb dX12_see_62 (by decide) ?_
          have q25 : nx.toInt ≤ x6.toInt ∧ x6.toInt ≤ tp.toInt ∧ (x24.toInt = -1 ∨ x6.toInt < tp.toInt) := by
            have := (h_nx).1; have := (h_nx).2; have := (h17).1; have := (h17).2; have := (h19).1; have := (h19).2; have := (h22).1; have := (h22).2; have := (h16).1; have := (h16).2; omega
          exact tw_endi hx hb hr hlocks hK hT hS hQ (⟨(iv_mono h22 (by decide) (by decide)), ⟨x6, k7, (iv_mono h16 (by decide) (by decide)), q25, w1_1⟩⟩) dX12_see_66
      · have q26 : x6.toInt < tp.toInt := ti_nle c9
        have h27 : iv 0 399 x6 := iv_ltL (y := tp) h_x6 h_tp q26 (by decide)
        have h28 : iv 1 400 tp := iv_gtL (y := x6) h_tp h_x6 q26 (by decide)
        refine lv_aload_n hx hb dX12_see_11 rfl (lv_at hl 0 rfl) ?_
        have k29 : R2 a0 0 = some tb := (Fr.kp (k := 0) g5 hk_a0 rfl).trans k_tb
        refine tw_getrk hx hb hW hown hK hS f_X12_7_11 hz_a0 hk_a0 (b := tb) k29 dX12_see_12 ?_
        refine lv_aload_n hx hb dX12_see_15 rfl (lv_at hl 0 rfl) ?_
        refine tw_getk hx hb hW hown hK hS f_X12_127_11 hz_a0 hk_a0 (v := x6) k7 dX12_see_16 ?_
        refine tw_bald hx hb hK hS hz_tb hk_tb hn_tb h27 ⟨by decide, by decide⟩ dX12_see_19 (fun x32 k31 => ?_)
        have h30 := iv_any x32
        refine lv_bipush (v := 32) hx hb dX12_see_20 (by decide) ?_
        refine lv_icmp_ne (tgt := 38) hx hb dX12_see_22 (by decide) (fun c33 => ?_) (fun c33 => ?_)
        · have q34 : ¬ x32.toInt = 32 := ti_ne c33
          refine lv_aload_n hx hb dX12_see_38 rfl (lv_at hl 0 rfl) ?_
          refine tw_getk hx hb hW hown hK hS f_X12_127_11 hz_a0 hk_a0 (v := x6) k7 dX12_see_39 ?_
          refine lv_aload_n hx hb dX12_see_42 rfl (lv_at hl 0 rfl) ?_
          have k35 : M1 a0 1 = tp := (Fr.kp (k := 1) f4 hk_a0 rfl).trans k_tp
          refine tw_getk hx hb hW hown hK hS f_X12_116_11 hz_a0 hk_a0 (v := tp) k35 dX12_see_43 ?_
          refine lv_icmp_ge (tgt := 65) hx hb dX12_see_46 (by decide) (fun c36 => ?_) (fun c36 => ?_)
          · have q37 : tp.toInt ≤ x6.toInt := ti_le c36
            have h38 : iv 1 399 x6 := iv_geL (y := tp) h27 h28 q37 (by decide)
            have h39 : iv 1 399 tp := iv_leL (y := x6) h28 h27 q37 (by decide)
            refine lv_iconst (v := (-1)) hx hb dX12_see_65 (by decide) ?_
            have q40 : nx.toInt ≤ x6.toInt ∧ x6.toInt ≤ tp.toInt ∧ ((-1 : Int32).toInt = -1 ∨ x6.toInt < tp.toInt) := by
              have := (h_nx).1; have := (h_nx).2; have := (h39).1; have := (h39).2; have := (h38).1; have := (h38).2; have : (-1 : Int32).toInt = -1 := (by decide); omega
            exact tw_endi hx hb hr hlocks hK hT hS hQ (⟨(iv_mono (iv_c (c := (-1)) (n := (-1)) (by decide)) (by decide) (by decide)), ⟨x6, k7, (iv_mono h38 (by decide) (by decide)), q40, w1_1⟩⟩) dX12_see_66
          · have q41 : x6.toInt < tp.toInt := ti_nle c36
            refine lv_aload_n hx hb dX12_see_49 rfl (lv_at hl 0 rfl) ?_
            have k42 : R2 a0 0 = some tb := (Fr.kp (k := 0) g5 hk_a0 rfl).trans k_tb
            refine tw_getrk hx hb hW hown hK hS f_X12_7_11 hz_a0 hk_a0 (b := tb) k42 dX12_see_50 ?_
            refine lv_aload_n hx hb dX12_see_53 rfl (lv_at hl 0 rfl) ?_
            refine tw_getk hx hb hW hown hK hS f_X12_127_11 hz_a0 hk_a0 (v := x6) k7 dX12_see_54 ?_
            refine tw_balk hx hb hK hS hz_tb hk_tb hn_tb h27 ⟨by decide, by decide⟩ (v := x32) k31 dX12_see_57 ?_
            refine lv_sipush (v := 255) hx hb dX12_see_58 (by decide) ?_
            refine tw_iand (hi := 255) hx hb (iv_mono (iv_c (c := 255) (n := 255) (by decide)) (lo := 0) (hi := 255) (by decide) (by decide)) (by decide) dX12_see_61 (fun x45 h43 => ?_)
            refine lv_goto (tgt := 66) hx hb dX12_see_62 (by decide) ?_
            have q46 : nx.toInt ≤ x6.toInt ∧ x6.toInt ≤ tp.toInt ∧ (x45.toInt = -1 ∨ x6.toInt < tp.toInt) := by
              have := (h_nx).1; have := (h_nx).2; have := (h28).1; have := (h28).2; have := (h30).1; have := (h30).2; have := (h43).1; have := (h43).2; have := (h27).1; have := (h27).2; omega
            exact tw_endi hx hb hr hlocks hK hT hS hQ (⟨(iv_mono h43 (by decide) (by decide)), ⟨x6, k7, (iv_mono h27 (by decide) (by decide)), q46, w1_1⟩⟩) dX12_see_66
        · have q47 : x32.toInt = 32 := ti_eq c33
          have h48 : iv 32 32 x32 := ⟨by have := (h30).1; have := ((iv_c (c := 32) (n := 32) (by decide))).1; omega, by have := (h30).2; have := ((iv_c (c := 32) (n := 32) (by decide))).2; omega⟩
          refine lv_aload_n hx hb dX12_see_25 rfl (lv_at hl 0 rfl) ?_
          refine lv_dup hx hb dX12_see_26 rfl ?_
          refine tw_getk hx hb hW hown hK hS f_X12_127_11 hz_a0 hk_a0 (v := x6) k7 dX12_see_27 ?_
          refine lv_iconst (v := 1) hx hb dX12_see_30 (by decide) ?_
          refine tw_iadd (lo := 1) (hi := 400) hx hb h27 (iv_c (c := 1) (n := 1) (by decide)) ⟨by decide, by decide⟩ ⟨by decide, by decide⟩ dX12_see_31 (fun x51 e50 h49 => ?_)
          have e50 : x51.toInt = x6.toInt + 1 := e50
          refine tw_puti hx hb hW hown hK hS f_X12_127_11 hz_a0 hk_a0 rfl rfl (lo := 0) (hi := 400) rfl (iv_mono h49 (by decide) (by decide)) rfl dX12_see_32 (fun H locs M54 hS k52 f53 => ?_)
          refine lv_goto (tgt := 0) hx hb dX12_see_35 (by decide) ?_
          have w55 : nx.toInt ≤ x51.toInt ∧ x51.toInt ≤ tp.toInt := by
            have := (h_nx).1; have := (h_nx).2; have := (h28).1; have := (h28).2; have := (h49).1; have := (h49).2; have := (h27).1; have := (h27).2; omega
          have w56 : (∀ lo hi : Int, 33 ≤ lo → chF lo hi Ma tb nx tp → x51.toInt = nx.toInt) := fun lo hi hl h => by exfalso; have e1 := Int32.toInt_inj.mp (w1_1 lo hi hl h); have e2 := h.2.1; rw [← e1, (Fr.kpa f4 hk_tb rfl _).symm.trans k31] at e2; omega
          have hm57 : 400 - x51.toInt < (n_1 : Int) := by
            have := (h_nx).1; have := (h_nx).2; have := (h28).1; have := (h28).2; have := (h49).1; have := (h49).2; have := (h27).1; have := (h27).2; omega
          exact ih_1 x51 M54 R2 J3 H locs _ (iv_mono h49 (by decide) (by decide)) k52 w55 w56 hm57 hS hl
  have w58 : nx.toInt ≤ nx.toInt ∧ nx.toInt ≤ tp.toInt := by
    have := (h_nx).1; have := (h_nx).2; have := (h_tp).1; have := (h_tp).2; omega
  have w59 : (∀ lo hi : Int, 33 ≤ lo → chF lo hi Ma tb nx tp → nx.toInt = nx.toInt) := fun _ _ _ _ => rfl
  have hm60 : 400 - nx.toInt < (((401 : Nat) : Int) : Int) := by
    have := (h_nx).1; have := (h_nx).2; have := (h_tp).1; have := (h_tp).2; omega
  exact W0_1 401 nx Ma Ra Ja s.heap [] _ h_nx k_nx w58 w59 hm60 hS hl
def Lt_X12_isWord : WL := [(12, 13, 14)]
def LRt_X12_isWord : WL := []
set_option maxRecDepth 100000 in
set_option maxHeartbeats 4000000 in
theorem t_X12_isWord (l : Launch) (D : va_G) (cy : Nat → ClassId) (tx : (Nat → Nat) × (Nat → Nat)) (base Z : Nat) (K N : Nat → Nat) (Ma : MT) (Ra : RT) (Ja : JT) (hTy : Ty Z K N Ma Ra) (a0 : Nat) (hz_a0 : a0 < Z) (hk_a0 : K a0 = 12) (a1 : Int64) (tb : Nat) (k_tb : Ra a0 0 = some tb) (nx : Int32) (k_nx : Ma a0 13 = nx) (h_nx : iv 0 400 nx) (tp : Int32) (k_tp : Ma a0 1 = tp) (h_tp : iv 0 400 tp) (hnt : nx.toInt ≤ tp.toInt) : Met l yX12_isWord [Cond.code yX12_isWord cX12_isWord 6 (some .boolean)] (md_rm 2 0 0) (va_Pc [.ref (base + a0), .long a1] (md_U D cy tx base Z K N Ma Ra Ja)) (mQi D cy tx base (fun r u => TP Z K N Lt_X12_isWord LRt_X12_isWord Ma Ra u ∧ (iv 0 1 r ∧ (∃ x0 : Int32, u.2.2.2.1 a0 13 = x0 ∧ iv 0 400 x0 ∧ (nx.toInt ≤ x0.toInt ∧ x0.toInt ≤ tp.toInt) ∧ (∀ lo hi : Int, 33 ≤ lo → chF lo hi Ma tb nx tp → x0.toInt = nx.toInt) ∧ (¬ r = 0 → chF 97 122 Ma tb x0 tp))))) 0 0 (fun q => base ≤ q) := by
  refine tw_ofW (L := Lt_X12_isWord) (LR := LRt_X12_isWord) (by decide) (Nat.le_of_ble_eq_true rfl) hTy ?_
  intro p e s m args below meth c Q ls hx hb hr hlocks hown hml hW hK hT hS hQ hl
  have hl : lv_has ls 6 [(0, .ref (base + a0)), (1, .long a1)] := hl
  obtain ⟨hz_tb, hk_tb, hn_tb⟩ := hTy.refn hz_a0 hk_a0 (show rtR 12 0 = (13, 400, 0) from rfl) k_tb
  have hn_tb := hn_tb (by decide)
  refine lv_aload_n hx hb dX12_isWord_0 rfl (lv_at hl 0 rfl) ?_
  have q1 : nx.toInt ≤ tp.toInt := by
    have := (h_nx).1; have := (h_nx).2; have := (h_tp).1; have := (h_tp).2; omega
  refine tw_goi hS (md_runV (As := []) (rest := []) hx hb hml hown hW hK hT hS.1 (t_X12_see l D cy tx base Z K N Ma Ra Ja hS.2.1 a0 hz_a0 hk_a0 tb k_tb nx k_nx (iv_mono h_nx (by decide) (by decide)) tp k_tp (iv_mono h_tp (by decide) (by decide)) q1) s_X12_130 ⟨rfl, rfl, ⟨Nat.le_of_ble_eq_true rfl, Nat.le_of_ble_eq_true rfl⟩, ⟨Nat.le_of_ble_eq_true rfl, Nat.le_of_ble_eq_true rfl⟩⟩ hz_a0 hk_a0 (by decide) rfl rfl hl.1 rfl (Nat.le_of_ble_eq_true rfl) dX12_isWord_1) rfl rfl (fun x8 H locs M5 R6 J4 hS f2 g3 E7 => ?_)
  have eR6 := Fr.nil g3 rfl
  subst eR6
  obtain ⟨h_x8, p9⟩ := E7
  obtain ⟨x12, k10, h11, q13, z14⟩ := p9
  have k10 : M5 a0 13 = x12 := k10
  refine lv_pop hx hb dX12_isWord_4 rfl ?_
  refine lv_lconst (v := 0) hx hb dX12_isWord_5 (by decide) ?_
  refine lv_lstore_n (lv' := [(3, .long 0), (0, .ref (base + a0)), (1, .long a1)]) hx hb dX12_isWord_6 rfl hl (by decide) rfl (fun ls hl => ?_)
  refine lv_iconst (v := 0) hx hb dX12_isWord_7 (by decide) ?_
  refine lv_istore (lv' := [(5, .int 0), (3, .long 0), (0, .ref (base + a0)), (1, .long a1)]) hx hb dX12_isWord_8 hl (by decide) rfl (fun ls hl => ?_)
  have W10_18 : ∀ (n_18 : Nat) (x16 : Int64) (x17 : Int32) (x23 : Int32) (M18 : MT) (R19 : RT) (J20 : JT) (H : Heap) (locs : List Loc) (ls : Array Slot) (h_x17 : iv 0 400 x17) (h_x23 : iv 0 400 x23) (k24 : M18 a0 13 = x23) (w0_18 : nx.toInt ≤ x23.toInt ∧ x23.toInt + x17.toInt ≤ tp.toInt) (w1_18 : x17.toInt = 0 ∨ chF 97 122 Ma tb x23 tp) (w2_18 : (∀ lo hi : Int, 33 ≤ lo → chF lo hi Ma tb nx tp → x23.toInt = nx.toInt)) (hm_18 : 400 - x17.toInt < (n_18 : Int)) (hS : SB D cy base Z K N Lt_X12_isWord LRt_X12_isWord Ma Ra M18 R19 J20 s H locs) (hl : lv_has ls 6 [(3, .long x16), (5, .int x17), (0, .ref (base + a0)), (1, .long a1)]), W p l e (md_rm 2 0 0) s m args below meth c H locs 0 0 Q (F0 m 10 ls []) := by
    intro n_18
    induction n_18 with
    | zero =>
      intro x16 x17 x23 M18 R19 J20 H locs ls h_x17 h_x23 k24 w0_18 w1_18 w2_18 hm_18 hS hl
      exfalso
      have := (h_nx).1; have := (h_nx).2; have := (h_tp).1; have := (h_tp).2; have := (h11).1; have := (h11).2; have := (h_x17).1; have := (h_x17).2; have := (h_x23).1; have := (h_x23).2; omega
    | succ n_18 ih_18 =>
      intro x16 x17 x23 M18 R19 J20 H locs ls h_x17 h_x23 k24 w0_18 w1_18 w2_18 hm_18 hS hl
      have f21 := hS.2.2.1
      have g22 := hS.2.2.2
      refine lv_aload_n hx hb dX12_isWord_10 rfl (lv_at hl 2 rfl) ?_
      refine lv_aload_n hx hb dX12_isWord_11 rfl (lv_at hl 2 rfl) ?_
      refine tw_getk hx hb hW hown hK hS f_X12_127_11 hz_a0 hk_a0 (v := x23) k24 dX12_isWord_12 ?_
      refine lv_iload hx hb dX12_isWord_15 (lv_at hl 1 rfl) ?_
      refine tw_iadd (lo := 0) (hi := 800) hx hb h_x23 h_x17 ⟨by decide, by decide⟩ ⟨by decide, by decide⟩ dX12_isWord_17 (fun x27 e26 h25 => ?_)
      have h28 : iv 0 400 x27 := by
        have := (h_nx).1; have := (h_nx).2; have := (h_tp).1; have := (h_tp).2; have := (h11).1; have := (h11).2; have := (h_x17).1; have := (h_x17).2; have := (h_x23).1; have := (h_x23).2; have := (h25).1; have := (h25).2; exact ⟨by omega, by omega⟩
      have k29 : R19 a0 0 = some tb := (Fr.kp (k := 0) g22 hk_a0 rfl).trans k_tb
      have k30 : M18 a0 1 = tp := (Fr.kp (k := 1) f21 hk_a0 rfl).trans k_tp
      refine tw_goi hS (md_runV (As := [.int x27]) (rest := []) hx hb hml hown hW hK hT hS.1 (t_X12_isLetter l D cy tx base Z K N M18 R19 J20 hS.2.1 a0 hz_a0 hk_a0 x27 h28 tb k29 tp k30 (iv_mono h_tp (by decide) (by decide))) s_X12_134 ⟨rfl, rfl, ⟨Nat.le_of_ble_eq_true rfl, Nat.le_of_ble_eq_true rfl⟩, ⟨Nat.le_of_ble_eq_true rfl, Nat.le_of_ble_eq_true rfl⟩⟩ hz_a0 hk_a0 (by decide) rfl rfl hl.1 rfl (Nat.le_of_ble_eq_true rfl) dX12_isWord_18) rfl rfl (fun x37 H locs M34 R35 J33 hS f31 g32 E36 => ?_)
      have eM34 := Fr.nil f31 rfl
      subst eM34
      have eR35 := Fr.nil g32 rfl
      subst eR35
      obtain ⟨h_x37, p38⟩ := E36
      have z39 : ¬ x37 = 0 → chF 97 122 Ma tb x27 tp := fun h => chF.rf (p38.1 h) hS.2.2.1 hk_tb rfl
      have z40 : x37 = 0 → ¬ chF 97 122 Ma tb x27 tp := fun h q => p38.2 h (chF.fr q hS.2.2.1 hk_tb rfl)
      refine lv_if_eq (tgt := 56) hx hb dX12_isWord_21 (by decide) (fun c41 => ?_) (fun c41 => ?_)
      · have q42 : x37.toInt = 0 := ti_eq c41
        have z43 := z40 c41
        have h44 : iv 0 0 x37 := ⟨by have := (h_x37).1; have := ((iv_c (c := 0) (n := 0) (by decide))).1; omega, by have := (h_x37).2; have := ((iv_c (c := 0) (n := 0) (by decide))).2; omega⟩
        refine lv_iload hx hb dX12_isWord_56 (lv_at hl 1 rfl) ?_
        refine lv_if_le (tgt := 78) hx hb dX12_isWord_58 (by decide) (fun c45 => ?_) (fun c45 => ?_)
        · have q46 : x17.toInt ≤ 0 := ti_le c45
          have h47 : iv 0 0 x17 := iv_leL (y := 0) h_x17 (iv_c (c := 0) (n := 0) (by decide)) q46 (by decide)
          refine lv_iconst (v := 0) hx hb dX12_isWord_78 (by decide) ?_
          have q48 : nx.toInt ≤ x23.toInt ∧ x23.toInt ≤ tp.toInt := by
            have := (h_nx).1; have := (h_nx).2; have := (h_tp).1; have := (h_tp).2; have := (h11).1; have := (h11).2; have := (h47).1; have := (h47).2; have := (h_x23).1; have := (h_x23).2; have := (h25).1; have := (h25).2; omega
          exact tw_endz hx hb hr hlocks hK hT hS hQ rfl (⟨(iv_mono (iv_c (c := 0) (n := 0) (by decide)) (by decide) (by decide)), ⟨x23, k24, h_x23, q48, w2_18, (fun h => absurd rfl h)⟩⟩) dX12_isWord_79
        · have q49 : 0 < x17.toInt := ti_nle c45
          have h50 : iv 1 400 x17 := iv_gtL (y := 0) h_x17 (iv_c (c := 0) (n := 0) (by decide)) q49 (by decide)
          refine lv_iload hx hb dX12_isWord_61 (lv_at hl 1 rfl) ?_
          refine lv_bipush (v := 8) hx hb dX12_isWord_63 (by decide) ?_
          refine lv_icmp_ge (tgt := 78) hx hb dX12_isWord_65 (by decide) (fun c51 => ?_) (fun c51 => ?_)
          · have q52 : 8 ≤ x17.toInt := ti_le c51
            have h53 : iv 8 400 x17 := iv_geL (y := 8) h50 (iv_c (c := 8) (n := 8) (by decide)) q52 (by decide)
            refine lv_iconst (v := 0) hx hb dX12_isWord_78 (by decide) ?_
            have q54 : nx.toInt ≤ x23.toInt ∧ x23.toInt ≤ tp.toInt := by
              have := (h_nx).1; have := (h_nx).2; have := (h_tp).1; have := (h_tp).2; have := (h11).1; have := (h11).2; have := (h53).1; have := (h53).2; have := (h_x23).1; have := (h_x23).2; have := (h25).1; have := (h25).2; omega
            exact tw_endz hx hb hr hlocks hK hT hS hQ rfl (⟨(iv_mono (iv_c (c := 0) (n := 0) (by decide)) (by decide) (by decide)), ⟨x23, k24, h_x23, q54, w2_18, (fun h => absurd rfl h)⟩⟩) dX12_isWord_79
          · have q55 : x17.toInt < 8 := ti_nle c51
            have h56 : iv 1 7 x17 := iv_ltL (y := 8) h50 (iv_c (c := 8) (n := 8) (by decide)) q55 (by decide)
            refine lv_lload_n hx hb dX12_isWord_68 rfl (lv_at hl 0 rfl) ?_
            refine lv_lload_n hx hb dX12_isWord_69 rfl (lv_at hl 3 rfl) ?_
            refine W.lcmp hx hb dX12_isWord_70 ?_
            refine lv_topi (fun x59 e58 => ?_)
            have h57 := iv_any x59
            refine lv_if_ne (tgt := 78) hx hb dX12_isWord_71 (by decide) (fun c60 => ?_) (fun c60 => ?_)
            · have q61 : ¬ x59.toInt = 0 := ti_ne c60
              have n62 := md_lne e58 c60
              refine lv_iconst (v := 0) hx hb dX12_isWord_78 (by decide) ?_
              have q63 : nx.toInt ≤ x23.toInt ∧ x23.toInt ≤ tp.toInt := by
                have := (h_nx).1; have := (h_nx).2; have := (h_tp).1; have := (h_tp).2; have := (h11).1; have := (h11).2; have := (h56).1; have := (h56).2; have := (h_x23).1; have := (h_x23).2; have := (h25).1; have := (h25).2; omega
              exact tw_endz hx hb hr hlocks hK hT hS hQ rfl (⟨(iv_mono (iv_c (c := 0) (n := 0) (by decide)) (by decide) (by decide)), ⟨x23, k24, h_x23, q63, w2_18, (fun h => absurd rfl h)⟩⟩) dX12_isWord_79
            · have q64 : x59.toInt = 0 := ti_eq c60
              have h65 : iv 0 0 x59 := ⟨by have := (h57).1; have := ((iv_c (c := 0) (n := 0) (by decide))).1; omega, by have := (h57).2; have := ((iv_c (c := 0) (n := 0) (by decide))).2; omega⟩
              refine lv_iconst (v := 1) hx hb dX12_isWord_74 (by decide) ?_
              refine lv_goto (tgt := 79) hx hb dX12_isWord_75 (by decide) ?_
              have q66 : nx.toInt ≤ x23.toInt ∧ x23.toInt ≤ tp.toInt := by
                have := (h_nx).1; have := (h_nx).2; have := (h_tp).1; have := (h_tp).2; have := (h11).1; have := (h11).2; have := (h56).1; have := (h56).2; have := (h_x23).1; have := (h_x23).2; have := (h25).1; have := (h25).2; omega
              exact tw_endz hx hb hr hlocks hK hT hS hQ rfl (⟨(iv_mono (iv_c (c := 1) (n := 1) (by decide)) (by decide) (by decide)), ⟨x23, k24, h_x23, q66, w2_18, (fun _ => w1_18.resolve_left (by omega))⟩⟩) dX12_isWord_79
      · have q67 : ¬ x37.toInt = 0 := ti_ne c41
        have h68 : iv 1 1 x37 := ⟨by have := (h_x37).1; have := ((iv_c (c := 0) (n := 0) (by decide))).1; have := ((iv_c (c := 0) (n := 0) (by decide))).2; omega, by have := (h_x37).2; have := ((iv_c (c := 0) (n := 0) (by decide))).1; have := ((iv_c (c := 0) (n := 0) (by decide))).2; omega⟩
        have z69 := z39 c41
        have q70 := z69.1
        have h71 : iv 0 399 x27 := iv_ltL (y := tp) h25 h_tp q70 (by decide)
        refine lv_iload hx hb dX12_isWord_24 (lv_at hl 1 rfl) ?_
        refine lv_bipush (v := 8) hx hb dX12_isWord_26 (by decide) ?_
        refine lv_icmp_ge (tgt := 50) hx hb dX12_isWord_28 (by decide) (fun c72 => ?_) (fun c72 => ?_)
        · have q73 : 8 ≤ x17.toInt := ti_le c72
          have h74 : iv 8 400 x17 := iv_geL (y := 8) h_x17 (iv_c (c := 8) (n := 8) (by decide)) q73 (by decide)
          refine tw_iinc (lv' := fun x77 => [(5, .int x77), (3, .long x16), (0, .ref (base + a0)), (1, .long a1)]) (lo := 9) (hi := 401) hx hb dX12_isWord_50 hl (k := 1) rfl h74 (by decide) ⟨by decide, by decide⟩ ⟨by decide, by decide⟩ (by decide) (fun _ => rfl) (fun x77 ls e76 h75 hl => ?_)
          refine lv_goto (tgt := 10) hx hb dX12_isWord_53 (by decide) ?_
          have h78 : iv 0 400 x77 := by
            have := (h_nx).1; have := (h_nx).2; have := (h_tp).1; have := (h_tp).2; have := (h11).1; have := (h11).2; have := (h74).1; have := (h74).2; have := (h_x23).1; have := (h_x23).2; have := (h71).1; have := (h71).2; have := (h75).1; have := (h75).2; exact ⟨by omega, by omega⟩
          have w79 : nx.toInt ≤ x23.toInt ∧ x23.toInt + x77.toInt ≤ tp.toInt := by
            have := (h_nx).1; have := (h_nx).2; have := (h_tp).1; have := (h_tp).2; have := (h11).1; have := (h11).2; have := (h74).1; have := (h74).2; have := (h_x23).1; have := (h_x23).2; have := (h71).1; have := (h71).2; have := (h75).1; have := (h75).2; omega
          have w80 : x77.toInt = 0 ∨ chF 97 122 Ma tb x23 tp := by rcases w1_18 with h | h; · exact Or.inr (z69.at (by omega)); · exact Or.inr h
          have w81 : (∀ lo hi : Int, 33 ≤ lo → chF lo hi Ma tb nx tp → x23.toInt = nx.toInt) := w2_18
          have hm82 : 400 - x77.toInt < (n_18 : Int) := by
            have := (h_nx).1; have := (h_nx).2; have := (h_tp).1; have := (h_tp).2; have := (h11).1; have := (h11).2; have := (h74).1; have := (h74).2; have := (h_x23).1; have := (h_x23).2; have := (h71).1; have := (h71).2; have := (h75).1; have := (h75).2; omega
          exact ih_18 (x16) x77 x23 M18 R19 J33 H locs _ h78 h_x23 k24 w79 w80 w81 hm82 hS (lv_sub hl [1, 0, 2, 3] rfl)
        · have q83 : x17.toInt < 8 := ti_nle c72
          have h84 : iv 0 7 x17 := iv_ltL (y := 8) h_x17 (iv_c (c := 8) (n := 8) (by decide)) q83 (by decide)
          refine lv_lload_n hx hb dX12_isWord_31 rfl (lv_at hl 0 rfl) ?_
          refine lv_bipush (v := 8) hx hb dX12_isWord_32 (by decide) ?_
          refine lv_lshl hx hb dX12_isWord_34 rfl ?_
          refine tw_topl (fun x85 => ?_)
          refine lv_aload_n hx hb dX12_isWord_35 rfl (lv_at hl 2 rfl) ?_
          have k86 : R19 a0 0 = some tb := (Fr.kp (k := 0) g22 hk_a0 rfl).trans k_tb
          refine tw_getrk hx hb hW hown hK hS f_X12_7_11 hz_a0 hk_a0 (b := tb) k86 dX12_isWord_36 ?_
          refine lv_aload_n hx hb dX12_isWord_39 rfl (lv_at hl 2 rfl) ?_
          refine tw_getk hx hb hW hown hK hS f_X12_127_11 hz_a0 hk_a0 (v := x23) k24 dX12_isWord_40 ?_
          refine lv_iload hx hb dX12_isWord_43 (lv_at hl 1 rfl) ?_
          refine tw_iadd (lo := 0) (hi := 407) hx hb h_x23 h84 ⟨by decide, by decide⟩ ⟨by decide, by decide⟩ dX12_isWord_45 (fun x89 e88 h87 => ?_)
          have h90 : iv 0 399 x89 := by
            have := (h_nx).1; have := (h_nx).2; have := (h_tp).1; have := (h_tp).2; have := (h11).1; have := (h11).2; have := (h84).1; have := (h84).2; have := (h_x23).1; have := (h_x23).2; have := (h71).1; have := (h71).2; have := (h87).1; have := (h87).2; exact ⟨by omega, by omega⟩
          refine tw_bald hx hb hK hS hz_tb hk_tb hn_tb h90 ⟨by decide, by decide⟩ dX12_isWord_46 (fun x93 k92 => ?_)
          have h91 := iv_any x93
          refine lv_i2l hx hb dX12_isWord_47 rfl ?_
          refine lv_lor hx hb dX12_isWord_48 ?_
          refine tw_topl (fun x94 => ?_)
          refine lv_lstore_n (lv' := [(3, .long x94), (5, .int x17), (0, .ref (base + a0)), (1, .long a1)]) hx hb dX12_isWord_49 rfl hl (by decide) rfl (fun ls hl => ?_)
          refine tw_iinc (lv' := fun x97 => [(5, .int x97), (3, .long x94), (0, .ref (base + a0)), (1, .long a1)]) (lo := 1) (hi := 8) hx hb dX12_isWord_50 hl (k := 1) rfl h84 (by decide) ⟨by decide, by decide⟩ ⟨by decide, by decide⟩ (by decide) (fun _ => rfl) (fun x97 ls e96 h95 hl => ?_)
          refine lv_goto (tgt := 10) hx hb dX12_isWord_53 (by decide) ?_
          have w98 : nx.toInt ≤ x23.toInt ∧ x23.toInt + x97.toInt ≤ tp.toInt := by
            have := (h_nx).1; have := (h_nx).2; have := (h_tp).1; have := (h_tp).2; have := (h11).1; have := (h11).2; have := (h84).1; have := (h84).2; have := (h_x23).1; have := (h_x23).2; have := (h71).1; have := (h71).2; have := (h90).1; have := (h90).2; have := (h95).1; have := (h95).2; omega
          have w99 : x97.toInt = 0 ∨ chF 97 122 Ma tb x23 tp := by rcases w1_18 with h | h; · exact Or.inr (z69.at (by omega)); · exact Or.inr h
          have w100 : (∀ lo hi : Int, 33 ≤ lo → chF lo hi Ma tb nx tp → x23.toInt = nx.toInt) := w2_18
          have hm101 : 400 - x97.toInt < (n_18 : Int) := by
            have := (h_nx).1; have := (h_nx).2; have := (h_tp).1; have := (h_tp).2; have := (h11).1; have := (h11).2; have := (h84).1; have := (h84).2; have := (h_x23).1; have := (h_x23).2; have := (h71).1; have := (h71).2; have := (h90).1; have := (h90).2; have := (h95).1; have := (h95).2; omega
          exact ih_18 (x94) x97 x23 M18 R19 J33 H locs _ (iv_mono h95 (by decide) (by decide)) h_x23 k24 w98 w99 w100 hm101 hS (lv_sub hl [1, 0, 2, 3] rfl)
  have w102 : nx.toInt ≤ x12.toInt ∧ x12.toInt + (0 : Int32).toInt ≤ tp.toInt := by
    have := (h_nx).1; have := (h_nx).2; have := (h_tp).1; have := (h_tp).2; have := (h11).1; have := (h11).2; have := (h_x8).1; have := (h_x8).2; have : (0 : Int32).toInt = 0 := (by decide); omega
  have w103 : (0 : Int32).toInt = 0 ∨ chF 97 122 Ma tb x12 tp := Or.inl (by decide)
  have w104 : (∀ lo hi : Int, 33 ≤ lo → chF lo hi Ma tb nx tp → x12.toInt = nx.toInt) := z14
  have hm105 : 400 - (0 : Int32).toInt < (((401 : Nat) : Int) : Int) := by
    have := (h_nx).1; have := (h_nx).2; have := (h_tp).1; have := (h_tp).2; have : (0 : Int32).toInt = 0 := (by decide); omega
  exact W10_18 401 (0) 0 x12 M5 Ra J4 H locs _ (iv_mono (iv_c (c := 0) (n := 0) (by decide)) (by decide) (by decide)) h11 k10 w102 w103 w104 hm105 hS (lv_sub hl [1, 0, 2, 3] rfl)
