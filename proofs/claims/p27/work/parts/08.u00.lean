def Lt_X12_chair : WL := [(12, 23, 24), (12, 28, 29), (12, 30, 33), (12, 35, 37), (14, 0, 2000000), (30, 0, 2000000), (31, 0, 2000000), (33, 0, 2000000)]
def LRt_X12_chair : WL := []
set_option maxRecDepth 100000 in
set_option maxHeartbeats 4000000 in
theorem t_X12_chair (l : Launch) (D : va_G) (cy : Nat → ClassId) (tx : (Nat → Nat) × (Nat → Nat)) (base Z : Nat) (K N : Nat → Nat) (Ma : MT) (Ra : RT) (Ja : JT) (hTy : Ty Z K N Ma Ra) (a0 : Nat) (hz_a0 : a0 < Z) (hk_a0 : K a0 = 12) (a1 : Int32) (h_a1 : iv (-2147483648) 2147483647 a1) (a2 : Int32) (h_a2 : iv (-2147483648) 2147483647 a2) (a3 : Int32) (h_a3 : iv (-2147483648) 2147483647 a3) (co_a0 : Codes Ma Ra a0) : Met l yX12_chair [Cond.code yX12_chair cX12_chair 11 (some .int)] (md_rm 6 0 0) (va_Pc [.ref (base + a0), .int a1, .int a2, .int a3] (md_U D cy tx base Z K N Ma Ra Ja)) (mQi D cy tx base (fun r u => TP Z K N Lt_X12_chair LRt_X12_chair Ma Ra u ∧ (iv (-2147483648) 2147483647 r))) 0 0 (fun q => base ≤ q) := by
  refine tw_ofW (L := Lt_X12_chair) (LR := LRt_X12_chair) (by decide) (Nat.le_of_ble_eq_true rfl) hTy ?_
  intro p e s m args below meth c Q ls hx hb hr hlocks hown hml hW hK hT hS hQ hl
  have hl : lv_has ls 11 [(0, .ref (base + a0)), (1, .int a1), (2, .int a2), (3, .int a3)] := hl
  refine lv_aload_n hx hb dX12_chair_0 rfl (lv_at hl 0 rfl) ?_
  refine tw_getr hx hb hW hown hK hS f_X12_45_11 hz_a0 hk_a0 (t := 23) (n := 226) rfl dX12_chair_1 (fun b1 k2 hz_b1 hk_b1 hn_b1 => ?_)
  have hn_b1 := hn_b1 (by decide)
  refine lv_iconst (v := 4) hx hb dX12_chair_4 (by decide) ?_
  refine tw_iald hx hb hK hS hz_b1 hk_b1 (Or.inr (by decide)) hn_b1 (lo := 0) (hi := 8) (iv_c (c := 4) (n := 4) (by decide)) ⟨by decide, by decide⟩ (rg_c (k0 := 4) rfl rfl rfl) dX12_chair_5 (fun x5 k4 h3 => ?_)
  refine lv_istore (lv' := [(4, .int x5), (0, .ref (base + a0)), (1, .int a1), (2, .int a2), (3, .int a3)]) hx hb dX12_chair_6 hl (by decide) rfl (fun ls hl => ?_)
  refine lv_aload_n hx hb dX12_chair_8 rfl (lv_at hl 1 rfl) ?_
  refine lv_iload_n hx hb dX12_chair_9 rfl (lv_at hl 2 rfl) ?_
  refine tw_goi hS (md_runV (As := [.int a1]) (rest := []) hx hb hml hown hW hK hT hS.1 (t_X12_isMember l D cy tx base Z K N Ma Ra Ja hS.2.1 a0 hz_a0 hk_a0 a1 h_a1) s_X12_319 ⟨rfl, rfl, ⟨Nat.le_of_ble_eq_true rfl, Nat.le_of_ble_eq_true rfl⟩, ⟨Nat.le_of_ble_eq_true rfl, Nat.le_of_ble_eq_true rfl⟩⟩ hz_a0 hk_a0 (by decide) rfl rfl hl.1 rfl (Nat.le_of_ble_eq_true rfl) dX12_chair_10) rfl rfl (fun x12 H locs M9 R10 J8 hS f6 g7 E11 => ?_)
  have eM9 := Fr.nil f6 rfl
  subst eM9
  have eR10 := Fr.nil g7 rfl
  subst eR10
  obtain ⟨h_x12, p13⟩ := E11
  refine lv_if_eq (tgt := 41) hx hb dX12_chair_13 (by decide) (fun c14 => ?_) (fun c14 => ?_)
  · have q15 : x12.toInt = 0 := ti_eq c14
    have h16 : iv 0 0 x12 := ⟨by have := (h_x12).1; have := ((iv_c (c := 0) (n := 0) (by decide))).1; omega, by have := (h_x12).2; have := ((iv_c (c := 0) (n := 0) (by decide))).2; omega⟩
    refine lv_ldcw hx hb hown (hW _ w_8_46 rfl) dX12_chair_41 ?_
    exact tw_endi hx hb hr hlocks hK hT hS hQ ((iv_mono (iv_c (c := (-1000000)) (n := (-1000000)) (by decide)) (by decide) (by decide))) dX12_chair_44
  · have q17 : ¬ x12.toInt = 0 := ti_ne c14
    have h18 : iv 1 1 x12 := ⟨by have := (h_x12).1; have := ((iv_c (c := 0) (n := 0) (by decide))).1; have := ((iv_c (c := 0) (n := 0) (by decide))).2; omega, by have := (h_x12).2; have := ((iv_c (c := 0) (n := 0) (by decide))).1; have := ((iv_c (c := 0) (n := 0) (by decide))).2; omega⟩
    have h19 : iv 0 9 a1 := ⟨by have := (p13 c14).1; have := (h_a1).1; omega, by have := (p13 c14).2; have := (h_a1).2; omega⟩
    refine lv_iload hx hb dX12_chair_16 (lv_at hl 0 rfl) ?_
    refine lv_i2l hx hb dX12_chair_18 rfl ?_
    refine lv_lconst (v := 1) hx hb dX12_chair_19 (by decide) ?_
    refine lv_ldc2 hx hb hown (hW _ w_8_120 rfl) dX12_chair_20 ?_
    refine tw_goi hS (md_runS (As := [.long x5.toInt64, .long 1, .long 6]) (rest := []) hx hb hml hown hW hK hT hS.1 (t_X12_in l D cy tx base Z K N Ma Ra J8 hS.2.1 (x5.toInt64) (1) (6)) s_X12_155 ⟨rfl, rfl, ⟨Nat.le_of_ble_eq_true rfl, Nat.le_of_ble_eq_true rfl⟩, ⟨Nat.le_of_ble_eq_true rfl, Nat.le_of_ble_eq_true rfl⟩⟩ rfl hl.1 rfl (Nat.le_of_ble_eq_true rfl) dX12_chair_23) rfl rfl (fun x26 H locs M23 R24 J22 hS f20 g21 E25 => ?_)
    have eM23 := Fr.nil f20 rfl
    subst eM23
    have eR24 := Fr.nil g21 rfl
    subst eR24
    obtain ⟨h_x26, p27⟩ := E25
    refine lv_if_eq (tgt := 41) hx hb dX12_chair_26 (by decide) (fun c28 => ?_) (fun c28 => ?_)
    · have q29 : x26.toInt = 0 := ti_eq c28
      have h30 : iv 0 0 x26 := ⟨by have := (h_x26).1; have := ((iv_c (c := 0) (n := 0) (by decide))).1; omega, by have := (h_x26).2; have := ((iv_c (c := 0) (n := 0) (by decide))).2; omega⟩
      refine lv_ldcw hx hb hown (hW _ w_8_46 rfl) dX12_chair_41 ?_
      exact tw_endi hx hb hr hlocks hK hT hS hQ ((iv_mono (iv_c (c := (-1000000)) (n := (-1000000)) (by decide)) (by decide) (by decide))) dX12_chair_44
    · have q31 : ¬ x26.toInt = 0 := ti_ne c28
      have h32 : iv 1 1 x26 := ⟨by have := (h_x26).1; have := ((iv_c (c := 0) (n := 0) (by decide))).1; have := ((iv_c (c := 0) (n := 0) (by decide))).2; omega, by have := (h_x26).2; have := ((iv_c (c := 0) (n := 0) (by decide))).1; have := ((iv_c (c := 0) (n := 0) (by decide))).2; omega⟩
      have h33 : iv 1 6 x5 := in2iv (p27 c28) ((jv_c (x := 1) (n := 1) (by decide))).1 ((jv_c (x := 6) (n := 6) (by decide))).2
      refine lv_iload_n hx hb dX12_chair_29 rfl (lv_at hl 4 rfl) ?_
      refine lv_i2l hx hb dX12_chair_30 rfl ?_
      refine lv_lconst (v := 0) hx hb dX12_chair_31 (by decide) ?_
      refine lv_iload hx hb dX12_chair_32 (lv_at hl 0 rfl) ?_
      refine lv_i2l hx hb dX12_chair_34 rfl ?_
      refine tw_goi hS (md_runS (As := [.long a3.toInt64, .long 0, .long x5.toInt64]) (rest := []) hx hb hml hown hW hK hT hS.1 (t_X12_in l D cy tx base Z K N Ma Ra J22 hS.2.1 (a3.toInt64) (0) (x5.toInt64)) s_X12_155 ⟨rfl, rfl, ⟨Nat.le_of_ble_eq_true rfl, Nat.le_of_ble_eq_true rfl⟩, ⟨Nat.le_of_ble_eq_true rfl, Nat.le_of_ble_eq_true rfl⟩⟩ rfl hl.1 rfl (Nat.le_of_ble_eq_true rfl) dX12_chair_35) rfl rfl (fun x40 H locs M37 R38 J36 hS f34 g35 E39 => ?_)
      have eM37 := Fr.nil f34 rfl
      subst eM37
      have eR38 := Fr.nil g35 rfl
      subst eR38
      obtain ⟨h_x40, p41⟩ := E39
      refine lv_if_ne (tgt := 45) hx hb dX12_chair_38 (by decide) (fun c42 => ?_) (fun c42 => ?_)
      · have q43 : ¬ x40.toInt = 0 := ti_ne c42
        have h44 : iv 1 1 x40 := ⟨by have := (h_x40).1; have := ((iv_c (c := 0) (n := 0) (by decide))).1; have := ((iv_c (c := 0) (n := 0) (by decide))).2; omega, by have := (h_x40).2; have := ((iv_c (c := 0) (n := 0) (by decide))).1; have := ((iv_c (c := 0) (n := 0) (by decide))).2; omega⟩
        have h45 : iv 0 6 a3 := in2iv (p41 c42) ((jv_c (x := 0) (n := 0) (by decide))).1 ((jv_o h33)).2
        have q46 := (p41 c42).2
        rw [Int32.toInt_toInt64, Int32.toInt_toInt64] at q46
        refine lv_iconst (v := 1) hx hb dX12_chair_45 (by decide) ?_
        refine lv_istore (lv' := [(5, .int 1), (4, .int x5), (0, .ref (base + a0)), (1, .int a1), (2, .int a2), (3, .int a3)]) hx hb dX12_chair_46 hl (by decide) rfl (fun ls hl => ?_)
        refine lv_iconst (v := 0) hx hb dX12_chair_48 (by decide) ?_
        refine lv_istore (lv' := [(6, .int 0), (5, .int 1), (4, .int x5), (0, .ref (base + a0)), (1, .int a1), (2, .int a2), (3, .int a3)]) hx hb dX12_chair_49 hl (by decide) rfl (fun ls hl => ?_)
        have W51_49 : ∀ (n_49 : Nat) (x47 : Int32) (x48 : Int32) (M49 : MT) (R50 : RT) (J51 : JT) (H : Heap) (locs : List Loc) (ls : Array Slot) (h_x47 : iv (-2147483648) 2147483647 x47) (h_x48 : iv 0 6 x48) (hm_49 : 6 - x48.toInt < (n_49 : Int)) (hS : SB D cy base Z K N Lt_X12_chair LRt_X12_chair Ma Ra M49 R50 J51 s H locs) (hl : lv_has ls 11 [(5, .int x47), (6, .int x48), (4, .int x5), (0, .ref (base + a0)), (1, .int a1), (2, .int a2), (3, .int a3)]), W p l e (md_rm 6 0 0) s m args below meth c H locs 0 0 Q (F0 m 51 ls []) := by
          intro n_49
          induction n_49 with
          | zero =>
            intro x47 x48 M49 R50 J51 H locs ls h_x47 h_x48 hm_49 hS hl
            exfalso
            have := (h19).1; have := (h19).2; have := (h_a2).1; have := (h_a2).2; have := (h45).1; have := (h45).2; have := (h_x48).1; have := (h_x48).2; omega
          | succ n_49 ih_49 =>
            intro x47 x48 M49 R50 J51 H locs ls h_x47 h_x48 hm_49 hS hl
            have f52 := hS.2.2.1
            have g53 := hS.2.2.2
            refine lv_iload hx hb dX12_chair_51 (lv_at hl 1 rfl) ?_
            refine lv_iload hx hb dX12_chair_53 (lv_at hl 2 rfl) ?_
            refine lv_icmp_ge (tgt := 71) hx hb dX12_chair_55 (by decide) (fun c54 => ?_) (fun c54 => ?_)
            · have q55 : x5.toInt ≤ x48.toInt := ti_le c54
              have h56 : iv 1 6 x48 := iv_geL (y := x5) h_x48 h33 q55 (by decide)
              refine lv_iconst (v := 0) hx hb dX12_chair_71 (by decide) ?_
              refine lv_istore (lv' := [(6, .int 0), (5, .int x47), (4, .int x5), (0, .ref (base + a0)), (1, .int a1), (2, .int a2), (3, .int a3)]) hx hb dX12_chair_72 hl (by decide) rfl (fun ls hl => ?_)
              refine lv_iconst (v := 0) hx hb dX12_chair_74 (by decide) ?_
              refine lv_istore (lv' := [(7, .int 0), (6, .int 0), (5, .int x47), (4, .int x5), (0, .ref (base + a0)), (1, .int a1), (2, .int a2), (3, .int a3)]) hx hb dX12_chair_75 hl (by decide) rfl (fun ls hl => ?_)
              refine lv_iconst (v := 0) hx hb dX12_chair_77 (by decide) ?_
              refine lv_istore (lv' := [(8, .int 0), (7, .int 0), (6, .int 0), (5, .int x47), (4, .int x5), (0, .ref (base + a0)), (1, .int a1), (2, .int a2), (3, .int a3)]) hx hb dX12_chair_78 hl (by decide) rfl (fun ls hl => ?_)
              have W80_60 : ∀ (n_60 : Nat) (x57 : Int32) (x58 : Int32) (x59 : Int32) (M60 : MT) (R61 : RT) (J62 : JT) (H : Heap) (locs : List Loc) (ls : Array Slot) (h_x57 : iv 0 1 x57) (h_x58 : iv (-2147483648) 2147483647 x58) (h_x59 : iv 0 2147483647 x59) (hm_60 : 2147483647 - x59.toInt < (n_60 : Int)) (hS : SB D cy base Z K N Lt_X12_chair LRt_X12_chair Ma Ra M60 R61 J62 s H locs) (hl : lv_has ls 11 [(6, .int x57), (7, .int x58), (8, .int x59), (5, .int x47), (4, .int x5), (0, .ref (base + a0)), (1, .int a1), (2, .int a2), (3, .int a3)]), W p l e (md_rm 6 0 0) s m args below meth c H locs 0 0 Q (F0 m 80 ls []) := by
                intro n_60
                induction n_60 with
                | zero =>
                  intro x57 x58 x59 M60 R61 J62 H locs ls h_x57 h_x58 h_x59 hm_60 hS hl
                  exfalso
                  have := (h19).1; have := (h19).2; have := (h_a2).1; have := (h_a2).2; have := (h45).1; have := (h45).2; have := (h_x59).1; have := (h_x59).2; omega
                | succ n_60 ih_60 =>
                  intro x57 x58 x59 M60 R61 J62 H locs ls h_x57 h_x58 h_x59 hm_60 hS hl
                  have f63 := hS.2.2.1
                  have g64 := hS.2.2.2
                  refine lv_iload hx hb dX12_chair_80 (lv_at hl 2 rfl) ?_
                  refine lv_iload hx hb dX12_chair_82 (lv_at hl 3 rfl) ?_
                  refine lv_icmp_ge (tgt := 260) hx hb dX12_chair_84 (by decide) (fun c65 => ?_) (fun c65 => ?_)
                  · have q66 : x47.toInt ≤ x59.toInt := ti_le c65
                    refine lv_iload_n hx hb dX12_chair_260 rfl (lv_at hl 8 rfl) ?_
                    refine lv_if_ne (tgt := 269) hx hb dX12_chair_261 (by decide) (fun c67 => ?_) (fun c67 => ?_)
                    · have q68 : ¬ a3.toInt = 0 := ti_ne c67
                      have h69 : iv 1 6 a3 := ⟨by have := (h45).1; have := ((iv_c (c := 0) (n := 0) (by decide))).1; have := ((iv_c (c := 0) (n := 0) (by decide))).2; omega, by have := (h45).2; have := ((iv_c (c := 0) (n := 0) (by decide))).1; have := ((iv_c (c := 0) (n := 0) (by decide))).2; omega⟩
                      refine lv_aload_n hx hb dX12_chair_269 rfl (lv_at hl 5 rfl) ?_
                      refine tw_getr hx hb hW hown hK hS f_X12_87_11 hz_a0 hk_a0 (t := 14) (n := 6) rfl dX12_chair_270 (fun b70 k71 hz_b70 hk_b70 hn_b70 => ?_)
                      have hn_b70 := hn_b70 (by decide)
                      refine lv_iload_n hx hb dX12_chair_273 rfl (lv_at hl 8 rfl) ?_
                      refine lv_iconst (v := 1) hx hb dX12_chair_274 (by decide) ?_
                      refine tw_isub (lo := 0) (hi := 5) hx hb h69 (iv_c (c := 1) (n := 1) (by decide)) ⟨by decide, by decide⟩ ⟨by decide, by decide⟩ dX12_chair_275 (fun x74 e73 h72 => ?_)
                      have e73 : x74.toInt = a3.toInt - 1 := e73
                      refine tw_iald hx hb hK hS hz_b70 hk_b70 (Or.inl rfl) hn_b70 (lo := (-2147483648)) (hi := 2147483647) h72 ⟨by decide, by decide⟩ rg_u14 dX12_chair_276 (fun x77 k76 h75 => ?_)
                      exact tw_endi hx hb hr hlocks hK hT hS hQ (h75) dX12_chair_277
                    · have q78 : a3.toInt = 0 := ti_eq c67
                      have h79 : iv 0 0 a3 := ⟨by have := (h45).1; have := ((iv_c (c := 0) (n := 0) (by decide))).1; omega, by have := (h45).2; have := ((iv_c (c := 0) (n := 0) (by decide))).2; omega⟩
                      refine lv_iload hx hb dX12_chair_264 (lv_at hl 1 rfl) ?_
                      refine lv_goto (tgt := 277) hx hb dX12_chair_266 (by decide) ?_
                      exact tw_endi hx hb hr hlocks hK hT hS hQ (h_x58) dX12_chair_277
                  · have q80 : x59.toInt < x47.toInt := ti_nle c65
                    have h81 : iv 0 2147483646 x59 := iv_ltL (y := x47) h_x59 h_x47 q80 (by decide)
                    have h82 : iv 1 2147483647 x47 := iv_gtL (y := x59) h_x47 h_x59 q80 (by decide)
                    refine lv_aload_n hx hb dX12_chair_87 rfl (lv_at hl 5 rfl) ?_
                    refine lv_iload hx hb dX12_chair_88 (lv_at hl 2 rfl) ?_
                    refine lv_iload hx hb dX12_chair_90 (lv_at hl 4 rfl) ?_
                    refine tw_goi hS (md_runV (As := [.int x59, .int x5]) (rest := []) hx hb hml hown hW hK hT hS.1 (t_X12_isRow l D cy tx base Z K N M60 R61 J62 hS.2.1 a0 hz_a0 hk_a0 x59 (iv_mono h81 (by decide) (by decide)) x5 h33) s_X12_472 ⟨rfl, rfl, ⟨Nat.le_of_ble_eq_true rfl, Nat.le_of_ble_eq_true rfl⟩, ⟨Nat.le_of_ble_eq_true rfl, Nat.le_of_ble_eq_true rfl⟩⟩ hz_a0 hk_a0 (by decide) rfl rfl hl.1 rfl (Nat.le_of_ble_eq_true rfl) dX12_chair_92) rfl rfl (fun x89 H locs M86 R87 J85 hS f83 g84 E88 => ?_)
                    have eR87 := Fr.nil g84 rfl
                    subst eR87
                    have h_x89 := E88
                    refine lv_if_ne (tgt := 101) hx hb dX12_chair_95 (by decide) (fun c90 => ?_) (fun c90 => ?_)
                    · have q91 : ¬ x89.toInt = 0 := ti_ne c90
                      have h92 : iv 1 1 x89 := ⟨by have := (h_x89).1; have := ((iv_c (c := 0) (n := 0) (by decide))).1; have := ((iv_c (c := 0) (n := 0) (by decide))).2; omega, by have := (h_x89).2; have := ((iv_c (c := 0) (n := 0) (by decide))).1; have := ((iv_c (c := 0) (n := 0) (by decide))).2; omega⟩
                      refine lv_aload_n hx hb dX12_chair_101 rfl (lv_at hl 5 rfl) ?_
                      have k93 : R61 a0 25 = some b1 := (Fr.kp (k := 25) g64 hk_a0 rfl).trans k2
                      have k94 : M86 b1 (4 : Int32).toNatClampNeg = x5 := ((Fr.kp (k := (4 : Int32).toNatClampNeg) f83 hk_b1 rfl).trans (Fr.kp (k := (4 : Int32).toNatClampNeg) f63 hk_b1 rfl)).trans k4
                      refine tw_gov hS (md_runV (As := []) (rest := []) hx hb hml hown hW hK hT hS.1 (t_X12_begins l D cy tx base Z K N M86 R61 J85 hS.2.1 a0 hz_a0 hk_a0 b1 k93 x5 k94 (iv_mono h33 (by decide) (by decide))) s_X12_393 ⟨rfl, rfl, ⟨Nat.le_of_ble_eq_true rfl, Nat.le_of_ble_eq_true rfl⟩, ⟨Nat.le_of_ble_eq_true rfl, Nat.le_of_ble_eq_true rfl⟩⟩ hz_a0 hk_a0 (by decide) rfl rfl hl.1 rfl (Nat.le_of_ble_eq_true rfl) dX12_chair_102) rfl rfl (fun H locs M98 R99 J97 hS f95 g96 E100 => ?_)
                      have eR99 := Fr.nil g96 rfl
                      subst eR99
                      have p101 := E100
                      have k102 : M98 a0 30 = x5 := p101
                      refine lv_iconst (v := 0) hx hb dX12_chair_105 (by decide) ?_
                      refine lv_istore (lv' := [(9, .int 0), (6, .int x57), (7, .int x58), (8, .int x59), (5, .int x47), (4, .int x5), (0, .ref (base + a0)), (1, .int a1), (2, .int a2), (3, .int a3)]) hx hb dX12_chair_106 hl (by decide) rfl (fun ls hl => ?_)
                      have W108_104 : ∀ (n_104 : Nat) (x103 : Int32) (x109 : Int32) (M104 : MT) (R105 : RT) (J106 : JT) (H : Heap) (locs : List Loc) (ls : Array Slot) (h_x103 : iv 0 6 x103) (h_x109 : iv 1 6 x109) (k110 : M104 a0 30 = x109) (hm_104 : 6 - x103.toInt < (n_104 : Int)) (hS : SB D cy base Z K N Lt_X12_chair LRt_X12_chair Ma Ra M104 R105 J106 s H locs) (hl : lv_has ls 11 [(9, .int x103), (6, .int x57), (7, .int x58), (8, .int x59), (5, .int x47), (4, .int x5), (0, .ref (base + a0)), (1, .int a1), (2, .int a2), (3, .int a3)]), W p l e (md_rm 6 0 0) s m args below meth c H locs 0 0 Q (F0 m 108 ls []) := by
                        intro n_104
                        induction n_104 with
                        | zero =>
                          intro x103 x109 M104 R105 J106 H locs ls h_x103 h_x109 k110 hm_104 hS hl
                          exfalso
                          have := (h19).1; have := (h19).2; have := (h_a2).1; have := (h_a2).2; have := (h45).1; have := (h45).2; have := (h_x103).1; have := (h_x103).2; omega
                        | succ n_104 ih_104 =>
                          intro x103 x109 M104 R105 J106 H locs ls h_x103 h_x109 k110 hm_104 hS hl
                          have f107 := hS.2.2.1
                          have g108 := hS.2.2.2
                          refine lv_iload hx hb dX12_chair_108 (lv_at hl 0 rfl) ?_
                          refine lv_iload hx hb dX12_chair_110 (lv_at hl 5 rfl) ?_
                          refine lv_icmp_ge (tgt := 144) hx hb dX12_chair_112 (by decide) (fun c111 => ?_) (fun c111 => ?_)
                          · have q112 : x5.toInt ≤ x103.toInt := ti_le c111
                            have h113 : iv 1 6 x103 := iv_geL (y := x5) h_x103 h33 q112 (by decide)
                            refine lv_aload_n hx hb dX12_chair_144 rfl (lv_at hl 6 rfl) ?_
                            refine lv_iconst (v := 0) hx hb dX12_chair_145 (by decide) ?_
                            refine tw_puti hx hb hW hown hK hS f_X12_410_11 hz_a0 hk_a0 rfl rfl (lo := (-2147483648)) (hi := 2147483647) rfl (iv_mono (iv_c (c := 0) (n := 0) (by decide)) (by decide) (by decide)) rfl dX12_chair_146 (fun H locs M116 hS k114 f115 => ?_)
                            refine lv_aload_n hx hb dX12_chair_149 rfl (lv_at hl 6 rfl) ?_
                            refine lv_iload_n hx hb dX12_chair_150 rfl (lv_at hl 7 rfl) ?_
                            refine tw_gov hS (md_runV (As := [.int a1]) (rest := []) hx hb hml hown hW hK hT hS.1 (t_X12_passes l D cy tx base Z K N M116 R105 J106 hS.2.1 a0 hz_a0 hk_a0 a1 h19 (Codes.fr co_a0 hTy hz_a0 hk_a0 hS.2.2.1 hS.2.2.2 rfl)) s_X12_417 ⟨rfl, rfl, ⟨Nat.le_of_ble_eq_true rfl, Nat.le_of_ble_eq_true rfl⟩, ⟨Nat.le_of_ble_eq_true rfl, Nat.le_of_ble_eq_true rfl⟩⟩ hz_a0 hk_a0 (by decide) rfl rfl hl.1 rfl (Nat.le_of_ble_eq_true rfl) dX12_chair_151) rfl rfl (fun H locs M120 R121 J119 hS f117 g118 E122 => ?_)
                            have eR121 := Fr.nil g118 rfl
                            subst eR121
                            refine lv_iload hx hb dX12_chair_154 (lv_at hl 1 rfl) ?_
                            have J200_123 : ∀  (M123 : MT) (R124 : RT) (J125 : JT) (H : Heap) (locs : List Loc) (ls : Array Slot) (hS : SB D cy base Z K N Lt_X12_chair LRt_X12_chair Ma Ra M123 R124 J125 s H locs) (hl : lv_has ls 11 [(9, .int x103), (6, .int x57), (7, .int x58), (8, .int x59), (5, .int x47), (4, .int x5), (0, .ref (base + a0)), (1, .int a1), (2, .int a2), (3, .int a3)]), W p l e (md_rm 6 0 0) s m args below meth c H locs 0 0 Q (F0 m 200 ls []) := by
                              intro  M123 R124 J125 H locs ls  hS hl
                              have f126 := hS.2.2.1
                              have g127 := hS.2.2.2
                              refine lv_iconst (v := 1) hx hb dX12_chair_200 (by decide) ?_
                              refine lv_goto (tgt := 205) hx hb dX12_chair_201 (by decide) ?_
                              refine lv_istore (lv' := [(9, .int 1), (6, .int x57), (7, .int x58), (8, .int x59), (5, .int x47), (4, .int x5), (0, .ref (base + a0)), (1, .int a1), (2, .int a2), (3, .int a3)]) hx hb dX12_chair_205 hl (by decide) rfl (fun ls hl => ?_)
                              refine lv_iload hx hb dX12_chair_207 (lv_at hl 0 rfl) ?_
                              refine lv_if_ne (tgt := 215) hx hb dX12_chair_209 (by decide) (fun _ => ?_) (fun h => absurd h (by decide))
                              refine lv_iconst (v := 1) hx hb dX12_chair_215 (by decide) ?_
                              refine lv_istore (lv' := [(6, .int 1), (9, .int 1), (7, .int x58), (8, .int x59), (5, .int x47), (4, .int x5), (0, .ref (base + a0)), (1, .int a1), (2, .int a2), (3, .int a3)]) hx hb dX12_chair_216 hl (by decide) rfl (fun ls hl => ?_)
                              refine lv_aload_n hx hb dX12_chair_218 rfl (lv_at hl 6 rfl) ?_
                              refine tw_geti hx hb hW hown hK hS f_X12_410_11 hz_a0 hk_a0 (lo := (-2147483648)) (hi := 2147483647) rfl dX12_chair_219 (fun x130 k129 h128 => ?_)
                              refine lv_istore (lv' := [(7, .int x130), (6, .int 1), (9, .int 1), (8, .int x59), (5, .int x47), (4, .int x5), (0, .ref (base + a0)), (1, .int a1), (2, .int a2), (3, .int a3)]) hx hb dX12_chair_222 hl (by decide) rfl (fun ls hl => ?_)
                              refine lv_iconst (v := 0) hx hb dX12_chair_224 (by decide) ?_
                              refine lv_istore (lv' := [(10, .int 0), (7, .int x130), (6, .int 1), (9, .int 1), (8, .int x59), (5, .int x47), (4, .int x5), (0, .ref (base + a0)), (1, .int a1), (2, .int a2), (3, .int a3)]) hx hb dX12_chair_225 hl (by decide) rfl (fun ls hl => ?_)
                              have W227_132 : ∀ (n_132 : Nat) (x131 : Int32) (M132 : MT) (R133 : RT) (J134 : JT) (H : Heap) (locs : List Loc) (ls : Array Slot) (h_x131 : iv 0 6 x131) (hm_132 : 6 - x131.toInt < (n_132 : Int)) (hS : SB D cy base Z K N Lt_X12_chair LRt_X12_chair Ma Ra M132 R133 J134 s H locs) (hl : lv_has ls 11 [(10, .int x131), (7, .int x130), (6, .int 1), (9, .int 1), (8, .int x59), (5, .int x47), (4, .int x5), (0, .ref (base + a0)), (1, .int a1), (2, .int a2), (3, .int a3)]), W p l e (md_rm 6 0 0) s m args below meth c H locs 0 0 Q (F0 m 227 ls []) := by
                                intro n_132
                                induction n_132 with
                                | zero =>
                                  intro x131 M132 R133 J134 H locs ls h_x131 hm_132 hS hl
                                  exfalso
                                  have := (h19).1; have := (h19).2; have := (h_a2).1; have := (h_a2).2; have := (h45).1; have := (h45).2; have := (h_x131).1; have := (h_x131).2; omega
                                | succ n_132 ih_132 =>
                                  intro x131 M132 R133 J134 H locs ls h_x131 hm_132 hS hl
                                  have f135 := hS.2.2.1
                                  have g136 := hS.2.2.2
                                  refine lv_iload hx hb dX12_chair_227 (lv_at hl 0 rfl) ?_
                                  refine lv_iload hx hb dX12_chair_229 (lv_at hl 6 rfl) ?_
                                  refine lv_icmp_ge (tgt := 254) hx hb dX12_chair_231 (by decide) (fun c137 => ?_) (fun c137 => ?_)
                                  · have q138 : x5.toInt ≤ x131.toInt := ti_le c137
                                    have h139 : iv 1 6 x131 := iv_geL (y := x5) h_x131 h33 q138 (by decide)
                                    refine tw_iinc (lv' := fun x142 => [(8, .int x142), (10, .int x131), (7, .int x130), (6, .int 1), (9, .int 1), (5, .int x47), (4, .int x5), (0, .ref (base + a0)), (1, .int a1), (2, .int a2), (3, .int a3)]) (lo := 1) (hi := 2147483647) hx hb dX12_chair_254 hl (k := 4) rfl h81 (by decide) ⟨by decide, by decide⟩ ⟨by decide, by decide⟩ (by decide) (fun _ => rfl) (fun x142 ls e141 h140 hl => ?_)
                                    refine lv_goto (tgt := 80) hx hb dX12_chair_257 (by decide) ?_
                                    have hm143 : 2147483647 - x142.toInt < (n_60 : Int) := by
                                      have := (h19).1; have := (h19).2; have := (h_a2).1; have := (h_a2).2; have := (h45).1; have := (h45).2; have := (h140).1; have := (h140).2; have := (h81).1; have := (h81).2; omega
                                    exact ih_60 1 x130 x142 M132 R133 J134 H locs _ (iv_mono (iv_c (c := 1) (n := 1) (by decide)) (by decide) (by decide)) h128 (iv_mono h140 (by decide) (by decide)) hm143 hS (lv_sub hl [3, 2, 0, 5, 6, 7, 8, 9, 10] rfl)
                                  · have q144 : x131.toInt < x5.toInt := ti_nle c137
                                    have h145 : iv 0 5 x131 := iv_ltL (y := x5) h_x131 h33 q144 (by decide)
                                    refine lv_aload_n hx hb dX12_chair_234 rfl (lv_at hl 7 rfl) ?_
                                    refine tw_getr hx hb hW hown hK hS f_X12_87_11 hz_a0 hk_a0 (t := 14) (n := 6) rfl dX12_chair_235 (fun b146 k147 hz_b146 hk_b146 hn_b146 => ?_)
                                    have hn_b146 := hn_b146 (by decide)
                                    refine lv_iload hx hb dX12_chair_238 (lv_at hl 0 rfl) ?_
                                    refine lv_aload_n hx hb dX12_chair_240 rfl (lv_at hl 7 rfl) ?_
                                    refine tw_getr hx hb hW hown hK hS f_X12_54_11 hz_a0 hk_a0 (t := 31) (n := 8) rfl dX12_chair_241 (fun b148 k149 hz_b148 hk_b148 hn_b148 => ?_)
                                    have hn_b148 := hn_b148 (by decide)
                                    refine lv_iload hx hb dX12_chair_244 (lv_at hl 0 rfl) ?_
                                    refine tw_iald hx hb hK hS hz_b148 hk_b148 (Or.inr (by decide)) hn_b148 (lo := 0) (hi := 11) h145 ⟨by decide, by decide⟩ rg_u31 dX12_chair_246 (fun x152 k151 h150 => ?_)
                                    refine tw_iast hx hb hK hS hz_b146 hk_b146 (Or.inl rfl) hn_b146 h145 ⟨by decide, by decide⟩ h150 (rg_s14 ⟨by decide, by decide⟩) (jl := 0) (jh := 1999999) ⟨by decide, by decide⟩ rfl dX12_chair_247 (fun H locs M155 hS k153 f154 => ?_)
                                    refine tw_iinc (lv' := fun x158 => [(10, .int x158), (7, .int x130), (6, .int 1), (9, .int 1), (8, .int x59), (5, .int x47), (4, .int x5), (0, .ref (base + a0)), (1, .int a1), (2, .int a2), (3, .int a3)]) (lo := 1) (hi := 6) hx hb dX12_chair_248 hl (k := 0) rfl h145 (by decide) ⟨by decide, by decide⟩ ⟨by decide, by decide⟩ (by decide) (fun _ => rfl) (fun x158 ls e157 h156 hl => ?_)
                                    refine lv_goto (tgt := 227) hx hb dX12_chair_251 (by decide) ?_
                                    have hm159 : 6 - x158.toInt < (n_132 : Int) := by
                                      have := (h19).1; have := (h19).2; have := (h_a2).1; have := (h_a2).2; have := (h45).1; have := (h45).2; have := (h145).1; have := (h145).2; have := (h156).1; have := (h156).2; omega
                                    exact ih_132 x158 M155 R133 J134 H locs _ (iv_mono h156 (by decide) (by decide)) hm159 hS hl
                              have hm160 : 6 - (0 : Int32).toInt < (((7 : Nat) : Int) : Int) := by
                                have := (h19).1; have := (h19).2; have := (h_a2).1; have := (h_a2).2; have := (h45).1; have := (h45).2; have : (0 : Int32).toInt = 0 := (by decide); omega
                              exact W227_132 7 0 M123 R124 J125 H locs _ (iv_mono (iv_c (c := 0) (n := 0) (by decide)) (by decide) (by decide)) hm160 hS hl
                            refine lv_if_eq (tgt := 200) hx hb dX12_chair_156 (by decide) (fun c161 => ?_) (fun c161 => ?_)
                            · have q162 : x57.toInt = 0 := ti_eq c161
                              have h163 : iv 0 0 x57 := ⟨by have := (h_x57).1; have := ((iv_c (c := 0) (n := 0) (by decide))).1; omega, by have := (h_x57).2; have := ((iv_c (c := 0) (n := 0) (by decide))).2; omega⟩
                              exact J200_123  M120 R105 J119 H locs _  hS hl
                            · have q164 : ¬ x57.toInt = 0 := ti_ne c161
                              have h165 : iv 1 1 x57 := ⟨by have := (h_x57).1; have := ((iv_c (c := 0) (n := 0) (by decide))).1; have := ((iv_c (c := 0) (n := 0) (by decide))).2; omega, by have := (h_x57).2; have := ((iv_c (c := 0) (n := 0) (by decide))).1; have := ((iv_c (c := 0) (n := 0) (by decide))).2; omega⟩
                              refine lv_iload_n hx hb dX12_chair_159 rfl (lv_at hl 8 rfl) ?_
                              refine lv_if_eq (tgt := 175) hx hb dX12_chair_160 (by decide) (fun c166 => ?_) (fun c166 => ?_)
                              · have q167 : a2.toInt = 0 := ti_eq c166
                                have h168 : iv 0 0 a2 := ⟨by have := (h_a2).1; have := ((iv_c (c := 0) (n := 0) (by decide))).1; omega, by have := (h_a2).2; have := ((iv_c (c := 0) (n := 0) (by decide))).2; omega⟩
                                refine lv_aload_n hx hb dX12_chair_175 rfl (lv_at hl 6 rfl) ?_
                                refine tw_geti hx hb hW hown hK hS f_X12_410_11 hz_a0 hk_a0 (lo := (-2147483648)) (hi := 2147483647) rfl dX12_chair_176 (fun x171 k170 h169 => ?_)
                                refine lv_iload hx hb dX12_chair_179 (lv_at hl 2 rfl) ?_
                                refine lv_icmp_lt (tgt := 200) hx hb dX12_chair_181 (by decide) (fun c172 => ?_) (fun c172 => ?_)
                                · have q173 : x171.toInt < x58.toInt := ti_lt c172
                                  have h174 : iv (-2147483648) 2147483646 x171 := iv_ltL (y := x58) h169 h_x58 q173 (by decide)
                                  have h175 : iv (-2147483647) 2147483647 x58 := iv_gtL (y := x171) h_x58 h169 q173 (by decide)
                                  exact J200_123  M120 R105 J119 H locs _  hS hl
                                · have q176 : x58.toInt ≤ x171.toInt := ti_nlt c172
                                  refine lv_aload_n hx hb dX12_chair_184 rfl (lv_at hl 6 rfl) ?_
                                  refine tw_getk hx hb hW hown hK hS f_X12_410_11 hz_a0 hk_a0 (v := x171) k170 dX12_chair_185 ?_
                                  refine lv_iload hx hb dX12_chair_188 (lv_at hl 2 rfl) ?_
                                  have J204_177 : ∀  (M177 : MT) (R178 : RT) (J179 : JT) (H : Heap) (locs : List Loc) (ls : Array Slot) (hS : SB D cy base Z K N Lt_X12_chair LRt_X12_chair Ma Ra M177 R178 J179 s H locs) (hl : lv_has ls 11 [(9, .int x103), (6, .int x57), (7, .int x58), (8, .int x59), (5, .int x47), (4, .int x5), (0, .ref (base + a0)), (1, .int a1), (2, .int a2), (3, .int a3)]), W p l e (md_rm 6 0 0) s m args below meth c H locs 0 0 Q (F0 m 204 ls []) := by
                                    intro  M177 R178 J179 H locs ls  hS hl
                                    have f180 := hS.2.2.1
                                    have g181 := hS.2.2.2
                                    refine lv_iconst (v := 0) hx hb dX12_chair_204 (by decide) ?_
                                    refine lv_istore (lv' := [(9, .int 0), (6, .int x57), (7, .int x58), (8, .int x59), (5, .int x47), (4, .int x5), (0, .ref (base + a0)), (1, .int a1), (2, .int a2), (3, .int a3)]) hx hb dX12_chair_205 hl (by decide) rfl (fun ls hl => ?_)
                                    refine lv_iload hx hb dX12_chair_207 (lv_at hl 0 rfl) ?_
                                    refine lv_if_ne (tgt := 215) hx hb dX12_chair_209 (by decide) (fun h => absurd h (by decide)) (fun _ => ?_)
                                    refine lv_goto (tgt := 254) hx hb dX12_chair_212 (by decide) ?_
                                    refine tw_iinc (lv' := fun x184 => [(8, .int x184), (9, .int 0), (6, .int x57), (7, .int x58), (5, .int x47), (4, .int x5), (0, .ref (base + a0)), (1, .int a1), (2, .int a2), (3, .int a3)]) (lo := 1) (hi := 2147483647) hx hb dX12_chair_254 hl (k := 3) rfl h81 (by decide) ⟨by decide, by decide⟩ ⟨by decide, by decide⟩ (by decide) (fun _ => rfl) (fun x184 ls e183 h182 hl => ?_)
                                    refine lv_goto (tgt := 80) hx hb dX12_chair_257 (by decide) ?_
                                    have hm185 : 2147483647 - x184.toInt < (n_60 : Int) := by
                                      have := (h19).1; have := (h19).2; have := (h168).1; have := (h168).2; have := (h45).1; have := (h45).2; have := (h182).1; have := (h182).2; have := (h81).1; have := (h81).2; omega
                                    exact ih_60 x57 x58 x184 M177 R178 J179 H locs _ (iv_mono h165 (by decide) (by decide)) h_x58 (iv_mono h182 (by decide) (by decide)) hm185 hS (lv_sub hl [2, 3, 0, 4, 5, 6, 7, 8, 9] rfl)
                                  refine lv_icmp_ne (tgt := 204) hx hb dX12_chair_190 (by decide) (fun c186 => ?_) (fun c186 => ?_)
                                  · have q187 : ¬ x171.toInt = x58.toInt := ti_ne c186
                                    exact J204_177  M120 R105 J119 H locs _  hS hl
                                  · have q188 : x171.toInt = x58.toInt := ti_eq c186
                                    refine lv_aload_n hx hb dX12_chair_193 rfl (lv_at hl 6 rfl) ?_
                                    have k189 : M120 a0 30 = x109 := ((Fr.kp (k := 30) f117 hk_a0 rfl).trans (Fr.kp (k := 30) f115 hk_a0 rfl)).trans k110
                                    refine tw_goi hS (md_runV (As := []) (rest := []) hx hb hml hown hW hK hT hS.1 (t_X12_isAhead l D cy tx base Z K N M120 R105 J119 hS.2.1 a0 hz_a0 hk_a0 x109 k189 (iv_mono h_x109 (by decide) (by decide))) s_X12_475 ⟨rfl, rfl, ⟨Nat.le_of_ble_eq_true rfl, Nat.le_of_ble_eq_true rfl⟩, ⟨Nat.le_of_ble_eq_true rfl, Nat.le_of_ble_eq_true rfl⟩⟩ hz_a0 hk_a0 (by decide) rfl rfl hl.1 rfl (Nat.le_of_ble_eq_true rfl) dX12_chair_194) rfl rfl (fun x196 H locs M193 R194 J192 hS f190 g191 E195 => ?_)
                                    have eM193 := Fr.nil f190 rfl
                                    subst eM193
                                    have eR194 := Fr.nil g191 rfl
                                    subst eR194
                                    have h_x196 := E195
                                    refine lv_if_eq (tgt := 204) hx hb dX12_chair_197 (by decide) (fun c197 => ?_) (fun c197 => ?_)
                                    · have q198 : x196.toInt = 0 := ti_eq c197
                                      have h199 : iv 0 0 x196 := ⟨by have := (h_x196).1; have := ((iv_c (c := 0) (n := 0) (by decide))).1; omega, by have := (h_x196).2; have := ((iv_c (c := 0) (n := 0) (by decide))).2; omega⟩
                                      exact J204_177  M120 R105 J192 H locs _  hS hl
                                    · have q200 : ¬ x196.toInt = 0 := ti_ne c197
                                      have h201 : iv 1 1 x196 := ⟨by have := (h_x196).1; have := ((iv_c (c := 0) (n := 0) (by decide))).1; have := ((iv_c (c := 0) (n := 0) (by decide))).2; omega, by have := (h_x196).2; have := ((iv_c (c := 0) (n := 0) (by decide))).1; have := ((iv_c (c := 0) (n := 0) (by decide))).2; omega⟩
                                      exact J200_123  M120 R105 J192 H locs _  hS hl
                              · have q202 : ¬ a2.toInt = 0 := ti_ne c166
                                refine lv_aload_n hx hb dX12_chair_163 rfl (lv_at hl 6 rfl) ?_
                                refine tw_geti hx hb hW hown hK hS f_X12_410_11 hz_a0 hk_a0 (lo := (-2147483648)) (hi := 2147483647) rfl dX12_chair_164 (fun x205 k204 h203 => ?_)
                                refine lv_iload hx hb dX12_chair_167 (lv_at hl 2 rfl) ?_
                                refine lv_icmp_le (tgt := 184) hx hb dX12_chair_169 (by decide) (fun c206 => ?_) (fun c206 => ?_)
                                · have q207 : x205.toInt ≤ x58.toInt := ti_le c206
                                  refine lv_aload_n hx hb dX12_chair_184 rfl (lv_at hl 6 rfl) ?_
                                  refine tw_getk hx hb hW hown hK hS f_X12_410_11 hz_a0 hk_a0 (v := x205) k204 dX12_chair_185 ?_
                                  refine lv_iload hx hb dX12_chair_188 (lv_at hl 2 rfl) ?_
                                  have J204_208 : ∀  (M208 : MT) (R209 : RT) (J210 : JT) (H : Heap) (locs : List Loc) (ls : Array Slot) (hS : SB D cy base Z K N Lt_X12_chair LRt_X12_chair Ma Ra M208 R209 J210 s H locs) (hl : lv_has ls 11 [(9, .int x103), (6, .int x57), (7, .int x58), (8, .int x59), (5, .int x47), (4, .int x5), (0, .ref (base + a0)), (1, .int a1), (2, .int a2), (3, .int a3)]), W p l e (md_rm 6 0 0) s m args below meth c H locs 0 0 Q (F0 m 204 ls []) := by
                                    intro  M208 R209 J210 H locs ls  hS hl
                                    have f211 := hS.2.2.1
                                    have g212 := hS.2.2.2
                                    refine lv_iconst (v := 0) hx hb dX12_chair_204 (by decide) ?_
                                    refine lv_istore (lv' := [(9, .int 0), (6, .int x57), (7, .int x58), (8, .int x59), (5, .int x47), (4, .int x5), (0, .ref (base + a0)), (1, .int a1), (2, .int a2), (3, .int a3)]) hx hb dX12_chair_205 hl (by decide) rfl (fun ls hl => ?_)
                                    refine lv_iload hx hb dX12_chair_207 (lv_at hl 0 rfl) ?_
                                    refine lv_if_ne (tgt := 215) hx hb dX12_chair_209 (by decide) (fun h => absurd h (by decide)) (fun _ => ?_)
                                    refine lv_goto (tgt := 254) hx hb dX12_chair_212 (by decide) ?_
                                    refine tw_iinc (lv' := fun x215 => [(8, .int x215), (9, .int 0), (6, .int x57), (7, .int x58), (5, .int x47), (4, .int x5), (0, .ref (base + a0)), (1, .int a1), (2, .int a2), (3, .int a3)]) (lo := 1) (hi := 2147483647) hx hb dX12_chair_254 hl (k := 3) rfl h81 (by decide) ⟨by decide, by decide⟩ ⟨by decide, by decide⟩ (by decide) (fun _ => rfl) (fun x215 ls e214 h213 hl => ?_)
                                    refine lv_goto (tgt := 80) hx hb dX12_chair_257 (by decide) ?_
                                    have hm216 : 2147483647 - x215.toInt < (n_60 : Int) := by
                                      have := (h19).1; have := (h19).2; have := (h_a2).1; have := (h_a2).2; have := (h45).1; have := (h45).2; have := (h213).1; have := (h213).2; have := (h81).1; have := (h81).2; omega
                                    exact ih_60 x57 x58 x215 M208 R209 J210 H locs _ (iv_mono h165 (by decide) (by decide)) h_x58 (iv_mono h213 (by decide) (by decide)) hm216 hS (lv_sub hl [2, 3, 0, 4, 5, 6, 7, 8, 9] rfl)
                                  refine lv_icmp_ne (tgt := 204) hx hb dX12_chair_190 (by decide) (fun c217 => ?_) (fun c217 => ?_)
                                  · have q218 : ¬ x205.toInt = x58.toInt := ti_ne c217
                                    exact J204_208  M120 R105 J119 H locs _  hS hl
                                  · have q219 : x205.toInt = x58.toInt := ti_eq c217
                                    refine lv_aload_n hx hb dX12_chair_193 rfl (lv_at hl 6 rfl) ?_
                                    have k220 : M120 a0 30 = x109 := ((Fr.kp (k := 30) f117 hk_a0 rfl).trans (Fr.kp (k := 30) f115 hk_a0 rfl)).trans k110
                                    refine tw_goi hS (md_runV (As := []) (rest := []) hx hb hml hown hW hK hT hS.1 (t_X12_isAhead l D cy tx base Z K N M120 R105 J119 hS.2.1 a0 hz_a0 hk_a0 x109 k220 (iv_mono h_x109 (by decide) (by decide))) s_X12_475 ⟨rfl, rfl, ⟨Nat.le_of_ble_eq_true rfl, Nat.le_of_ble_eq_true rfl⟩, ⟨Nat.le_of_ble_eq_true rfl, Nat.le_of_ble_eq_true rfl⟩⟩ hz_a0 hk_a0 (by decide) rfl rfl hl.1 rfl (Nat.le_of_ble_eq_true rfl) dX12_chair_194) rfl rfl (fun x227 H locs M224 R225 J223 hS f221 g222 E226 => ?_)
                                    have eM224 := Fr.nil f221 rfl
                                    subst eM224
                                    have eR225 := Fr.nil g222 rfl
                                    subst eR225
                                    have h_x227 := E226
                                    refine lv_if_eq (tgt := 204) hx hb dX12_chair_197 (by decide) (fun c228 => ?_) (fun c228 => ?_)
                                    · have q229 : x227.toInt = 0 := ti_eq c228
                                      have h230 : iv 0 0 x227 := ⟨by have := (h_x227).1; have := ((iv_c (c := 0) (n := 0) (by decide))).1; omega, by have := (h_x227).2; have := ((iv_c (c := 0) (n := 0) (by decide))).2; omega⟩
                                      exact J204_208  M120 R105 J223 H locs _  hS hl
                                    · have q231 : ¬ x227.toInt = 0 := ti_ne c228
                                      have h232 : iv 1 1 x227 := ⟨by have := (h_x227).1; have := ((iv_c (c := 0) (n := 0) (by decide))).1; have := ((iv_c (c := 0) (n := 0) (by decide))).2; omega, by have := (h_x227).2; have := ((iv_c (c := 0) (n := 0) (by decide))).1; have := ((iv_c (c := 0) (n := 0) (by decide))).2; omega⟩
                                      exact J200_123  M120 R105 J223 H locs _  hS hl
                                · have q233 : x58.toInt < x205.toInt := ti_nle c206
                                  have h234 : iv (-2147483647) 2147483647 x205 := iv_gtL (y := x58) h203 h_x58 q233 (by decide)
                                  have h235 : iv (-2147483648) 2147483646 x58 := iv_ltL (y := x205) h_x58 h203 q233 (by decide)
                                  refine lv_goto (tgt := 200) hx hb dX12_chair_172 (by decide) ?_
                                  exact J200_123  M120 R105 J119 H locs _  hS hl
                          · have q236 : x103.toInt < x5.toInt := ti_nle c111
                            have h237 : iv 0 5 x103 := iv_ltL (y := x5) h_x103 h33 q236 (by decide)
                            refine lv_aload_n hx hb dX12_chair_115 rfl (lv_at hl 6 rfl) ?_
                            refine tw_getr hx hb hW hown hK hS f_X12_54_11 hz_a0 hk_a0 (t := 31) (n := 8) rfl dX12_chair_116 (fun b238 k239 hz_b238 hk_b238 hn_b238 => ?_)
                            have hn_b238 := hn_b238 (by decide)
                            refine lv_iload hx hb dX12_chair_119 (lv_at hl 0 rfl) ?_
                            refine lv_aload_n hx hb dX12_chair_121 rfl (lv_at hl 6 rfl) ?_
                            have k240 : R105 a0 25 = some b1 := (Fr.kp (k := 25) g108 hk_a0 rfl).trans k2
                            refine tw_getrk hx hb hW hown hK hS f_X12_45_11 hz_a0 hk_a0 (b := b1) k240 dX12_chair_122 ?_
                            refine lv_sipush (v := 170) hx hb dX12_chair_125 (by decide) ?_
                            refine lv_aload_n hx hb dX12_chair_128 rfl (lv_at hl 6 rfl) ?_
                            refine tw_getr hx hb hW hown hK hS f_X12_90_11 hz_a0 hk_a0 (t := 33) (n := 6) rfl dX12_chair_129 (fun b241 k242 hz_b241 hk_b241 hn_b241 => ?_)
                            have hn_b241 := hn_b241 (by decide)
                            refine lv_iload hx hb dX12_chair_132 (lv_at hl 0 rfl) ?_
                            refine tw_iald hx hb hK hS hz_b241 hk_b241 (Or.inr (by decide)) hn_b241 (lo := 0) (hi := 5) h237 ⟨by decide, by decide⟩ rg_u33 dX12_chair_134 (fun x245 k244 h243 => ?_)
                            refine tw_iadd (lo := 170) (hi := 175) hx hb (iv_c (c := 170) (n := 170) (by decide)) h243 ⟨by decide, by decide⟩ ⟨by decide, by decide⟩ dX12_chair_135 (fun x248 e247 h246 => ?_)
                            have e247 : x248.toInt = 170 + x245.toInt := e247
                            refine tw_iald hx hb hK hS hz_b1 hk_b1 (Or.inr (by decide)) hn_b1 (lo := 0) (hi := 11) h246 ⟨by decide, by decide⟩ (rg_so ⟨by decide, by decide⟩) dX12_chair_136 (fun x251 k250 h249 => ?_)
                            refine tw_iast hx hb hK hS hz_b238 hk_b238 (Or.inr (by decide)) hn_b238 h237 ⟨by decide, by decide⟩ h249 (rg_s31 ⟨by decide, by decide⟩) (jl := 0) (jh := 1999999) ⟨by decide, by decide⟩ rfl dX12_chair_137 (fun H locs M254 hS k252 f253 => ?_)
                            refine tw_iinc (lv' := fun x257 => [(9, .int x257), (6, .int x57), (7, .int x58), (8, .int x59), (5, .int x47), (4, .int x5), (0, .ref (base + a0)), (1, .int a1), (2, .int a2), (3, .int a3)]) (lo := 1) (hi := 6) hx hb dX12_chair_138 hl (k := 0) rfl h237 (by decide) ⟨by decide, by decide⟩ ⟨by decide, by decide⟩ (by decide) (fun _ => rfl) (fun x257 ls e256 h255 hl => ?_)
                            refine lv_goto (tgt := 108) hx hb dX12_chair_141 (by decide) ?_
                            have k258 : M254 a0 30 = x109 := (Fr.kp (k := 30) f253 hk_a0 rfl).trans k110
                            have hm259 : 6 - x257.toInt < (n_104 : Int) := by
                              have := (h19).1; have := (h19).2; have := (h_a2).1; have := (h_a2).2; have := (h45).1; have := (h45).2; have := (h237).1; have := (h237).2; have := (h255).1; have := (h255).2; omega
                            exact ih_104 x257 x109 M254 R105 J106 H locs _ (iv_mono h255 (by decide) (by decide)) h_x109 k258 hm259 hS hl
                      have hm260 : 6 - (0 : Int32).toInt < (((7 : Nat) : Int) : Int) := by
                        have := (h19).1; have := (h19).2; have := (h_a2).1; have := (h_a2).2; have := (h45).1; have := (h45).2; have : (0 : Int32).toInt = 0 := (by decide); omega
                      exact W108_104 7 0 x5 M98 R61 J97 H locs _ (iv_mono (iv_c (c := 0) (n := 0) (by decide)) (by decide) (by decide)) h33 k102 hm260 hS hl
                    · have q261 : x89.toInt = 0 := ti_eq c90
                      have h262 : iv 0 0 x89 := ⟨by have := (h_x89).1; have := ((iv_c (c := 0) (n := 0) (by decide))).1; omega, by have := (h_x89).2; have := ((iv_c (c := 0) (n := 0) (by decide))).2; omega⟩
                      refine lv_goto (tgt := 254) hx hb dX12_chair_98 (by decide) ?_
                      refine tw_iinc (lv' := fun x265 => [(8, .int x265), (6, .int x57), (7, .int x58), (5, .int x47), (4, .int x5), (0, .ref (base + a0)), (1, .int a1), (2, .int a2), (3, .int a3)]) (lo := 1) (hi := 2147483647) hx hb dX12_chair_254 hl (k := 2) rfl h81 (by decide) ⟨by decide, by decide⟩ ⟨by decide, by decide⟩ (by decide) (fun _ => rfl) (fun x265 ls e264 h263 hl => ?_)
                      refine lv_goto (tgt := 80) hx hb dX12_chair_257 (by decide) ?_
                      have hm266 : 2147483647 - x265.toInt < (n_60 : Int) := by
                        have := (h19).1; have := (h19).2; have := (h_a2).1; have := (h_a2).2; have := (h45).1; have := (h45).2; have := (h263).1; have := (h263).2; have := (h81).1; have := (h81).2; omega
                      exact ih_60 x57 x58 x265 M86 R61 J85 H locs _ h_x57 h_x58 (iv_mono h263 (by decide) (by decide)) hm266 hS (lv_sub hl [1, 2, 0, 3, 4, 5, 6, 7, 8] rfl)
              have hm267 : 2147483647 - (0 : Int32).toInt < (((2147483648 : Nat) : Int) : Int) := by
                have := (h19).1; have := (h19).2; have := (h_a2).1; have := (h_a2).2; have := (h45).1; have := (h45).2; have : (0 : Int32).toInt = 0 := (by decide); omega
              exact W80_60 2147483648 0 0 0 M49 R50 J51 H locs _ (iv_mono (iv_c (c := 0) (n := 0) (by decide)) (by decide) (by decide)) (iv_mono (iv_c (c := 0) (n := 0) (by decide)) (by decide) (by decide)) (iv_mono (iv_c (c := 0) (n := 0) (by decide)) (by decide) (by decide)) hm267 hS (lv_sub hl [2, 1, 0, 3, 4, 5, 6, 7, 8] rfl)
            · have q268 : x48.toInt < x5.toInt := ti_nle c54
              have h269 : iv 0 5 x48 := iv_ltL (y := x5) h_x48 h33 q268 (by decide)
              refine lv_iload hx hb dX12_chair_58 (lv_at hl 0 rfl) ?_
              refine lv_iload hx hb dX12_chair_60 (lv_at hl 2 rfl) ?_
              refine lv_imul hx hb dX12_chair_62 ?_
              refine tw_top (fun x271 => ?_)
              have h270 := iv_any x271
              refine lv_istore (lv' := [(5, .int x271), (6, .int x48), (4, .int x5), (0, .ref (base + a0)), (1, .int a1), (2, .int a2), (3, .int a3)]) hx hb dX12_chair_63 hl (by decide) rfl (fun ls hl => ?_)
              refine tw_iinc (lv' := fun x274 => [(6, .int x274), (5, .int x271), (4, .int x5), (0, .ref (base + a0)), (1, .int a1), (2, .int a2), (3, .int a3)]) (lo := 1) (hi := 6) hx hb dX12_chair_65 hl (k := 1) rfl h269 (by decide) ⟨by decide, by decide⟩ ⟨by decide, by decide⟩ (by decide) (fun _ => rfl) (fun x274 ls e273 h272 hl => ?_)
              refine lv_goto (tgt := 51) hx hb dX12_chair_68 (by decide) ?_
              have hm275 : 6 - x274.toInt < (n_49 : Int) := by
                have := (h19).1; have := (h19).2; have := (h_a2).1; have := (h_a2).2; have := (h45).1; have := (h45).2; have := (h272).1; have := (h272).2; have := (h269).1; have := (h269).2; omega
              exact ih_49 x271 x274 M49 R50 J51 H locs _ h270 (iv_mono h272 (by decide) (by decide)) hm275 hS (lv_sub hl [1, 0, 2, 3, 4, 5, 6] rfl)
        have hm276 : 6 - (0 : Int32).toInt < (((7 : Nat) : Int) : Int) := by
          have := (h19).1; have := (h19).2; have := (h_a2).1; have := (h_a2).2; have := (h45).1; have := (h45).2; have : (0 : Int32).toInt = 0 := (by decide); omega
        exact W51_49 7 1 0 Ma Ra J36 H locs _ (iv_mono (iv_c (c := 1) (n := 1) (by decide)) (by decide) (by decide)) (iv_mono (iv_c (c := 0) (n := 0) (by decide)) (by decide) (by decide)) hm276 hS (lv_sub hl [1, 0, 2, 3, 4, 5, 6] rfl)
      · have q277 : x40.toInt = 0 := ti_eq c42
        have h278 : iv 0 0 x40 := ⟨by have := (h_x40).1; have := ((iv_c (c := 0) (n := 0) (by decide))).1; omega, by have := (h_x40).2; have := ((iv_c (c := 0) (n := 0) (by decide))).2; omega⟩
        refine lv_ldcw hx hb hown (hW _ w_8_46 rfl) dX12_chair_41 ?_
        exact tw_endi hx hb hr hlocks hK hT hS hQ ((iv_mono (iv_c (c := (-1000000)) (n := (-1000000)) (by decide)) (by decide) (by decide))) dX12_chair_44
def Lt_X12_isInside : WL := []
def LRt_X12_isInside : WL := []
set_option maxRecDepth 100000 in
set_option maxHeartbeats 4000000 in
theorem t_X12_isInside (l : Launch) (D : va_G) (cy : Nat → ClassId) (tx : (Nat → Nat) × (Nat → Nat)) (base Z : Nat) (K N : Nat → Nat) (Ma : MT) (Ra : RT) (Ja : JT) (hTy : Ty Z K N Ma Ra) (a0 : Nat) (hz_a0 : a0 < Z) (hk_a0 : K a0 = 12) (op : Nat) (k_op : Ra a0 20 = some op) (on : Int32) (k_on : Ma a0 21 = on) (h_on : iv 0 400 on) : Met l yX12_isInside [Cond.code yX12_isInside cX12_isInside 2 (some .boolean)] (md_rm 1 0 0) (va_Pc [.ref (base + a0)] (md_U D cy tx base Z K N Ma Ra Ja)) (mQi D cy tx base (fun r u => TP Z K N Lt_X12_isInside LRt_X12_isInside Ma Ra u ∧ (iv 0 1 r ∧ ((r = 0 → ∀ j, j < on.toNatClampNeg → ¬ Ma op j = 91) ∧ (¬ r = 0 → ∃ j, j < on.toNatClampNeg ∧ Ma op j = 91))))) 0 0 (fun q => base ≤ q) := by
  refine tw_ofW (L := Lt_X12_isInside) (LR := LRt_X12_isInside) (by decide) (Nat.le_of_ble_eq_true rfl) hTy ?_
  intro p e s m args below meth c Q ls hx hb hr hlocks hown hml hW hK hT hS hQ hl
  have hl : lv_has ls 2 [(0, .ref (base + a0))] := hl
  obtain ⟨hz_op, hk_op, hn_op⟩ := hTy.refn hz_a0 hk_a0 (show rtR 12 20 = (14, 400, 0) from rfl) k_op
  have hn_op := hn_op (by decide)
  refine lv_iconst (v := 0) hx hb dX12_isInside_0 (by decide) ?_
  refine lv_istore_n (lv' := [(1, .int 0), (0, .ref (base + a0))]) hx hb dX12_isInside_1 rfl hl (by decide) rfl (fun ls hl => ?_)
  have W2_2 : ∀ (n_2 : Nat) (x1 : Int32) (M2 : MT) (R3 : RT) (J4 : JT) (H : Heap) (locs : List Loc) (ls : Array Slot) (h_x1 : iv 0 400 x1) (w0_2 : ∀ j, j < x1.toNatClampNeg → ¬ Ma op j = 91) (hm_2 : 400 - x1.toInt < (n_2 : Int)) (hS : SB D cy base Z K N Lt_X12_isInside LRt_X12_isInside Ma Ra M2 R3 J4 s H locs) (hl : lv_has ls 2 [(1, .int x1), (0, .ref (base + a0))]), W p l e (md_rm 1 0 0) s m args below meth c H locs 0 0 Q (F0 m 2 ls []) := by
    intro n_2
    induction n_2 with
    | zero =>
      intro x1 M2 R3 J4 H locs ls h_x1 w0_2 hm_2 hS hl
      exfalso
      have := (h_on).1; have := (h_on).2; have := (h_x1).1; have := (h_x1).2; omega
    | succ n_2 ih_2 =>
      intro x1 M2 R3 J4 H locs ls h_x1 w0_2 hm_2 hS hl
      have f5 := hS.2.2.1
      have g6 := hS.2.2.2
      refine lv_iload_n hx hb dX12_isInside_2 rfl (lv_at hl 0 rfl) ?_
      refine lv_aload_n hx hb dX12_isInside_3 rfl (lv_at hl 1 rfl) ?_
      have k7 : M2 a0 21 = on := (Fr.kp (k := 21) f5 hk_a0 rfl).trans k_on
      refine tw_getk hx hb hW hown hK hS f_X12_188_11 hz_a0 hk_a0 (v := on) k7 dX12_isInside_4 ?_
      refine lv_icmp_ge (tgt := 29) hx hb dX12_isInside_7 (by decide) (fun c8 => ?_) (fun c8 => ?_)
      · have q9 : on.toInt ≤ x1.toInt := ti_le c8
        refine lv_iconst (v := 0) hx hb dX12_isInside_29 (by decide) ?_
        have zi9 := ti_cl (x := x1) (by have := (h_x1).1; omega); have zn9 := ti_cl (x := on) (by have := h_on.1; omega)
        exact tw_endz hx hb hr hlocks hK hT hS hQ rfl (⟨(iv_mono (iv_c (c := 0) (n := 0) (by decide)) (by decide) (by decide)), ⟨fun _ j hj => w0_2 j (by omega), fun h => absurd rfl h⟩⟩) dX12_isInside_30
      · have q10 : x1.toInt < on.toInt := ti_nle c8
        have h11 : iv 0 399 x1 := iv_ltL (y := on) h_x1 h_on q10 (by decide)
        have h12 : iv 1 400 on := iv_gtL (y := x1) h_on h_x1 q10 (by decide)
        refine lv_aload_n hx hb dX12_isInside_10 rfl (lv_at hl 1 rfl) ?_
        have k13 : R3 a0 20 = some op := (Fr.kp (k := 20) g6 hk_a0 rfl).trans k_op
        refine tw_getrk hx hb hW hown hK hS f_X12_35_11 hz_a0 hk_a0 (b := op) k13 dX12_isInside_11 ?_
        refine lv_iload_n hx hb dX12_isInside_14 rfl (lv_at hl 0 rfl) ?_
        refine tw_iald hx hb hK hS hz_op hk_op (Or.inl rfl) hn_op (lo := (-2147483648)) (hi := 2147483647) h11 ⟨by decide, by decide⟩ rg_u14 dX12_isInside_15 (fun x16 k15 h14 => ?_)
        refine lv_bipush (v := 91) hx hb dX12_isInside_16 (by decide) ?_
        refine lv_icmp_ne (tgt := 23) hx hb dX12_isInside_18 (by decide) (fun c17 => ?_) (fun c17 => ?_)
        · have q18 : ¬ x16.toInt = 91 := ti_ne c17
          refine tw_iinc (lv' := fun x21 => [(1, .int x21), (0, .ref (base + a0))]) (lo := 1) (hi := 400) hx hb dX12_isInside_23 hl (k := 0) rfl h11 (by decide) ⟨by decide, by decide⟩ ⟨by decide, by decide⟩ (by decide) (fun _ => rfl) (fun x21 ls e20 h19 hl => ?_)
          refine lv_goto (tgt := 2) hx hb dX12_isInside_26 (by decide) ?_
          have zi22 := ti_cl (x := x21) (by have := (h19).1; omega); have zj22 := ti_cl (x := x1) (by have := (h11).1; omega)
          have w22 : ∀ j, j < x21.toNatClampNeg → ¬ Ma op j = 91 := fun j hj => by by_cases e : j = x1.toNatClampNeg; · rw [e, (Fr.kpa f5 hk_op rfl _).symm.trans k15]; exact c17; · exact w0_2 j (by omega)
          have hm23 : 400 - x21.toInt < (n_2 : Int) := by
            have := (h12).1; have := (h12).2; have := (h11).1; have := (h11).2; have := (h19).1; have := (h19).2; omega
          exact ih_2 x21 M2 R3 J4 H locs _ (iv_mono h19 (by decide) (by decide)) w22 hm23 hS hl
        · have q24 : x16.toInt = 91 := ti_eq c17
          have h25 : iv 91 91 x16 := ⟨by have := (h14).1; have := ((iv_c (c := 91) (n := 91) (by decide))).1; omega, by have := (h14).2; have := ((iv_c (c := 91) (n := 91) (by decide))).2; omega⟩
          refine lv_iconst (v := 1) hx hb dX12_isInside_21 (by decide) ?_
          have zi25 := ti_cl (x := x1) (by have := (h11).1; omega); have zn25 := ti_cl (x := on) (by have := h_on.1; omega)
          exact tw_endz hx hb hr hlocks hK hT hS hQ rfl (⟨(iv_mono (iv_c (c := 1) (n := 1) (by decide)) (by decide) (by decide)), ⟨fun h => absurd h (by decide), fun _ => ⟨x1.toNatClampNeg, by omega, ((Fr.kpa f5 hk_op rfl _).symm.trans k15).trans c17⟩⟩⟩) dX12_isInside_22
  have w26 : ∀ j, j < (0 : Int32).toNatClampNeg → ¬ Ma op j = 91 := fun j hj => absurd hj (by have : (0 : Int32).toNatClampNeg = 0 := (by decide); omega)
  have hm27 : 400 - (0 : Int32).toInt < (((401 : Nat) : Int) : Int) := by
    have := (h_on).1; have := (h_on).2; have : (0 : Int32).toInt = 0 := (by decide); omega
  exact W2_2 401 0 Ma Ra Ja s.heap [] _ (iv_mono (iv_c (c := 0) (n := 0) (by decide)) (by decide) (by decide)) w26 hm27 hS hl
def Lt_X12_see : WL := [(12, 13, 14)]
def LRt_X12_see : WL := []
set_option maxRecDepth 100000 in
set_option maxHeartbeats 4000000 in
theorem t_X12_see (l : Launch) (D : va_G) (cy : Nat → ClassId) (tx : (Nat → Nat) × (Nat → Nat)) (base Z : Nat) (K N : Nat → Nat) (Ma : MT) (Ra : RT) (Ja : JT) (hTy : Ty Z K N Ma Ra) (a0 : Nat) (hz_a0 : a0 < Z) (hk_a0 : K a0 = 12) (tb : Nat) (k_tb : Ra a0 0 = some tb) (nx : Int32) (k_nx : Ma a0 13 = nx) (h_nx : iv 0 400 nx) (tp : Int32) (k_tp : Ma a0 1 = tp) (h_tp : iv 0 400 tp) (hnt : nx.toInt ≤ tp.toInt) : Met l yX12_see [Cond.code yX12_see cX12_see 1 (some .int)] (md_rm 1 0 0) (va_Pc [.ref (base + a0)] (md_U D cy tx base Z K N Ma Ra Ja)) (mQi D cy tx base (fun r u => TP Z K N Lt_X12_see LRt_X12_see Ma Ra u ∧ (iv (-1) 255 r ∧ (∃ x0 : Int32, u.2.2.2.1 a0 13 = x0 ∧ iv 0 400 x0 ∧ (nx.toInt ≤ x0.toInt ∧ x0.toInt ≤ tp.toInt ∧ (r.toInt = -1 ∨ x0.toInt < tp.toInt)) ∧ (∀ lo hi : Int, 33 ≤ lo → chF lo hi Ma tb nx tp → x0.toInt = nx.toInt))))) 0 0 (fun q => base ≤ q) := by
  refine tw_ofW (L := Lt_X12_see) (LR := LRt_X12_see) (by decide) (Nat.le_of_ble_eq_true rfl) hTy ?_
  intro p e s m args below meth c Q ls hx hb hr hlocks hown hml hW hK hT hS hQ hl
  have hl : lv_has ls 1 [(0, .ref (base + a0))] := hl
  obtain ⟨hz_tb, hk_tb, hn_tb⟩ := hTy.refn hz_a0 hk_a0 (show rtR 12 0 = (13, 400, 0) from rfl) k_tb
  have hn_tb := hn_tb (by decide)
  have W0_1 : ∀ (n_1 : Nat) (x6 : Int32) (M1 : MT) (R2 : RT) (J3 : JT) (H : Heap) (locs : List Loc) (ls : Array Slot) (h_x6 : iv 0 400 x6) (k7 : M1 a0 13 = x6) (w0_1 : nx.toInt ≤ x6.toInt ∧ x6.toInt ≤ tp.toInt) (w1_1 : (∀ lo hi : Int, 33 ≤ lo → chF lo hi Ma tb nx tp → x6.toInt = nx.toInt)) (hm_1 : 400 - x6.toInt < (n_1 : Int)) (hS : SB D cy base Z K N Lt_X12_see LRt_X12_see Ma Ra M1 R2 J3 s H locs) (hl : lv_has ls 1 [(0, .ref (base + a0))]), W p l e (md_rm 1 0 0) s m args below meth c H locs 0 0 Q (F0 m 0 ls []) := by
    intro n_1
    induction n_1 with
    | zero =>
      intro x6 M1 R2 J3 H locs ls h_x6 k7 w0_1 w1_1 hm_1 hS hl
      exfalso
      have := (h_nx).1; have := (h_nx).2; have := (h_tp).1; have := (h_tp).2; have := (h_x6).1; have := (h_x6).2; omega
    | succ n_1 ih_1 =>
      intro x6 M1 R2 J3 H locs ls h_x6 k7 w0_1 w1_1 hm_1 hS hl
      have f4 := hS.2.2.1
      have g5 := hS.2.2.2
      refine lv_aload_n hx hb dX12_see_0 rfl (lv_at hl 0 rfl) ?_
      refine tw_getk hx hb hW hown hK hS f_X12_127_11 hz_a0 hk_a0 (v := x6) k7 dX12_see_1 ?_
      refine lv_aload_n hx hb dX12_see_4 rfl (lv_at hl 0 rfl) ?_
      have k8 : M1 a0 1 = tp := (Fr.kp (k := 1) f4 hk_a0 rfl).trans k_tp
      refine tw_getk hx hb hW hown hK hS f_X12_116_11 hz_a0 hk_a0 (v := tp) k8 dX12_see_5 ?_
      refine lv_icmp_ge (tgt := 38) hx hb dX12_see_8 (by decide) (fun c9 => ?_) (fun c9 => ?_)
      · have q10 : tp.toInt ≤ x6.toInt := ti_le c9
        refine lv_aload_n hx hb dX12_see_38 rfl (lv_at hl 0 rfl) ?_
        refine tw_getk hx hb hW hown hK hS f_X12_127_11 hz_a0 hk_a0 (v := x6) k7 dX12_see_39 ?_
        refine lv_aload_n hx hb dX12_see_42 rfl (lv_at hl 0 rfl) ?_
        have k11 : M1 a0 1 = tp := (Fr.kp (k := 1) f4 hk_a0 rfl).trans k_tp
        refine tw_getk hx hb hW hown hK hS f_X12_116_11 hz_a0 hk_a0 (v := tp) k11 dX12_see_43 ?_
        refine lv_icmp_ge (tgt := 65) hx hb dX12_see_46 (by decide) (fun c12 => ?_) (fun c12 => ?_)
        · have q13 : tp.toInt ≤ x6.toInt := ti_le c12
          refine lv_iconst (v := (-1)) hx hb dX12_see_65 (by decide) ?_
          have q14 : nx.toInt ≤ x6.toInt ∧ x6.toInt ≤ tp.toInt ∧ ((-1 : Int32).toInt = -1 ∨ x6.toInt < tp.toInt) := by
            have := (h_nx).1; have := (h_nx).2; have := (h_tp).1; have := (h_tp).2; have := (h_x6).1; have := (h_x6).2; have : (-1 : Int32).toInt = -1 := (by decide); omega
          exact tw_endi hx hb hr hlocks hK hT hS hQ (⟨(iv_mono (iv_c (c := (-1)) (n := (-1)) (by decide)) (by decide) (by decide)), ⟨x6, k7, h_x6, q14, w1_1⟩⟩) dX12_see_66
        · have q15 : x6.toInt < tp.toInt := ti_nle c12
          have h16 : iv 0 399 x6 := iv_ltL (y := tp) h_x6 h_tp q15 (by decide)
          have h17 : iv 1 400 tp := iv_gtL (y := x6) h_tp h_x6 q15 (by decide)
          refine lv_aload_n hx hb dX12_see_49 rfl (lv_at hl 0 rfl) ?_
          have k18 : R2 a0 0 = some tb := (Fr.kp (k := 0) g5 hk_a0 rfl).trans k_tb
          refine tw_getrk hx hb hW hown hK hS f_X12_7_11 hz_a0 hk_a0 (b := tb) k18 dX12_see_50 ?_
          refine lv_aload_n hx hb dX12_see_53 rfl (lv_at hl 0 rfl) ?_
          refine tw_getk hx hb hW hown hK hS f_X12_127_11 hz_a0 hk_a0 (v := x6) k7 dX12_see_54 ?_
          refine tw_bald hx hb hK hS hz_tb hk_tb hn_tb h16 ⟨by decide, by decide⟩ dX12_see_57 (fun x21 k20 => ?_)
          have h19 := iv_any x21
          refine lv_sipush (v := 255) hx hb dX12_see_58 (by decide) ?_
          refine tw_iand (hi := 255) hx hb (iv_mono (iv_c (c := 255) (n := 255) (by decide)) (lo := 0) (hi := 255) (by decide) (by decide)) (by decide) dX12_see_61 (fun x24 h22 => ?_)
          refine lv_goto (tgt := 66) hx hb dX12_see_62 (by decide) ?_
          have q25 : nx.toInt ≤ x6.toInt ∧ x6.toInt ≤ tp.toInt ∧ (x24.toInt = -1 ∨ x6.toInt < tp.toInt) := by
            have := (h_nx).1; have := (h_nx).2; have := (h17).1; have := (h17).2; have := (h19).1; have := (h19).2; have := (h22).1; have := (h22).2; have := (h16).1; have := (h16).2; omega
          exact tw_endi hx hb hr hlocks hK hT hS hQ (⟨(iv_mono h22 (by decide) (by decide)), ⟨x6, k7, (iv_mono h16 (by decide) (by decide)), q25, w1_1⟩⟩) dX12_see_66
      · have q26 : x6.toInt < tp.toInt := ti_nle c9
        have h27 : iv 0 399 x6 := iv_ltL (y := tp) h_x6 h_tp q26 (by decide)
        have h28 : iv 1 400 tp := iv_gtL (y := x6) h_tp h_x6 q26 (by decide)
        refine lv_aload_n hx hb dX12_see_11 rfl (lv_at hl 0 rfl) ?_
        have k29 : R2 a0 0 = some tb := (Fr.kp (k := 0) g5 hk_a0 rfl).trans k_tb
        refine tw_getrk hx hb hW hown hK hS f_X12_7_11 hz_a0 hk_a0 (b := tb) k29 dX12_see_12 ?_
        refine lv_aload_n hx hb dX12_see_15 rfl (lv_at hl 0 rfl) ?_
        refine tw_getk hx hb hW hown hK hS f_X12_127_11 hz_a0 hk_a0 (v := x6) k7 dX12_see_16 ?_
        refine tw_bald hx hb hK hS hz_tb hk_tb hn_tb h27 ⟨by decide, by decide⟩ dX12_see_19 (fun x32 k31 => ?_)
        have h30 := iv_any x32
        refine lv_bipush (v := 32) hx hb dX12_see_20 (by decide) ?_
        refine lv_icmp_ne (tgt := 38) hx hb dX12_see_22 (by decide) (fun c33 => ?_) (fun c33 => ?_)
        · have q34 : ¬ x32.toInt = 32 := ti_ne c33
          refine lv_aload_n hx hb dX12_see_38 rfl (lv_at hl 0 rfl) ?_
          refine tw_getk hx hb hW hown hK hS f_X12_127_11 hz_a0 hk_a0 (v := x6) k7 dX12_see_39 ?_
          refine lv_aload_n hx hb dX12_see_42 rfl (lv_at hl 0 rfl) ?_
          have k35 : M1 a0 1 = tp := (Fr.kp (k := 1) f4 hk_a0 rfl).trans k_tp
          refine tw_getk hx hb hW hown hK hS f_X12_116_11 hz_a0 hk_a0 (v := tp) k35 dX12_see_43 ?_
          refine lv_icmp_ge (tgt := 65) hx hb dX12_see_46 (by decide) (fun c36 => ?_) (fun c36 => ?_)
          · have q37 : tp.toInt ≤ x6.toInt := ti_le c36
            have h38 : iv 1 399 x6 := iv_geL (y := tp) h27 h28 q37 (by decide)
            have h39 : iv 1 399 tp := iv_leL (y := x6) h28 h27 q37 (by decide)
            refine lv_iconst (v := (-1)) hx hb dX12_see_65 (by decide) ?_
            have q40 : nx.toInt ≤ x6.toInt ∧ x6.toInt ≤ tp.toInt ∧ ((-1 : Int32).toInt = -1 ∨ x6.toInt < tp.toInt) := by
              have := (h_nx).1; have := (h_nx).2; have := (h39).1; have := (h39).2; have := (h38).1; have := (h38).2; have : (-1 : Int32).toInt = -1 := (by decide); omega
            exact tw_endi hx hb hr hlocks hK hT hS hQ (⟨(iv_mono (iv_c (c := (-1)) (n := (-1)) (by decide)) (by decide) (by decide)), ⟨x6, k7, (iv_mono h38 (by decide) (by decide)), q40, w1_1⟩⟩) dX12_see_66
          · have q41 : x6.toInt < tp.toInt := ti_nle c36
            refine lv_aload_n hx hb dX12_see_49 rfl (lv_at hl 0 rfl) ?_
            have k42 : R2 a0 0 = some tb := (Fr.kp (k := 0) g5 hk_a0 rfl).trans k_tb
            refine tw_getrk hx hb hW hown hK hS f_X12_7_11 hz_a0 hk_a0 (b := tb) k42 dX12_see_50 ?_
            refine lv_aload_n hx hb dX12_see_53 rfl (lv_at hl 0 rfl) ?_
            refine tw_getk hx hb hW hown hK hS f_X12_127_11 hz_a0 hk_a0 (v := x6) k7 dX12_see_54 ?_
            refine tw_balk hx hb hK hS hz_tb hk_tb hn_tb h27 ⟨by decide, by decide⟩ (v := x32) k31 dX12_see_57 ?_
            refine lv_sipush (v := 255) hx hb dX12_see_58 (by decide) ?_
            refine tw_iand (hi := 255) hx hb (iv_mono (iv_c (c := 255) (n := 255) (by decide)) (lo := 0) (hi := 255) (by decide) (by decide)) (by decide) dX12_see_61 (fun x45 h43 => ?_)
            refine lv_goto (tgt := 66) hx hb dX12_see_62 (by decide) ?_
            have q46 : nx.toInt ≤ x6.toInt ∧ x6.toInt ≤ tp.toInt ∧ (x45.toInt = -1 ∨ x6.toInt < tp.toInt) := by
              have := (h_nx).1; have := (h_nx).2; have := (h28).1; have := (h28).2; have := (h30).1; have := (h30).2; have := (h43).1; have := (h43).2; have := (h27).1; have := (h27).2; omega
            exact tw_endi hx hb hr hlocks hK hT hS hQ (⟨(iv_mono h43 (by decide) (by decide)), ⟨x6, k7, (iv_mono h27 (by decide) (by decide)), q46, w1_1⟩⟩) dX12_see_66
        · have q47 : x32.toInt = 32 := ti_eq c33
          have h48 : iv 32 32 x32 := ⟨by have := (h30).1; have := ((iv_c (c := 32) (n := 32) (by decide))).1; omega, by have := (h30).2; have := ((iv_c (c := 32) (n := 32) (by decide))).2; omega⟩
          refine lv_aload_n hx hb dX12_see_25 rfl (lv_at hl 0 rfl) ?_
          refine lv_dup hx hb dX12_see_26 rfl ?_
          refine tw_getk hx hb hW hown hK hS f_X12_127_11 hz_a0 hk_a0 (v := x6) k7 dX12_see_27 ?_
          refine lv_iconst (v := 1) hx hb dX12_see_30 (by decide) ?_
          refine tw_iadd (lo := 1) (hi := 400) hx hb h27 (iv_c (c := 1) (n := 1) (by decide)) ⟨by decide, by decide⟩ ⟨by decide, by decide⟩ dX12_see_31 (fun x51 e50 h49 => ?_)
          have e50 : x51.toInt = x6.toInt + 1 := e50
          refine tw_puti hx hb hW hown hK hS f_X12_127_11 hz_a0 hk_a0 rfl rfl (lo := 0) (hi := 400) rfl (iv_mono h49 (by decide) (by decide)) rfl dX12_see_32 (fun H locs M54 hS k52 f53 => ?_)
          refine lv_goto (tgt := 0) hx hb dX12_see_35 (by decide) ?_
          have w55 : nx.toInt ≤ x51.toInt ∧ x51.toInt ≤ tp.toInt := by
            have := (h_nx).1; have := (h_nx).2; have := (h28).1; have := (h28).2; have := (h49).1; have := (h49).2; have := (h27).1; have := (h27).2; omega
          have w56 : (∀ lo hi : Int, 33 ≤ lo → chF lo hi Ma tb nx tp → x51.toInt = nx.toInt) := fun lo hi hl h => by exfalso; have e1 := Int32.toInt_inj.mp (w1_1 lo hi hl h); have e2 := h.2.1; rw [← e1, (Fr.kpa f4 hk_tb rfl _).symm.trans k31] at e2; omega
          have hm57 : 400 - x51.toInt < (n_1 : Int) := by
            have := (h_nx).1; have := (h_nx).2; have := (h28).1; have := (h28).2; have := (h49).1; have := (h49).2; have := (h27).1; have := (h27).2; omega
          exact ih_1 x51 M54 R2 J3 H locs _ (iv_mono h49 (by decide) (by decide)) k52 w55 w56 hm57 hS hl
  have w58 : nx.toInt ≤ nx.toInt ∧ nx.toInt ≤ tp.toInt := by
    have := (h_nx).1; have := (h_nx).2; have := (h_tp).1; have := (h_tp).2; omega
  have w59 : (∀ lo hi : Int, 33 ≤ lo → chF lo hi Ma tb nx tp → nx.toInt = nx.toInt) := fun _ _ _ _ => rfl
  have hm60 : 400 - nx.toInt < (((401 : Nat) : Int) : Int) := by
    have := (h_nx).1; have := (h_nx).2; have := (h_tp).1; have := (h_tp).2; omega
  exact W0_1 401 nx Ma Ra Ja s.heap [] _ h_nx k_nx w58 w59 hm60 hS hl
def Lt_X12_puts : WL := [(25, 0, 2000000), (26, 0, 2000000)]
def LRt_X12_puts : WL := []
set_option maxRecDepth 100000 in
set_option maxHeartbeats 4000000 in
theorem t_X12_puts (l : Launch) (D : va_G) (cy : Nat → ClassId) (tx : (Nat → Nat) × (Nat → Nat)) (base Z : Nat) (K N : Nat → Nat) (Ma : MT) (Ra : RT) (Ja : JT) (hTy : Ty Z K N Ma Ra) (a0 : Nat) (hz_a0 : a0 < Z) (hk_a0 : K a0 = 12) (a1 : Int32) (h_a1 : iv 0 13 a1) (a2 : Int32) (h_a2 : iv 0 99999 a2) (sg : Nat) (k_sg : Ra a0 3 = some sg) (lg : Nat) (k_lg : Ra a0 4 = some lg) (tx : Int32) (k_tx : Ma a0 16 = tx) (h_tx : iv 0 5 tx) (le : Int32) (k_le : Ma lg tx.toNatClampNeg = le) (h_le : iv 0 399 le) : Met l yX12_puts [Cond.code yX12_puts cX12_puts 3 none] (md_rm 1 0 0) (va_Pc [.ref (base + a0), .int a1, .int a2] (md_U D cy tx base Z K N Ma Ra Ja)) (mQv D cy tx base (fun u => TP Z K N Lt_X12_puts LRt_X12_puts Ma Ra u ∧ ((∃ cd x1 : Int32, cd.toInt = a1.toInt + 16 * a2.toInt ∧ u.2.2.2.1 sg (400 * tx.toNatClampNeg + le.toNatClampNeg) = cd ∧ (∀ j, j ≠ 400 * tx.toNatClampNeg + le.toNatClampNeg → u.2.2.2.1 sg j = Ma sg j) ∧ u.2.2.2.1 lg tx.toNatClampNeg = x1 ∧ iv 1 400 x1 ∧ x1.toInt = le.toInt + 1)))) 0 0 (fun q => base ≤ q) := by
  refine tw_ofW (L := Lt_X12_puts) (LR := LRt_X12_puts) (by decide) (Nat.le_of_ble_eq_true rfl) hTy ?_
  intro p e s m args below meth c Q ls hx hb hr hlocks hown hml hW hK hT hS hQ hl
  have hl : lv_has ls 3 [(0, .ref (base + a0)), (1, .int a1), (2, .int a2)] := hl
  obtain ⟨hz_sg, hk_sg, hn_sg⟩ := hTy.refn hz_a0 hk_a0 (show rtR 12 3 = (25, 2400, 0) from rfl) k_sg
  have hn_sg := hn_sg (by decide)
  obtain ⟨hz_lg, hk_lg, hn_lg⟩ := hTy.refn hz_a0 hk_a0 (show rtR 12 4 = (26, 7, 0) from rfl) k_lg
  have hn_lg := hn_lg (by decide)
  refine lv_aload_n hx hb dX12_puts_0 rfl (lv_at hl 0 rfl) ?_
  refine tw_getrk hx hb hW hown hK hS f_X12_13_11 hz_a0 hk_a0 (b := sg) k_sg dX12_puts_1 ?_
  refine lv_sipush (v := 400) hx hb dX12_puts_4 (by decide) ?_
  refine lv_aload_n hx hb dX12_puts_7 rfl (lv_at hl 0 rfl) ?_
  refine tw_getk hx hb hW hown hK hS f_X12_179_11 hz_a0 hk_a0 (v := tx) k_tx dX12_puts_8 ?_
  refine tw_icmul (k := 400) (lo := 0) (hi := 2000) hx hb (by decide) h_tx (by decide) ⟨by decide, by decide⟩ ⟨by decide, by decide⟩ dX12_puts_11 (fun x3 e2 h1 => ?_)
  refine lv_aload_n hx hb dX12_puts_12 rfl (lv_at hl 0 rfl) ?_
  refine tw_getrk hx hb hW hown hK hS f_X12_17_11 hz_a0 hk_a0 (b := lg) k_lg dX12_puts_13 ?_
  refine lv_aload_n hx hb dX12_puts_16 rfl (lv_at hl 0 rfl) ?_
  refine tw_getk hx hb hW hown hK hS f_X12_179_11 hz_a0 hk_a0 (v := tx) k_tx dX12_puts_17 ?_
  refine tw_ialk hx hb hK hS hz_lg hk_lg (Or.inr (by decide)) hn_lg h_tx ⟨by decide, by decide⟩ (v := le) k_le dX12_puts_20 ?_
  refine tw_iadd (lo := 0) (hi := 2399) hx hb h1 h_le ⟨by decide, by decide⟩ ⟨by decide, by decide⟩ dX12_puts_21 (fun x6 e5 h4 => ?_)
  refine lv_iload_n hx hb dX12_puts_22 rfl (lv_at hl 1 rfl) ?_
  refine lv_bipush (v := 16) hx hb dX12_puts_23 (by decide) ?_
  refine lv_iload_n hx hb dX12_puts_25 rfl (lv_at hl 2 rfl) ?_
  refine tw_icmul (k := 16) (lo := 0) (hi := 1599984) hx hb (by decide) h_a2 (by decide) ⟨by decide, by decide⟩ ⟨by decide, by decide⟩ dX12_puts_26 (fun x9 e8 h7 => ?_)
  refine tw_iadd (lo := 0) (hi := 1599997) hx hb h_a1 h7 ⟨by decide, by decide⟩ ⟨by decide, by decide⟩ dX12_puts_27 (fun x12 e11 h10 => ?_)
  refine tw_iasx hx hb hK hS hz_sg hk_sg (Or.inr (by decide)) hn_sg h4 ⟨by decide, by decide⟩ (iv_any _) (jl := 0) (jh := 1999999) ⟨by decide, by decide⟩ rfl dX12_puts_28 (fun H locs M16 hS k13 f14 e15 => ?_)
  refine lv_aload_n hx hb dX12_puts_29 rfl (lv_at hl 0 rfl) ?_
  refine tw_getrk hx hb hW hown hK hS f_X12_17_11 hz_a0 hk_a0 (b := lg) k_lg dX12_puts_30 ?_
  refine lv_aload_n hx hb dX12_puts_33 rfl (lv_at hl 0 rfl) ?_
  have k17 : M16 a0 16 = tx := (Fr.kp (k := 16) f14 hk_a0 rfl).trans k_tx
  refine tw_getk hx hb hW hown hK hS f_X12_179_11 hz_a0 hk_a0 (v := tx) k17 dX12_puts_34 ?_
  refine lv_dup2_11 hx hb dX12_puts_37 rfl rfl ?_
  have k18 : M16 lg tx.toNatClampNeg = le := (Fr.kpa f14 hk_lg rfl tx.toNatClampNeg).trans k_le
  refine tw_ialk hx hb hK hS hz_lg hk_lg (Or.inr (by decide)) hn_lg h_tx ⟨by decide, by decide⟩ (v := le) k18 dX12_puts_38 ?_
  refine lv_iconst (v := 1) hx hb dX12_puts_39 (by decide) ?_
  refine tw_iadd (lo := 1) (hi := 400) hx hb h_le (iv_c (c := 1) (n := 1) (by decide)) ⟨by decide, by decide⟩ ⟨by decide, by decide⟩ dX12_puts_40 (fun x21 e20 h19 => ?_)
  have e20 : x21.toInt = le.toInt + 1 := e20
  refine tw_iast hx hb hK hS hz_lg hk_lg (Or.inr (by decide)) hn_lg h_tx ⟨by decide, by decide⟩ h19 (rg_s26 ⟨by decide, by decide⟩) (jl := 0) (jh := 1999999) ⟨by decide, by decide⟩ rfl dX12_puts_41 (fun H locs M24 hS k22 f23 => ?_)
  have zt24 := ti_cl (x := tx) (by have := h_tx.1; omega); have zn24 := ti_cl (x := le) (by have := h_le.1; omega); have zy24 := ti_cl (x := x6) (by have := (h4).1; omega)
  have zi24 : x6.toNatClampNeg = 400 * tx.toNatClampNeg + le.toNatClampNeg := by omega
  exact tw_endv hx hb hr hlocks hK hT hS hQ (⟨x12, x21, by omega, by rw [← zi24, Fr.kpa f23 hk_sg rfl, e15]; exact u2_same, fun j hj => by rw [Fr.kpa f23 hk_sg rfl, e15]; exact u2_nk (fun e => hj (e.trans zi24)), k22, h19, by omega⟩) dX12_puts_42
def Lt_X12_strength : WL := []
def LRt_X12_strength : WL := []
set_option maxRecDepth 100000 in
set_option maxHeartbeats 4000000 in
theorem t_X12_strength (l : Launch) (D : va_G) (cy : Nat → ClassId) (tx : (Nat → Nat) × (Nat → Nat)) (base Z : Nat) (K N : Nat → Nat) (Ma : MT) (Ra : RT) (Ja : JT) (hTy : Ty Z K N Ma Ra) (a0 : Int32) (h_a0 : iv (-2147483648) 2147483647 a0) : Met l yX12_strength [Cond.code yX12_strength cX12_strength 1 (some .int)] (md_rm 1 0 0) (va_Pc [.int a0] (md_U D cy tx base Z K N Ma Ra Ja)) (mQi D cy tx base (fun r u => TP Z K N Lt_X12_strength LRt_X12_strength Ma Ra u ∧ (iv 0 3 r ∧ ((r.toInt = 0 ∧ ¬ a0.toInt = 11 ∧ ¬ a0.toInt = 12 ∧ ¬ a0.toInt = 13) ∨ (a0.toInt = 13 ∧ r.toInt = 1) ∨ (a0.toInt = 12 ∧ r.toInt = 2) ∨ (a0.toInt = 11 ∧ r.toInt = 3))))) 0 0 (fun q => base ≤ q) := by
  refine tw_ofW (L := Lt_X12_strength) (LR := LRt_X12_strength) (by decide) (Nat.le_of_ble_eq_true rfl) hTy ?_
  intro p e s m args below meth c Q ls hx hb hr hlocks hown hml hW hK hT hS hQ hl
  have hl : lv_has ls 1 [(0, .int a0)] := hl
  refine lv_iload_n hx hb dX12_strength_0 rfl (lv_at hl 0 rfl) ?_
  refine lv_bipush (v := 13) hx hb dX12_strength_1 (by decide) ?_
  refine lv_icmp_ne (tgt := 10) hx hb dX12_strength_3 (by decide) (fun c1 => ?_) (fun c1 => ?_)
  · have q2 : ¬ a0.toInt = 13 := ti_ne c1
    refine lv_iload_n hx hb dX12_strength_10 rfl (lv_at hl 0 rfl) ?_
    refine lv_bipush (v := 12) hx hb dX12_strength_11 (by decide) ?_
    refine lv_icmp_ne (tgt := 20) hx hb dX12_strength_13 (by decide) (fun c3 => ?_) (fun c3 => ?_)
    · have q4 : ¬ a0.toInt = 12 := ti_ne c3
      refine lv_iload_n hx hb dX12_strength_20 rfl (lv_at hl 0 rfl) ?_
      refine lv_bipush (v := 11) hx hb dX12_strength_21 (by decide) ?_
      refine lv_icmp_ne (tgt := 30) hx hb dX12_strength_23 (by decide) (fun c5 => ?_) (fun c5 => ?_)
      · have q6 : ¬ a0.toInt = 11 := ti_ne c5
        refine lv_iconst (v := 0) hx hb dX12_strength_30 (by decide) ?_
        have q7 : ((0 : Int32).toInt = 0 ∧ ¬ a0.toInt = 11 ∧ ¬ a0.toInt = 12 ∧ ¬ a0.toInt = 13) ∨ (a0.toInt = 13 ∧ (0 : Int32).toInt = 1) ∨ (a0.toInt = 12 ∧ (0 : Int32).toInt = 2) ∨ (a0.toInt = 11 ∧ (0 : Int32).toInt = 3) := by
          have := (h_a0).1; have := (h_a0).2; have : (0 : Int32).toInt = 0 := (by decide); omega
        exact tw_endi hx hb hr hlocks hK hT hS hQ (⟨(iv_mono (iv_c (c := 0) (n := 0) (by decide)) (by decide) (by decide)), q7⟩) dX12_strength_31
      · have q8 : a0.toInt = 11 := ti_eq c5
        have h9 : iv 11 11 a0 := ⟨by have := (h_a0).1; have := ((iv_c (c := 11) (n := 11) (by decide))).1; omega, by have := (h_a0).2; have := ((iv_c (c := 11) (n := 11) (by decide))).2; omega⟩
        refine lv_iconst (v := 3) hx hb dX12_strength_26 (by decide) ?_
        refine lv_goto (tgt := 31) hx hb dX12_strength_27 (by decide) ?_
        have q10 : ((3 : Int32).toInt = 0 ∧ ¬ a0.toInt = 11 ∧ ¬ a0.toInt = 12 ∧ ¬ a0.toInt = 13) ∨ (a0.toInt = 13 ∧ (3 : Int32).toInt = 1) ∨ (a0.toInt = 12 ∧ (3 : Int32).toInt = 2) ∨ (a0.toInt = 11 ∧ (3 : Int32).toInt = 3) := by
          have := (h9).1; have := (h9).2; have : (3 : Int32).toInt = 3 := (by decide); omega
        exact tw_endi hx hb hr hlocks hK hT hS hQ (⟨(iv_mono (iv_c (c := 3) (n := 3) (by decide)) (by decide) (by decide)), q10⟩) dX12_strength_31
    · have q11 : a0.toInt = 12 := ti_eq c3
      have h12 : iv 12 12 a0 := ⟨by have := (h_a0).1; have := ((iv_c (c := 12) (n := 12) (by decide))).1; omega, by have := (h_a0).2; have := ((iv_c (c := 12) (n := 12) (by decide))).2; omega⟩
      refine lv_iconst (v := 2) hx hb dX12_strength_16 (by decide) ?_
      refine lv_goto (tgt := 31) hx hb dX12_strength_17 (by decide) ?_
      have q13 : ((2 : Int32).toInt = 0 ∧ ¬ a0.toInt = 11 ∧ ¬ a0.toInt = 12 ∧ ¬ a0.toInt = 13) ∨ (a0.toInt = 13 ∧ (2 : Int32).toInt = 1) ∨ (a0.toInt = 12 ∧ (2 : Int32).toInt = 2) ∨ (a0.toInt = 11 ∧ (2 : Int32).toInt = 3) := by
        have := (h12).1; have := (h12).2; have : (2 : Int32).toInt = 2 := (by decide); omega
      exact tw_endi hx hb hr hlocks hK hT hS hQ (⟨(iv_mono (iv_c (c := 2) (n := 2) (by decide)) (by decide) (by decide)), q13⟩) dX12_strength_31
  · have q14 : a0.toInt = 13 := ti_eq c1
    have h15 : iv 13 13 a0 := ⟨by have := (h_a0).1; have := ((iv_c (c := 13) (n := 13) (by decide))).1; omega, by have := (h_a0).2; have := ((iv_c (c := 13) (n := 13) (by decide))).2; omega⟩
    refine lv_iconst (v := 1) hx hb dX12_strength_6 (by decide) ?_
    refine lv_goto (tgt := 31) hx hb dX12_strength_7 (by decide) ?_
    have q16 : ((1 : Int32).toInt = 0 ∧ ¬ a0.toInt = 11 ∧ ¬ a0.toInt = 12 ∧ ¬ a0.toInt = 13) ∨ (a0.toInt = 13 ∧ (1 : Int32).toInt = 1) ∨ (a0.toInt = 12 ∧ (1 : Int32).toInt = 2) ∨ (a0.toInt = 11 ∧ (1 : Int32).toInt = 3) := by
      have := (h15).1; have := (h15).2; have : (1 : Int32).toInt = 1 := (by decide); omega
    exact tw_endi hx hb hr hlocks hK hT hS hQ (⟨(iv_mono (iv_c (c := 1) (n := 1) (by decide)) (by decide) (by decide)), q16⟩) dX12_strength_31
def Lt_X12_settles : WL := [(12, 18, 19), (12, 21, 22), (25, 0, 2000000), (26, 0, 2000000)]
def LRt_X12_settles : WL := []
set_option maxRecDepth 100000 in
set_option maxHeartbeats 4000000 in
theorem t_X12_settles (l : Launch) (D : va_G) (cy : Nat → ClassId) (tx : (Nat → Nat) × (Nat → Nat)) (base Z : Nat) (K N : Nat → Nat) (Ma : MT) (Ra : RT) (Ja : JT) (hTy : Ty Z K N Ma Ra) (a0 : Nat) (hz_a0 : a0 < Z) (hk_a0 : K a0 = 12) (a1 : Int32) (h_a1 : iv 1 3 a1) (nx : Int32) (k_nx : Ma a0 13 = nx) (h_nx : iv 0 400 nx) (lg : Nat) (k_lg : Ra a0 4 = some lg) (sg : Nat) (k_sg : Ra a0 3 = some sg) (tx : Int32) (k_tx : Ma a0 16 = tx) (h_tx : iv 0 5 tx) (le : Int32) (k_le : Ma lg tx.toNatClampNeg = le) (h_le : iv 0 400 le) (md : Int32) (k_md : Ma a0 17 = md) (h_md : iv 0 60 md) (op : Nat) (k_op : Ra a0 20 = some op) (on : Int32) (k_on : Ma a0 21 = on) (h_on : iv 0 400 on) (sb : Nat) (sh : Nat) (hseg : SEG Ma sg tx.toNatClampNeg sb le.toNatClampNeg sh) (hsb : (sb : Int) ≤ le.toInt) (hsh : (sh : Int) ≤ md.toInt) (hbud : le.toInt + on.toInt ≤ nx.toInt) (hopk : opK Ma op on.toNatClampNeg) (hnb : nbo Ma op on.toNatClampNeg + 1 = sh) : Met l yX12_settles [Cond.code yX12_settles cX12_settles 2 none] (md_rm 2 0 0) (va_Pc [.ref (base + a0), .int a1] (md_U D cy tx base Z K N Ma Ra Ja)) (mQv D cy tx base (fun u => TP Z K N Lt_X12_settles LRt_X12_settles Ma Ra u ∧ ((∃ x0 x1 : Int32, u.2.2.2.1 a0 21 = x0 ∧ u.2.2.2.1 lg tx.toNatClampNeg = x1 ∧ iv 0 400 x0 ∧ iv 0 400 x1 ∧ (x0.toInt ≤ on.toInt ∧ x1.toInt + x0.toInt = le.toInt + on.toInt ∧ le.toInt ≤ x1.toInt) ∧ SEG u.2.2.2.1 sg tx.toNatClampNeg sb x1.toNatClampNeg (nbo Ma op x0.toNatClampNeg + 1) ∧ (∀ j, j < 400 * tx.toNatClampNeg + le.toNatClampNeg → u.2.2.2.1 sg j = Ma sg j) ∧ (∀ j, x0.toNatClampNeg ≤ j → j < on.toNatClampNeg → ¬ Ma op j = 91) ∧ (x0.toInt = 0 ∨ ¬ a1.toInt = 1 ∨ (∃ k, k + 1 = x0.toNatClampNeg ∧ Ma op k = 91)))))) 0 0 (fun q => base ≤ q) := by
  refine tw_ofW (L := Lt_X12_settles) (LR := LRt_X12_settles) (by decide) (Nat.le_of_ble_eq_true rfl) hTy ?_
  intro p e s m args below meth c Q ls hx hb hr hlocks hown hml hW hK hT hS hQ hl
  have hl : lv_has ls 2 [(0, .ref (base + a0)), (1, .int a1)] := hl
  obtain ⟨hz_lg, hk_lg, hn_lg⟩ := hTy.refn hz_a0 hk_a0 (show rtR 12 4 = (26, 7, 0) from rfl) k_lg
  have hn_lg := hn_lg (by decide)
  obtain ⟨hz_sg, hk_sg, hn_sg⟩ := hTy.refn hz_a0 hk_a0 (show rtR 12 3 = (25, 2400, 0) from rfl) k_sg
  have hn_sg := hn_sg (by decide)
  obtain ⟨hz_op, hk_op, hn_op⟩ := hTy.refn hz_a0 hk_a0 (show rtR 12 20 = (14, 400, 0) from rfl) k_op
  have hn_op := hn_op (by decide)
  have W0_1 : ∀ (n_1 : Nat) (x6 : Int32) (x8 : Int32) (M1 : MT) (R2 : RT) (J3 : JT) (H : Heap) (locs : List Loc) (ls : Array Slot) (h_x6 : iv 0 400 x6) (k7 : M1 a0 21 = x6) (h_x8 : iv 0 400 x8) (k9 : M1 lg tx.toNatClampNeg = x8) (w0_1 : x6.toInt ≤ on.toInt ∧ x8.toInt + x6.toInt = le.toInt + on.toInt ∧ le.toInt ≤ x8.toInt) (w1_1 : SEG M1 sg tx.toNatClampNeg sb x8.toNatClampNeg (nbo Ma op x6.toNatClampNeg + 1)) (w2_1 : ∀ j, j < 400 * tx.toNatClampNeg + le.toNatClampNeg → M1 sg j = Ma sg j) (w3_1 : ∀ j, x6.toNatClampNeg ≤ j → j < on.toNatClampNeg → ¬ Ma op j = 91) (hm_1 : x6.toInt < (n_1 : Int)) (hS : SB D cy base Z K N Lt_X12_settles LRt_X12_settles Ma Ra M1 R2 J3 s H locs) (hl : lv_has ls 2 [(0, .ref (base + a0)), (1, .int a1)]), W p l e (md_rm 2 0 0) s m args below meth c H locs 0 0 Q (F0 m 0 ls []) := by
    intro n_1
    induction n_1 with
    | zero =>
      intro x6 x8 M1 R2 J3 H locs ls h_x6 k7 h_x8 k9 w0_1 w1_1 w2_1 w3_1 hm_1 hS hl
      exfalso
      have := (h_a1).1; have := (h_a1).2; have := (h_le).1; have := (h_le).2; have := (h_md).1; have := (h_md).2; have := (h_nx).1; have := (h_nx).2; have := (h_on).1; have := (h_on).2; have := (h_tx).1; have := (h_tx).2; have := (h_x6).1; have := (h_x6).2; have := (h_x8).1; have := (h_x8).2; omega
    | succ n_1 ih_1 =>
      intro x6 x8 M1 R2 J3 H locs ls h_x6 k7 h_x8 k9 w0_1 w1_1 w2_1 w3_1 hm_1 hS hl
      have f4 := hS.2.2.1
      have g5 := hS.2.2.2
      refine lv_aload_n hx hb dX12_settles_0 rfl (lv_at hl 0 rfl) ?_
      refine tw_getk hx hb hW hown hK hS f_X12_188_11 hz_a0 hk_a0 (v := x6) k7 dX12_settles_1 ?_
      refine lv_if_le (tgt := 76) hx hb dX12_settles_4 (by decide) (fun c10 => ?_) (fun c10 => ?_)
      · have q11 : x6.toInt ≤ 0 := ti_le c10
        have h12 : iv 0 0 x6 := iv_leL (y := 0) h_x6 (iv_c (c := 0) (n := 0) (by decide)) q11 (by decide)
        have q13 : x6.toInt ≤ on.toInt ∧ x8.toInt + x6.toInt = le.toInt + on.toInt ∧ le.toInt ≤ x8.toInt := by
          have := (h_a1).1; have := (h_a1).2; have := (h_le).1; have := (h_le).2; have := (h_md).1; have := (h_md).2; have := (h_nx).1; have := (h_nx).2; have := (h_on).1; have := (h_on).2; have := (h_tx).1; have := (h_tx).2; have := (h12).1; have := (h12).2; have := (h_x8).1; have := (h_x8).2; omega
        exact tw_endv hx hb hr hlocks hK hT hS hQ (⟨x6, x8, k7, k9, (iv_mono h12 (by decide) (by decide)), h_x8, q13, w1_1, w2_1, w3_1, Or.inl (by have := (h12).1; have := (h12).2; omega)⟩) dX12_settles_76
      · have q14 : 0 < x6.toInt := ti_nle c10
        have h15 : iv 1 400 x6 := iv_gtL (y := 0) h_x6 (iv_c (c := 0) (n := 0) (by decide)) q14 (by decide)
        refine lv_aload_n hx hb dX12_settles_7 rfl (lv_at hl 0 rfl) ?_
        have k16 : R2 a0 20 = some op := (Fr.kp (k := 20) g5 hk_a0 rfl).trans k_op
        refine tw_getrk hx hb hW hown hK hS f_X12_35_11 hz_a0 hk_a0 (b := op) k16 dX12_settles_8 ?_
        refine lv_aload_n hx hb dX12_settles_11 rfl (lv_at hl 0 rfl) ?_
        refine tw_getk hx hb hW hown hK hS f_X12_188_11 hz_a0 hk_a0 (v := x6) k7 dX12_settles_12 ?_
        refine lv_iconst (v := 1) hx hb dX12_settles_15 (by decide) ?_
        refine tw_isub (lo := 0) (hi := 399) hx hb h15 (iv_c (c := 1) (n := 1) (by decide)) ⟨by decide, by decide⟩ ⟨by decide, by decide⟩ dX12_settles_16 (fun x19 e18 h17 => ?_)
        have e18 : x19.toInt = x6.toInt - 1 := e18
        refine tw_iald hx hb hK hS hz_op hk_op (Or.inl rfl) hn_op (lo := (-2147483648)) (hi := 2147483647) h17 ⟨by decide, by decide⟩ rg_u14 dX12_settles_17 (fun x22 k21 h20 => ?_)
        refine tw_goi hS (md_runS (As := [.int x22]) (rest := []) hx hb hml hown hW hK hT hS.1 (t_X12_strength l D cy tx base Z K N M1 R2 J3 hS.2.1 x22 h20) s_X12_191 ⟨rfl, rfl, ⟨Nat.le_of_ble_eq_true rfl, Nat.le_of_ble_eq_true rfl⟩, ⟨Nat.le_of_ble_eq_true rfl, Nat.le_of_ble_eq_true rfl⟩⟩ rfl hl.1 rfl (Nat.le_of_ble_eq_true rfl) dX12_settles_18) rfl rfl (fun x29 H locs M26 R27 J25 hS f23 g24 E28 => ?_)
        have eM26 := Fr.nil f23 rfl
        subst eM26
        have eR27 := Fr.nil g24 rfl
        subst eR27
        obtain ⟨h_x29, p30⟩ := E28
        refine lv_iload_n hx hb dX12_settles_21 rfl (lv_at hl 1 rfl) ?_
        refine lv_icmp_lt (tgt := 76) hx hb dX12_settles_22 (by decide) (fun c31 => ?_) (fun c31 => ?_)
        · have q32 : x29.toInt < a1.toInt := ti_lt c31
          have h33 : iv 0 2 x29 := iv_ltL (y := a1) h_x29 h_a1 q32 (by decide)
          have q34 : x6.toInt ≤ on.toInt ∧ x8.toInt + x6.toInt = le.toInt + on.toInt ∧ le.toInt ≤ x8.toInt := by
            have := (h_a1).1; have := (h_a1).2; have := (h_le).1; have := (h_le).2; have := (h_md).1; have := (h_md).2; have := (h_nx).1; have := (h_nx).2; have := (h_on).1; have := (h_on).2; have := (h_tx).1; have := (h_tx).2; have := (h17).1; have := (h17).2; have := (h15).1; have := (h15).2; have := (h_x8).1; have := (h_x8).2; omega
          have zy34 := ti_cl (x := x19) (by have := (h17).1; omega); have zx34 := ti_cl (x := x6) (by have := (h15).1; omega); have zq34 := ti_cl (x := on) (by have := h_on.1; omega)
          have zm34 : Ma op x19.toNatClampNeg = x22 := (Fr.kpa hS.2.2.1 hk_op rfl _).symm.trans k21
          have zo34 := hopk x19.toNatClampNeg (by omega)
          rw [zm34] at zo34
          exact tw_endv hx hb hr hlocks hK hT hS hQ (⟨x6, x8, k7, k9, (iv_mono h15 (by decide) (by decide)), h_x8, q34, w1_1, w2_1, w3_1, Or.inr (by by_cases e : a1.toInt = 1; · exact Or.inr ⟨x19.toNatClampNeg, by omega, by rw [zm34]; rcases zo34 with h | h | h | h; · exact h; all_goals (have h5 := ti_eq h; have : (11 : Int32).toInt = 11 := (by decide); have : (12 : Int32).toInt = 12 := (by decide); have : (13 : Int32).toInt = 13 := (by decide); omega)⟩; · exact Or.inl e)⟩) dX12_settles_76
        · have q35 : a1.toInt ≤ x29.toInt := ti_nlt c31
          have h36 : iv 1 3 x29 := iv_geL (y := a1) h_x29 h_a1 q35 (by decide)
          refine lv_aload_n hx hb dX12_settles_25 rfl (lv_at hl 0 rfl) ?_
          refine lv_dup hx hb dX12_settles_26 rfl ?_
          refine tw_getk hx hb hW hown hK hS f_X12_188_11 hz_a0 hk_a0 (v := x6) k7 dX12_settles_27 ?_
          refine lv_iconst (v := 1) hx hb dX12_settles_30 (by decide) ?_
          refine tw_isub (lo := 0) (hi := 399) hx hb h15 (iv_c (c := 1) (n := 1) (by decide)) ⟨by decide, by decide⟩ ⟨by decide, by decide⟩ dX12_settles_31 (fun x39 e38 h37 => ?_)
          have e38 : x39.toInt = x6.toInt - 1 := e38
          refine tw_puti hx hb hW hown hK hS f_X12_188_11 hz_a0 hk_a0 rfl rfl (lo := 0) (hi := 400) rfl (iv_mono h37 (by decide) (by decide)) rfl dX12_settles_32 (fun H locs M42 hS k40 f41 => ?_)
          refine lv_aload_n hx hb dX12_settles_35 rfl (lv_at hl 0 rfl) ?_
          refine lv_aload_n hx hb dX12_settles_36 rfl (lv_at hl 0 rfl) ?_
          have k43 : R2 a0 20 = some op := (Fr.kp (k := 20) g5 hk_a0 rfl).trans k_op
          refine tw_getrk hx hb hW hown hK hS f_X12_35_11 hz_a0 hk_a0 (b := op) k43 dX12_settles_37 ?_
          refine lv_aload_n hx hb dX12_settles_40 rfl (lv_at hl 0 rfl) ?_
          refine tw_getk hx hb hW hown hK hS f_X12_188_11 hz_a0 hk_a0 (v := x39) k40 dX12_settles_41 ?_
          refine tw_iald hx hb hK hS hz_op hk_op (Or.inl rfl) hn_op (lo := (-2147483648)) (hi := 2147483647) h37 ⟨by decide, by decide⟩ rg_u14 dX12_settles_44 (fun x46 k45 h44 => ?_)
          refine lv_iconst (v := 0) hx hb dX12_settles_45 (by decide) ?_
          have k47 : M42 op x19.toNatClampNeg = x22 := (Fr.kpa f41 hk_op rfl x19.toNatClampNeg).trans k21
          have zx46 := ti_cl (x := x39) (by have := (h37).1; omega); have zy46 := ti_cl (x := x19) (by have := (h17).1; omega); have zt46 := ti_cl (x := x6) (by have := (h15).1; omega)
          have ze46 : x46 = x22 := by rw [← k45, ← k47, show x39.toNatClampNeg = x19.toNatClampNeg by omega]
          have h48 : iv 11 13 x46 := by rw [ze46]; exact ⟨by have := h_a1.1; omega, by have := h_a1.1; omega⟩
          have k49 : Ma op x39.toNatClampNeg = x46 := (Fr.kpa hS.2.2.1 hk_op rfl _).symm.trans k45
          have k50 : R2 a0 3 = some sg := (Fr.kp (k := 3) g5 hk_a0 rfl).trans k_sg
          have k51 : R2 a0 4 = some lg := (Fr.kp (k := 4) g5 hk_a0 rfl).trans k_lg
          have k52 : M42 a0 16 = tx := ((Fr.kp (k := 16) f41 hk_a0 rfl).trans (Fr.kp (k := 16) f4 hk_a0 rfl)).trans k_tx
          have k53 : M42 lg tx.toNatClampNeg = x8 := (Fr.kpa f41 hk_lg rfl tx.toNatClampNeg).trans k9
          have h54 : iv 0 399 x8 := by
            have := (h_a1).1; have := (h_a1).2; have := (h_le).1; have := (h_le).2; have := (h_md).1; have := (h_md).2; have := (h_nx).1; have := (h_nx).2; have := (h_on).1; have := (h_on).2; have := (h_tx).1; have := (h_tx).2; have := (h17).1; have := (h17).2; have := (h37).1; have := (h37).2; have := (h15).1; have := (h15).2; have := (h_x8).1; have := (h_x8).2; exact ⟨by omega, by omega⟩
          refine tw_gov hS (md_runV (As := [.int x46, .int 0]) (rest := []) hx hb hml hown hW hK hT hS.1 (t_X12_puts l D cy tx base Z K N M42 R2 J25 hS.2.1 a0 hz_a0 hk_a0 x46 (iv_mono h48 (by decide) (by decide)) 0 (iv_mono (iv_c (c := 0) (n := 0) (by decide)) (by decide) (by decide)) sg k50 lg k51 tx k52 (iv_mono h_tx (by decide) (by decide)) x8 k53 h54) s_X12_195 ⟨rfl, rfl, ⟨Nat.le_of_ble_eq_true rfl, Nat.le_of_ble_eq_true rfl⟩, ⟨Nat.le_of_ble_eq_true rfl, Nat.le_of_ble_eq_true rfl⟩⟩ hz_a0 hk_a0 (by decide) rfl rfl hl.1 rfl (Nat.le_of_ble_eq_true rfl) dX12_settles_46) rfl rfl (fun H locs M58 R59 J57 hS f55 g56 E60 => ?_)
          have eR59 := Fr.nil g56 rfl
          subst eR59
          have p61 := E60
          obtain ⟨x62, x64, zc61, zd61, zo61, k65, h63, zl61⟩ := p61
          have k65 : M58 lg tx.toNatClampNeg = x64 := k65
          have zp61 : (0 : Int32).toInt = 0 := (by decide)
          have za61 := ti_cl (x := tx) (by have := h_tx.1; omega); have zn61 := ti_cl (x := x8) (by have := (h_x8).1; omega); have zm61 := ti_cl (x := x64) (by have := (h63).1; omega); have zx61 := ti_cl (x := x39) (by have := (h37).1; omega); have zt61 := ti_cl (x := x6) (by have := (h15).1; omega); have zw61 := ti_cl (x := le) (by have := h_le.1; omega)
          have zs61 := set_step (M := Ma) (op := op) (x := x39.toNatClampNeg) (t := x6.toNatClampNeg) (cd := x62) (by omega) k49 (by have := (h48).1; have := (h48).2; omega) (by omega)
          have z66 : SEG M58 sg tx.toNatClampNeg sb x64.toNatClampNeg (nbo Ma op x39.toNatClampNeg + 1) := SEG.cast (SEG.ext (SEG.to w1_1 (fun j _ _ => Fr.kpa f41 hk_sg rfl j)) (by omega) zd61 zo61 zs61) (by omega) rfl
          have z67 : ∀ j, j < 400 * tx.toNatClampNeg + le.toNatClampNeg → M58 sg j = Ma sg j := fun j hj => (zo61 j (by omega)).trans ((fun j hj => (Fr.kpa f41 hk_sg rfl j).trans (w2_1 j hj)) j hj)
          refine lv_aload_n hx hb dX12_settles_49 rfl (lv_at hl 0 rfl) ?_
          have k68 : R2 a0 20 = some op := (Fr.kp (k := 20) g5 hk_a0 rfl).trans k_op
          refine tw_getrk hx hb hW hown hK hS f_X12_35_11 hz_a0 hk_a0 (b := op) k68 dX12_settles_50 ?_
          refine lv_aload_n hx hb dX12_settles_53 rfl (lv_at hl 0 rfl) ?_
          have k69 : M58 a0 21 = x39 := (Fr.kp (k := 21) f55 hk_a0 rfl).trans k40
          refine tw_getk hx hb hW hown hK hS f_X12_188_11 hz_a0 hk_a0 (v := x39) k69 dX12_settles_54 ?_
          have k70 : M58 op x39.toNatClampNeg = x46 := (Fr.kpa f55 hk_op rfl x39.toNatClampNeg).trans k45
          refine tw_ialk hx hb hK hS hz_op hk_op (Or.inl rfl) hn_op h37 ⟨by decide, by decide⟩ (v := x46) k70 dX12_settles_57 ?_
          refine lv_bipush (v := 11) hx hb dX12_settles_58 (by decide) ?_
          refine lv_icmp_ne (tgt := 0) hx hb dX12_settles_60 (by decide) (fun c71 => ?_) (fun c71 => ?_)
          · have q72 : ¬ x46.toInt = 11 := ti_ne c71
            have h73 : iv 12 13 x46 := ⟨by have := (h48).1; have := ((iv_c (c := 11) (n := 11) (by decide))).1; have := ((iv_c (c := 11) (n := 11) (by decide))).2; omega, by have := (h48).2; have := ((iv_c (c := 11) (n := 11) (by decide))).1; have := ((iv_c (c := 11) (n := 11) (by decide))).2; omega⟩
            have w74 : x39.toInt ≤ on.toInt ∧ x64.toInt + x39.toInt = le.toInt + on.toInt ∧ le.toInt ≤ x64.toInt := by
              have := (h_a1).1; have := (h_a1).2; have := (h_le).1; have := (h_le).2; have := (h_md).1; have := (h_md).2; have := (h_nx).1; have := (h_nx).2; have := (h_on).1; have := (h_on).2; have := (h_tx).1; have := (h_tx).2; have := (h17).1; have := (h17).2; have := (h37).1; have := (h37).2; have := (h15).1; have := (h15).2; have := (h63).1; have := (h63).2; have := (h_x8).1; have := (h_x8).2; omega
            have w75 : SEG M58 sg tx.toNatClampNeg sb x64.toNatClampNeg (nbo Ma op x39.toNatClampNeg + 1) := z66
            have w76 : ∀ j, j < 400 * tx.toNatClampNeg + le.toNatClampNeg → M58 sg j = Ma sg j := z67
            have w77 : ∀ j, x39.toNatClampNeg ≤ j → j < on.toNatClampNeg → ¬ Ma op j = 91 := fun j h1 h2 => by by_cases e : j = x39.toNatClampNeg; · rw [e, k49]; exact fun q => absurd (ti_eq q) (by have : (91 : Int32).toInt = 91 := (by decide); have := (h73).2; omega); · exact w3_1 j (by omega) h2
            have hm78 : x39.toInt < (n_1 : Int) := by
              have := (h_a1).1; have := (h_a1).2; have := (h_le).1; have := (h_le).2; have := (h_md).1; have := (h_md).2; have := (h_nx).1; have := (h_nx).2; have := (h_on).1; have := (h_on).2; have := (h_tx).1; have := (h_tx).2; have := (h17).1; have := (h17).2; have := (h37).1; have := (h37).2; have := (h15).1; have := (h15).2; have := (h63).1; have := (h63).2; have := (h_x8).1; have := (h_x8).2; omega
            exact ih_1 x39 x64 M58 R2 J57 H locs _ (iv_mono h37 (by decide) (by decide)) k69 (iv_mono h63 (by decide) (by decide)) k65 w74 w75 w76 w77 hm78 hS hl
          · have q79 : x46.toInt = 11 := ti_eq c71
            have h80 : iv 11 11 x46 := ⟨by have := (h48).1; have := ((iv_c (c := 11) (n := 11) (by decide))).1; omega, by have := (h48).2; have := ((iv_c (c := 11) (n := 11) (by decide))).2; omega⟩
            refine lv_aload_n hx hb dX12_settles_63 rfl (lv_at hl 0 rfl) ?_
            refine lv_dup hx hb dX12_settles_64 rfl ?_
            refine tw_geti hx hb hW hown hK hS f_X12_185_11 hz_a0 hk_a0 (lo := (-2147483648)) (hi := 2147483647) rfl dX12_settles_65 (fun x83 k82 h81 => ?_)
            refine lv_iconst (v := 1) hx hb dX12_settles_68 (by decide) ?_
            refine lv_isub hx hb dX12_settles_69 ?_
            refine tw_top (fun x85 => ?_)
            have h84 := iv_any x85
            refine tw_puti hx hb hW hown hK hS f_X12_185_11 hz_a0 hk_a0 rfl rfl (lo := (-2147483648)) (hi := 2147483647) rfl h84 rfl dX12_settles_70 (fun H locs M88 hS k86 f87 => ?_)
            refine lv_goto (tgt := 0) hx hb dX12_settles_73 (by decide) ?_
            have k89 : M88 a0 21 = x39 := (Fr.kp (k := 21) f87 hk_a0 rfl).trans k69
            have k90 : M88 lg tx.toNatClampNeg = x64 := (Fr.kpa f87 hk_lg rfl tx.toNatClampNeg).trans k65
            have w91 : x39.toInt ≤ on.toInt ∧ x64.toInt + x39.toInt = le.toInt + on.toInt ∧ le.toInt ≤ x64.toInt := by
              have := (h_a1).1; have := (h_a1).2; have := (h_le).1; have := (h_le).2; have := (h_md).1; have := (h_md).2; have := (h_nx).1; have := (h_nx).2; have := (h_on).1; have := (h_on).2; have := (h_tx).1; have := (h_tx).2; have := (h17).1; have := (h17).2; have := (h37).1; have := (h37).2; have := (h15).1; have := (h15).2; have := (h63).1; have := (h63).2; have := (h_x8).1; have := (h_x8).2; omega
            have w92 : SEG M88 sg tx.toNatClampNeg sb x64.toNatClampNeg (nbo Ma op x39.toNatClampNeg + 1) := (SEG.to z66 (fun j _ _ => Fr.kpa f87 hk_sg rfl j))
            have w93 : ∀ j, j < 400 * tx.toNatClampNeg + le.toNatClampNeg → M88 sg j = Ma sg j := (fun j hj => (Fr.kpa f87 hk_sg rfl j).trans (z67 j hj))
            have w94 : ∀ j, x39.toNatClampNeg ≤ j → j < on.toNatClampNeg → ¬ Ma op j = 91 := fun j h1 h2 => by by_cases e : j = x39.toNatClampNeg; · rw [e, k49]; exact fun q => absurd (ti_eq q) (by have : (91 : Int32).toInt = 91 := (by decide); have := (h80).2; omega); · exact w3_1 j (by omega) h2
            have hm95 : x39.toInt < (n_1 : Int) := by
              have := (h_a1).1; have := (h_a1).2; have := (h_le).1; have := (h_le).2; have := (h_md).1; have := (h_md).2; have := (h_nx).1; have := (h_nx).2; have := (h_on).1; have := (h_on).2; have := (h_tx).1; have := (h_tx).2; have := (h17).1; have := (h17).2; have := (h37).1; have := (h37).2; have := (h15).1; have := (h15).2; have := (h63).1; have := (h63).2; have := (h_x8).1; have := (h_x8).2; omega
            exact ih_1 x39 x64 M88 R2 J57 H locs _ (iv_mono h37 (by decide) (by decide)) k89 (iv_mono h63 (by decide) (by decide)) k90 w91 w92 w93 w94 hm95 hS hl
  have w96 : on.toInt ≤ on.toInt ∧ le.toInt + on.toInt = le.toInt + on.toInt ∧ le.toInt ≤ le.toInt := by
    have := (h_a1).1; have := (h_a1).2; have := (h_le).1; have := (h_le).2; have := (h_md).1; have := (h_md).2; have := (h_nx).1; have := (h_nx).2; have := (h_on).1; have := (h_on).2; have := (h_tx).1; have := (h_tx).2; omega
  have w97 : SEG Ma sg tx.toNatClampNeg sb le.toNatClampNeg (nbo Ma op on.toNatClampNeg + 1) := SEG.cast hseg rfl hnb.symm
  have w98 : ∀ j, j < 400 * tx.toNatClampNeg + le.toNatClampNeg → Ma sg j = Ma sg j := (fun j _ => rfl)
  have w99 : ∀ j, on.toNatClampNeg ≤ j → j < on.toNatClampNeg → ¬ Ma op j = 91 := fun j h1 h2 => absurd h2 (by omega)
  have hm100 : on.toInt < (((401 : Nat) : Int) : Int) := by
    have := (h_a1).1; have := (h_a1).2; have := (h_le).1; have := (h_le).2; have := (h_md).1; have := (h_md).2; have := (h_nx).1; have := (h_nx).2; have := (h_on).1; have := (h_on).2; have := (h_tx).1; have := (h_tx).2; omega
  exact W0_1 401 on le Ma Ra Ja s.heap [] _ h_on k_on h_le k_le w96 w97 w98 w99 hm100 hS hl
def Lt_X12_closes : WL := [(12, 13, 14), (12, 18, 19), (12, 21, 22), (25, 0, 2000000), (26, 0, 2000000)]
def LRt_X12_closes : WL := []
set_option maxRecDepth 100000 in
set_option maxHeartbeats 4000000 in
theorem t_X12_closes (l : Launch) (D : va_G) (cy : Nat → ClassId) (tx : (Nat → Nat) × (Nat → Nat)) (base Z : Nat) (K N : Nat → Nat) (Ma : MT) (Ra : RT) (Ja : JT) (hTy : Ty Z K N Ma Ra) (a0 : Nat) (hz_a0 : a0 < Z) (hk_a0 : K a0 = 12) (tb : Nat) (k_tb : Ra a0 0 = some tb) (nx : Int32) (k_nx : Ma a0 13 = nx) (h_nx : iv 0 400 nx) (tp : Int32) (k_tp : Ma a0 1 = tp) (h_tp : iv 0 400 tp) (hnt : nx.toInt ≤ tp.toInt) (lg : Nat) (k_lg : Ra a0 4 = some lg) (sg : Nat) (k_sg : Ra a0 3 = some sg) (tx : Int32) (k_tx : Ma a0 16 = tx) (h_tx : iv 0 5 tx) (le : Int32) (k_le : Ma lg tx.toNatClampNeg = le) (h_le : iv 0 400 le) (md : Int32) (k_md : Ma a0 17 = md) (h_md : iv 0 60 md) (op : Nat) (k_op : Ra a0 20 = some op) (on : Int32) (k_on : Ma a0 21 = on) (h_on : iv 0 400 on) (sb : Nat) (sh : Nat) (hseg : SEG Ma sg tx.toNatClampNeg sb le.toNatClampNeg sh) (hsb : (sb : Int) ≤ le.toInt) (hsh : (sh : Int) ≤ md.toInt) (hbud : le.toInt + on.toInt ≤ nx.toInt) (hopk : opK Ma op on.toNatClampNeg) (hnb : nbo Ma op on.toNatClampNeg + 1 = sh) : Met l yX12_closes [Cond.code yX12_closes cX12_closes 1 none] (md_rm 3 0 0) (va_Pc [.ref (base + a0)] (md_U D cy tx base Z K N Ma Ra Ja)) (mQv D cy tx base (fun u => TP Z K N Lt_X12_closes LRt_X12_closes Ma Ra u ∧ ((∃ x0 x1 x2 : Int32, u.2.2.2.1 a0 13 = x0 ∧ u.2.2.2.1 a0 21 = x1 ∧ u.2.2.2.1 lg tx.toNatClampNeg = x2 ∧ iv 0 400 x0 ∧ iv 0 400 x1 ∧ iv 0 400 x2 ∧ (nx.toInt ≤ x0.toInt ∧ x0.toInt ≤ tp.toInt ∧ x1.toInt ≤ on.toInt ∧ x2.toInt + x1.toInt ≤ x0.toInt ∧ le.toInt ≤ x2.toInt) ∧ SEG u.2.2.2.1 sg tx.toNatClampNeg sb x2.toNatClampNeg (nbo Ma op x1.toNatClampNeg + 1) ∧ (∀ j, j < 400 * tx.toNatClampNeg + le.toNatClampNeg → u.2.2.2.1 sg j = Ma sg j))))) 0 0 (fun q => base ≤ q) := by
  refine tw_ofW (L := Lt_X12_closes) (LR := LRt_X12_closes) (by decide) (Nat.le_of_ble_eq_true rfl) hTy ?_
  intro p e s m args below meth c Q ls hx hb hr hlocks hown hml hW hK hT hS hQ hl
  have hl : lv_has ls 1 [(0, .ref (base + a0))] := hl
  obtain ⟨hz_tb, hk_tb, hn_tb⟩ := hTy.refn hz_a0 hk_a0 (show rtR 12 0 = (13, 400, 0) from rfl) k_tb
  have hn_tb := hn_tb (by decide)
  obtain ⟨hz_lg, hk_lg, hn_lg⟩ := hTy.refn hz_a0 hk_a0 (show rtR 12 4 = (26, 7, 0) from rfl) k_lg
  have hn_lg := hn_lg (by decide)
  obtain ⟨hz_sg, hk_sg, hn_sg⟩ := hTy.refn hz_a0 hk_a0 (show rtR 12 3 = (25, 2400, 0) from rfl) k_sg
  have hn_sg := hn_sg (by decide)
  obtain ⟨hz_op, hk_op, hn_op⟩ := hTy.refn hz_a0 hk_a0 (show rtR 12 20 = (14, 400, 0) from rfl) k_op
  have hn_op := hn_op (by decide)
  refine lv_aload_n hx hb dX12_closes_0 rfl (lv_at hl 0 rfl) ?_
  refine lv_iconst (v := 3) hx hb dX12_closes_1 (by decide) ?_
  have q1 : ((sb : Nat) : Int) ≤ le.toInt := by
    have := (h_le).1; have := (h_le).2; have := (h_md).1; have := (h_md).2; have := (h_nx).1; have := (h_nx).2; have := (h_on).1; have := (h_on).2; have := (h_tp).1; have := (h_tp).2; have := (h_tx).1; have := (h_tx).2; omega
  have q2 : ((sh : Nat) : Int) ≤ md.toInt := by
    have := (h_le).1; have := (h_le).2; have := (h_md).1; have := (h_md).2; have := (h_nx).1; have := (h_nx).2; have := (h_on).1; have := (h_on).2; have := (h_tp).1; have := (h_tp).2; have := (h_tx).1; have := (h_tx).2; omega
  have q3 : le.toInt + on.toInt ≤ nx.toInt := by
    have := (h_le).1; have := (h_le).2; have := (h_md).1; have := (h_md).2; have := (h_nx).1; have := (h_nx).2; have := (h_on).1; have := (h_on).2; have := (h_tp).1; have := (h_tp).2; have := (h_tx).1; have := (h_tx).2; omega
  have zb3 := ti_cl (x := on) (by have := (h_on).1; omega); have zq3 := ti_cl (x := on) (by have := h_on.1; omega)
  refine tw_gov hS (md_runV (As := [.int 3]) (rest := []) hx hb hml hown hW hK hT hS.1 (t_X12_settles l D cy tx base Z K N Ma Ra Ja hS.2.1 a0 hz_a0 hk_a0 3 (iv_mono (iv_c (c := 3) (n := 3) (by decide)) (by decide) (by decide)) nx k_nx (iv_mono h_nx (by decide) (by decide)) lg k_lg sg k_sg tx k_tx (iv_mono h_tx (by decide) (by decide)) le k_le (iv_mono h_le (by decide) (by decide)) md k_md (iv_mono h_md (by decide) (by decide)) op k_op on k_on (iv_mono h_on (by decide) (by decide)) (sb) (sh) hseg q1 q2 q3 hopk hnb) s_X12_227 ⟨rfl, rfl, ⟨Nat.le_of_ble_eq_true rfl, Nat.le_of_ble_eq_true rfl⟩, ⟨Nat.le_of_ble_eq_true rfl, Nat.le_of_ble_eq_true rfl⟩⟩ hz_a0 hk_a0 (by decide) rfl rfl hl.1 rfl (Nat.le_of_ble_eq_true rfl) dX12_closes_2) rfl rfl (fun H locs M7 R8 J6 hS f4 g5 E9 => ?_)
  have eR8 := Fr.nil g5 rfl
  subst eR8
  have p10 := E9
  obtain ⟨x13, x14, k15, k16, h11, h12, zr10, zg10, zf10, zz10, zl10⟩ := p10
  have k15 : M7 a0 21 = x13 := k15
  have k16 : M7 lg tx.toNatClampNeg = x14 := k16
  have zw10 := ti_cl (x := le) (by have := h_le.1; omega); have zy10 := ti_cl (x := le) (by have := (h_le).1; omega)
  have z17 : ∀ j, j < 400 * tx.toNatClampNeg + le.toNatClampNeg → M7 sg j = Ma sg j := fun j hj => (zf10 j (by omega)).trans ((fun j _ => rfl) j hj)
  have z18 : SEG M7 sg tx.toNatClampNeg sb x14.toNatClampNeg (nbo Ma op x13.toNatClampNeg + 1) := SEG.cast zg10 rfl (by rw [nbo_to _ (fun j _ => (Fr.kpa f4 hk_op rfl j).symm.trans (Fr.kpa hS.2.2.1 hk_op rfl j))])
  have W5_19 : ∀ (n_19 : Nat) (x24 : Int32) (x26 : Int32) (x28 : Int32) (M19 : MT) (R20 : RT) (J21 : JT) (H : Heap) (locs : List Loc) (ls : Array Slot) (h_x24 : iv 0 401 x24) (k25 : M19 a0 13 = x24) (h_x26 : iv 0 400 x26) (k27 : M19 a0 21 = x26) (h_x28 : iv 0 400 x28) (k29 : M19 lg tx.toNatClampNeg = x28) (w0_19 : nx.toInt ≤ x24.toInt ∧ x24.toInt ≤ tp.toInt ∧ x26.toInt ≤ on.toInt ∧ x28.toInt + x26.toInt ≤ x24.toInt ∧ le.toInt ≤ x28.toInt) (w1_19 : SEG M19 sg tx.toNatClampNeg sb x28.toNatClampNeg (nbo Ma op x26.toNatClampNeg + 1)) (w2_19 : ∀ j, j < 400 * tx.toNatClampNeg + le.toNatClampNeg → M19 sg j = Ma sg j) (hm_19 : 400 - x24.toInt < (n_19 : Int)) (hS : SB D cy base Z K N Lt_X12_closes LRt_X12_closes Ma Ra M19 R20 J21 s H locs) (hl : lv_has ls 1 [(0, .ref (base + a0))]), W p l e (md_rm 3 0 0) s m args below meth c H locs 0 0 Q (F0 m 5 ls []) := by
    intro n_19
    induction n_19 with
    | zero =>
      intro x24 x26 x28 M19 R20 J21 H locs ls h_x24 k25 h_x26 k27 h_x28 k29 w0_19 w1_19 w2_19 hm_19 hS hl
      exfalso
      have := (h_le).1; have := (h_le).2; have := (h_md).1; have := (h_md).2; have := (h_nx).1; have := (h_nx).2; have := (h_on).1; have := (h_on).2; have := (h_tp).1; have := (h_tp).2; have := (h_tx).1; have := (h_tx).2; have := (h11).1; have := (h11).2; have := (h12).1; have := (h12).2; have := (h_x24).1; have := (h_x24).2; have := (h_x26).1; have := (h_x26).2; have := (h_x28).1; have := (h_x28).2; omega
    | succ n_19 ih_19 =>
      intro x24 x26 x28 M19 R20 J21 H locs ls h_x24 k25 h_x26 k27 h_x28 k29 w0_19 w1_19 w2_19 hm_19 hS hl
      have f22 := hS.2.2.1
      have g23 := hS.2.2.2
      refine lv_aload_n hx hb dX12_closes_5 rfl (lv_at hl 0 rfl) ?_
      have k30 : R20 a0 0 = some tb := (Fr.kp (k := 0) g23 hk_a0 rfl).trans k_tb
      have h31 : iv 0 400 x24 := by
        have := (h_le).1; have := (h_le).2; have := (h_md).1; have := (h_md).2; have := (h_nx).1; have := (h_nx).2; have := (h_on).1; have := (h_on).2; have := (h_tp).1; have := (h_tp).2; have := (h_tx).1; have := (h_tx).2; have := (h11).1; have := (h11).2; have := (h12).1; have := (h12).2; have := (h_x24).1; have := (h_x24).2; have := (h_x26).1; have := (h_x26).2; have := (h_x28).1; have := (h_x28).2; exact ⟨by omega, by omega⟩
      have k32 : M19 a0 1 = tp := (Fr.kp (k := 1) f22 hk_a0 rfl).trans k_tp
      have q33 : x24.toInt ≤ tp.toInt := by
        have := (h_le).1; have := (h_le).2; have := (h_md).1; have := (h_md).2; have := (h_nx).1; have := (h_nx).2; have := (h_on).1; have := (h_on).2; have := (h_tp).1; have := (h_tp).2; have := (h_tx).1; have := (h_tx).2; have := (h11).1; have := (h11).2; have := (h12).1; have := (h12).2; have := (h_x24).1; have := (h_x24).2; have := (h_x26).1; have := (h_x26).2; have := (h_x28).1; have := (h_x28).2; omega
      refine tw_goi hS (md_runV (As := []) (rest := []) hx hb hml hown hW hK hT hS.1 (t_X12_see l D cy tx base Z K N M19 R20 J21 hS.2.1 a0 hz_a0 hk_a0 tb k30 x24 k25 h31 tp k32 (iv_mono h_tp (by decide) (by decide)) q33) s_X12_130 ⟨rfl, rfl, ⟨Nat.le_of_ble_eq_true rfl, Nat.le_of_ble_eq_true rfl⟩, ⟨Nat.le_of_ble_eq_true rfl, Nat.le_of_ble_eq_true rfl⟩⟩ hz_a0 hk_a0 (by decide) rfl rfl hl.1 rfl (Nat.le_of_ble_eq_true rfl) dX12_closes_6) rfl rfl (fun x40 H locs M37 R38 J36 hS f34 g35 E39 => ?_)
      have eR38 := Fr.nil g35 rfl
      subst eR38
      obtain ⟨h_x40, p41⟩ := E39
      obtain ⟨x44, k42, h43, q45, z46⟩ := p41
      have k42 : M37 a0 13 = x44 := k42
      refine lv_bipush (v := 93) hx hb dX12_closes_9 (by decide) ?_
      refine lv_icmp_ne (tgt := 64) hx hb dX12_closes_11 (by decide) (fun c48 => ?_) (fun c48 => ?_)
      · have q49 : ¬ x40.toInt = 93 := ti_ne c48
        have k50 : M37 a0 21 = x26 := (Fr.kp (k := 21) f34 hk_a0 rfl).trans k27
        have k51 : M37 lg tx.toNatClampNeg = x28 := (Fr.kpa f34 hk_lg rfl tx.toNatClampNeg).trans k29
        have q52 : nx.toInt ≤ x44.toInt ∧ x44.toInt ≤ tp.toInt ∧ x26.toInt ≤ on.toInt ∧ x28.toInt + x26.toInt ≤ x44.toInt ∧ le.toInt ≤ x28.toInt := by
          have := (h_le).1; have := (h_le).2; have := (h_md).1; have := (h_md).2; have := (h_nx).1; have := (h_nx).2; have := (h_on).1; have := (h_on).2; have := (h_tp).1; have := (h_tp).2; have := (h_tx).1; have := (h_tx).2; have := (h11).1; have := (h11).2; have := (h12).1; have := (h12).2; have := (h_x24).1; have := (h_x24).2; have := (h_x26).1; have := (h_x26).2; have := (h_x28).1; have := (h_x28).2; have := (h_x40).1; have := (h_x40).2; have := (h43).1; have := (h43).2; omega
        exact tw_endv hx hb hr hlocks hK hT hS hQ (⟨x44, x26, x28, k42, k50, k51, h43, h_x26, h_x28, q52, (SEG.to w1_19 (fun j _ _ => Fr.kpa f34 hk_sg rfl j)), (fun j hj => (Fr.kpa f34 hk_sg rfl j).trans (w2_19 j hj))⟩) dX12_closes_64
      · have q53 : x40.toInt = 93 := ti_eq c48
        have h54 : iv 93 93 x40 := ⟨by have := (h_x40).1; have := ((iv_c (c := 93) (n := 93) (by decide))).1; omega, by have := (h_x40).2; have := ((iv_c (c := 93) (n := 93) (by decide))).2; omega⟩
        refine lv_aload_n hx hb dX12_closes_14 rfl (lv_at hl 0 rfl) ?_
        have k55 : R20 a0 20 = some op := (Fr.kp (k := 20) g23 hk_a0 rfl).trans k_op
        have k56 : M37 a0 21 = x26 := (Fr.kp (k := 21) f34 hk_a0 rfl).trans k27
        refine tw_goi hS (md_runV (As := []) (rest := []) hx hb hml hown hW hK hT hS.1 (t_X12_isInside l D cy tx base Z K N M37 R20 J36 hS.2.1 a0 hz_a0 hk_a0 op k55 x26 k56 (iv_mono h_x26 (by decide) (by decide))) s_X12_230 ⟨rfl, rfl, ⟨Nat.le_of_ble_eq_true rfl, Nat.le_of_ble_eq_true rfl⟩, ⟨Nat.le_of_ble_eq_true rfl, Nat.le_of_ble_eq_true rfl⟩⟩ hz_a0 hk_a0 (by decide) rfl rfl hl.1 rfl (Nat.le_of_ble_eq_true rfl) dX12_closes_15) rfl rfl (fun x63 H locs M60 R61 J59 hS f57 g58 E62 => ?_)
        have eM60 := Fr.nil f57 rfl
        subst eM60
        have eR61 := Fr.nil g58 rfl
        subst eR61
        obtain ⟨h_x63, p64⟩ := E62
        refine lv_if_eq (tgt := 64) hx hb dX12_closes_18 (by decide) (fun c65 => ?_) (fun c65 => ?_)
        · have q66 : x63.toInt = 0 := ti_eq c65
          have z67 := p64.1 c65
          have h68 : iv 0 0 x63 := ⟨by have := (h_x63).1; have := ((iv_c (c := 0) (n := 0) (by decide))).1; omega, by have := (h_x63).2; have := ((iv_c (c := 0) (n := 0) (by decide))).2; omega⟩
          have k69 : M37 lg tx.toNatClampNeg = x28 := (Fr.kpa f34 hk_lg rfl tx.toNatClampNeg).trans k29
          have q70 : nx.toInt ≤ x44.toInt ∧ x44.toInt ≤ tp.toInt ∧ x26.toInt ≤ on.toInt ∧ x28.toInt + x26.toInt ≤ x44.toInt ∧ le.toInt ≤ x28.toInt := by
            have := (h_le).1; have := (h_le).2; have := (h_md).1; have := (h_md).2; have := (h_nx).1; have := (h_nx).2; have := (h_on).1; have := (h_on).2; have := (h_tp).1; have := (h_tp).2; have := (h_tx).1; have := (h_tx).2; have := (h11).1; have := (h11).2; have := (h12).1; have := (h12).2; have := (h_x24).1; have := (h_x24).2; have := (h_x26).1; have := (h_x26).2; have := (h_x28).1; have := (h_x28).2; have := (h54).1; have := (h54).2; have := (h43).1; have := (h43).2; omega
          exact tw_endv hx hb hr hlocks hK hT hS hQ (⟨x44, x26, x28, k42, k56, k69, h43, h_x26, h_x28, q70, (SEG.to w1_19 (fun j _ _ => Fr.kpa f34 hk_sg rfl j)), (fun j hj => (Fr.kpa f34 hk_sg rfl j).trans (w2_19 j hj))⟩) dX12_closes_64
        · have q71 : ¬ x63.toInt = 0 := ti_ne c65
          have h72 : iv 1 1 x63 := ⟨by have := (h_x63).1; have := ((iv_c (c := 0) (n := 0) (by decide))).1; have := ((iv_c (c := 0) (n := 0) (by decide))).2; omega, by have := (h_x63).2; have := ((iv_c (c := 0) (n := 0) (by decide))).1; have := ((iv_c (c := 0) (n := 0) (by decide))).2; omega⟩
          have z73 := p64.2 c65
          refine lv_aload_n hx hb dX12_closes_21 rfl (lv_at hl 0 rfl) ?_
          refine lv_iconst (v := 1) hx hb dX12_closes_22 (by decide) ?_
          have k74 : R20 a0 4 = some lg := (Fr.kp (k := 4) g23 hk_a0 rfl).trans k_lg
          have k75 : R20 a0 3 = some sg := (Fr.kp (k := 3) g23 hk_a0 rfl).trans k_sg
          have k76 : M37 a0 16 = tx := ((Fr.kp (k := 16) f34 hk_a0 rfl).trans (Fr.kp (k := 16) f22 hk_a0 rfl)).trans k_tx
          have k77 : M37 lg tx.toNatClampNeg = x28 := (Fr.kpa f34 hk_lg rfl tx.toNatClampNeg).trans k29
          have k78 : M37 a0 17 = md := ((Fr.kp (k := 17) f34 hk_a0 rfl).trans (Fr.kp (k := 17) f22 hk_a0 rfl)).trans k_md
          have k79 : R20 a0 20 = some op := (Fr.kp (k := 20) g23 hk_a0 rfl).trans k_op
          have q80 : ((sb : Nat) : Int) ≤ x28.toInt := by
            have := (h_le).1; have := (h_le).2; have := (h_md).1; have := (h_md).2; have := (h_nx).1; have := (h_nx).2; have := (h_on).1; have := (h_on).2; have := (h_tp).1; have := (h_tp).2; have := (h_tx).1; have := (h_tx).2; have := (h11).1; have := (h11).2; have := (h12).1; have := (h12).2; have := (h_x24).1; have := (h_x24).2; have := (h_x26).1; have := (h_x26).2; have := (h_x28).1; have := (h_x28).2; have := (h43).1; have := (h43).2; omega
          have q81 : ((nbo Ma op x26.toNatClampNeg + 1 : Nat) : Int) ≤ md.toInt := by
            have := (h_le).1; have := (h_le).2; have := (h_md).1; have := (h_md).2; have := (h_nx).1; have := (h_nx).2; have := (h_on).1; have := (h_on).2; have := (h_tp).1; have := (h_tp).2; have := (h_tx).1; have := (h_tx).2; have := (h11).1; have := (h11).2; have := (h12).1; have := (h12).2; have := (h_x24).1; have := (h_x24).2; have := (h_x26).1; have := (h_x26).2; have := (h_x28).1; have := (h_x28).2; have := (h43).1; have := (h43).2; omega
          have q82 : x28.toInt + x26.toInt ≤ x44.toInt := by
            have := (h_le).1; have := (h_le).2; have := (h_md).1; have := (h_md).2; have := (h_nx).1; have := (h_nx).2; have := (h_on).1; have := (h_on).2; have := (h_tp).1; have := (h_tp).2; have := (h_tx).1; have := (h_tx).2; have := (h11).1; have := (h11).2; have := (h12).1; have := (h12).2; have := (h_x24).1; have := (h_x24).2; have := (h_x26).1; have := (h_x26).2; have := (h_x28).1; have := (h_x28).2; have := (h54).1; have := (h54).2; have := (h43).1; have := (h43).2; omega
          have zb82 := ti_cl (x := x26) (by have := (h_x26).1; omega); have zq82 := ti_cl (x := on) (by have := h_on.1; omega)
          refine tw_gov hS (md_runV (As := [.int 1]) (rest := []) hx hb hml hown hW hK hT hS.1 (t_X12_settles l D cy tx base Z K N M37 R20 J59 hS.2.1 a0 hz_a0 hk_a0 1 (iv_mono (iv_c (c := 1) (n := 1) (by decide)) (by decide) (by decide)) x44 k42 (iv_mono h43 (by decide) (by decide)) lg k74 sg k75 tx k76 (iv_mono h_tx (by decide) (by decide)) x28 k77 (iv_mono h_x28 (by decide) (by decide)) md k78 (iv_mono h_md (by decide) (by decide)) op k79 x26 k56 (iv_mono h_x26 (by decide) (by decide)) (sb) (nbo Ma op x26.toNatClampNeg + 1) (SEG.to w1_19 (fun j _ _ => Fr.kpa f34 hk_sg rfl j)) q80 q81 q82 (opK.to (opK.less hopk (show x26.toNatClampNeg ≤ on.toNatClampNeg by omega)) (fun j _ => Fr.kpa hS.2.2.1 hk_op rfl j)) (by rw [nbo_to _ (fun j _ => Fr.kpa hS.2.2.1 hk_op rfl j)])) s_X12_227 ⟨rfl, rfl, ⟨Nat.le_of_ble_eq_true rfl, Nat.le_of_ble_eq_true rfl⟩, ⟨Nat.le_of_ble_eq_true rfl, Nat.le_of_ble_eq_true rfl⟩⟩ hz_a0 hk_a0 (by decide) rfl rfl hl.1 rfl (Nat.le_of_ble_eq_true rfl) dX12_closes_23) rfl rfl (fun H locs M86 R87 J85 hS f83 g84 E88 => ?_)
          have eR87 := Fr.nil g84 rfl
          subst eR87
          have p89 := E88
          obtain ⟨x92, x93, k94, k95, h90, h91, zr89, zg89, zf89, zz89, zl89⟩ := p89
          have k94 : M86 a0 21 = x92 := k94
          have k95 : M86 lg tx.toNatClampNeg = x93 := k95
          have zw89 := ti_cl (x := le) (by have := h_le.1; omega); have zy89 := ti_cl (x := x28) (by have := (h_x28).1; omega)
          have z96 : ∀ j, j < 400 * tx.toNatClampNeg + le.toNatClampNeg → M86 sg j = Ma sg j := fun j hj => (zf89 j (by omega)).trans ((fun j hj => (Fr.kpa f34 hk_sg rfl j).trans (w2_19 j hj)) j hj)
          have z97 : SEG M86 sg tx.toNatClampNeg sb x93.toNatClampNeg (nbo Ma op x92.toNatClampNeg + 1) := SEG.cast zg89 rfl (by rw [nbo_to _ (fun j _ => (Fr.kpa f83 hk_op rfl j).symm.trans (Fr.kpa hS.2.2.1 hk_op rfl j))])
          have zb89 := ti_cl (x := x92) (by have := (h90).1; omega); have zc89 := ti_cl (x := x26) (by have := (h_x26).1; omega)
          obtain ⟨j89, zj89, zk89⟩ := z73
          have zn89 : j89 < x92.toNatClampNeg := Nat.not_le.mp (fun q => zz89 j89 q zj89 zk89)
          have h98 : iv 1 400 x92 := ⟨by omega, (h90).2⟩
          obtain ⟨k89, zu89, zv89⟩ := (zl89.resolve_left (by omega)).resolve_left (fun q => q (by decide))
          have zv89 : Ma op k89 = 91 := ((Fr.kpa f83 hk_op rfl _).symm.trans (Fr.kpa hS.2.2.1 hk_op rfl _)).symm.trans zv89
          refine lv_aload_n hx hb dX12_closes_26 rfl (lv_at hl 0 rfl) ?_
          refine lv_dup hx hb dX12_closes_27 rfl ?_
          refine tw_getk hx hb hW hown hK hS f_X12_188_11 hz_a0 hk_a0 (v := x92) k94 dX12_closes_28 ?_
          refine lv_iconst (v := 1) hx hb dX12_closes_31 (by decide) ?_
          refine tw_isub (lo := 0) (hi := 399) hx hb h98 (iv_c (c := 1) (n := 1) (by decide)) ⟨by decide, by decide⟩ ⟨by decide, by decide⟩ dX12_closes_32 (fun x101 e100 h99 => ?_)
          have e100 : x101.toInt = x92.toInt - 1 := e100
          refine tw_puti hx hb hW hown hK hS f_X12_188_11 hz_a0 hk_a0 rfl rfl (lo := 0) (hi := 400) rfl (iv_mono h99 (by decide) (by decide)) rfl dX12_closes_33 (fun H locs M104 hS k102 f103 => ?_)
          have zd89 := ti_cl (x := x101) (by have := (h99).1; omega)
          have ze89 := nbo_top (M := Ma) (op := op) (x := x101.toNatClampNeg) (t := x92.toNatClampNeg) (by omega) (by rw [show x101.toNatClampNeg = k89 by omega, zv89]; decide)
          have z105 : SEG M104 sg tx.toNatClampNeg sb x93.toNatClampNeg (nbo Ma op x101.toNatClampNeg + 1) := SEG.cast (SEG.to z97 (fun j _ _ => Fr.kpa f103 hk_sg rfl j)) rfl (by rw [ze89])
          refine lv_aload_n hx hb dX12_closes_36 rfl (lv_at hl 0 rfl) ?_
          refine lv_dup hx hb dX12_closes_37 rfl ?_
          refine tw_geti hx hb hW hown hK hS f_X12_185_11 hz_a0 hk_a0 (lo := (-2147483648)) (hi := 2147483647) rfl dX12_closes_38 (fun x108 k107 h106 => ?_)
          refine lv_iconst (v := 1) hx hb dX12_closes_41 (by decide) ?_
          refine lv_isub hx hb dX12_closes_42 ?_
          refine tw_top (fun x110 => ?_)
          have h109 := iv_any x110
          refine tw_puti hx hb hW hown hK hS f_X12_185_11 hz_a0 hk_a0 rfl rfl (lo := (-2147483648)) (hi := 2147483647) rfl h109 rfl dX12_closes_43 (fun H locs M113 hS k111 f112 => ?_)
          refine lv_aload_n hx hb dX12_closes_46 rfl (lv_at hl 0 rfl) ?_
          refine lv_dup hx hb dX12_closes_47 rfl ?_
          have k114 : M113 a0 13 = x44 := ((Fr.kp (k := 13) f112 hk_a0 rfl).trans ((Fr.kp (k := 13) f103 hk_a0 rfl).trans (Fr.kp (k := 13) f83 hk_a0 rfl))).trans k42
          refine tw_getk hx hb hW hown hK hS f_X12_127_11 hz_a0 hk_a0 (v := x44) k114 dX12_closes_48 ?_
          refine lv_iconst (v := 1) hx hb dX12_closes_51 (by decide) ?_
          refine tw_iadd (lo := 1) (hi := 401) hx hb h43 (iv_c (c := 1) (n := 1) (by decide)) ⟨by decide, by decide⟩ ⟨by decide, by decide⟩ dX12_closes_52 (fun x117 e116 h115 => ?_)
          have e116 : x117.toInt = x44.toInt + 1 := e116
          have h120 : iv 0 400 x117 := by
            have := (h_le).1; have := (h_le).2; have := (h_md).1; have := (h_md).2; have := (h_nx).1; have := (h_nx).2; have := (h_on).1; have := (h_on).2; have := (h_tp).1; have := (h_tp).2; have := (h_tx).1; have := (h_tx).2; have := (h115).1; have := (h115).2; have := (h11).1; have := (h11).2; have := (h12).1; have := (h12).2; have := (h_x24).1; have := (h_x24).2; have := (h_x26).1; have := (h_x26).2; have := (h_x28).1; have := (h_x28).2; have := (h54).1; have := (h54).2; have := (h43).1; have := (h43).2; have := (h98).1; have := (h98).2; have := (h91).1; have := (h91).2; exact ⟨by omega, by omega⟩
          refine tw_puti hx hb hW hown hK hS f_X12_127_11 hz_a0 hk_a0 rfl rfl (lo := 0) (hi := 400) rfl h120 rfl dX12_closes_53 (fun H locs M121 hS k118 f119 => ?_)
          refine lv_aload_n hx hb dX12_closes_56 rfl (lv_at hl 0 rfl) ?_
          refine lv_iconst (v := 3) hx hb dX12_closes_57 (by decide) ?_
          have h122 : iv 0 400 x117 := by
            have := (h_le).1; have := (h_le).2; have := (h_md).1; have := (h_md).2; have := (h_nx).1; have := (h_nx).2; have := (h_on).1; have := (h_on).2; have := (h_tp).1; have := (h_tp).2; have := (h_tx).1; have := (h_tx).2; have := (h115).1; have := (h115).2; have := (h11).1; have := (h11).2; have := (h12).1; have := (h12).2; have := (h_x24).1; have := (h_x24).2; have := (h_x26).1; have := (h_x26).2; have := (h_x28).1; have := (h_x28).2; have := (h54).1; have := (h54).2; have := (h43).1; have := (h43).2; have := (h98).1; have := (h98).2; have := (h91).1; have := (h91).2; exact ⟨by omega, by omega⟩
          have k123 : R20 a0 4 = some lg := (Fr.kp (k := 4) g23 hk_a0 rfl).trans k_lg
          have k124 : R20 a0 3 = some sg := (Fr.kp (k := 3) g23 hk_a0 rfl).trans k_sg
          have k125 : M121 a0 16 = tx := ((Fr.kp (k := 16) f119 hk_a0 rfl).trans ((Fr.kp (k := 16) f112 hk_a0 rfl).trans ((Fr.kp (k := 16) f103 hk_a0 rfl).trans ((Fr.kp (k := 16) f83 hk_a0 rfl).trans ((Fr.kp (k := 16) f34 hk_a0 rfl).trans (Fr.kp (k := 16) f22 hk_a0 rfl)))))).trans k_tx
          have k126 : M121 lg tx.toNatClampNeg = x93 := ((Fr.kpa f119 hk_lg rfl tx.toNatClampNeg).trans ((Fr.kpa f112 hk_lg rfl tx.toNatClampNeg).trans (Fr.kpa f103 hk_lg rfl tx.toNatClampNeg))).trans k95
          have k127 : M121 a0 17 = md := ((Fr.kp (k := 17) f119 hk_a0 rfl).trans ((Fr.kp (k := 17) f112 hk_a0 rfl).trans ((Fr.kp (k := 17) f103 hk_a0 rfl).trans ((Fr.kp (k := 17) f83 hk_a0 rfl).trans ((Fr.kp (k := 17) f34 hk_a0 rfl).trans (Fr.kp (k := 17) f22 hk_a0 rfl)))))).trans k_md
          have k128 : R20 a0 20 = some op := (Fr.kp (k := 20) g23 hk_a0 rfl).trans k_op
          have k129 : M121 a0 21 = x101 := ((Fr.kp (k := 21) f119 hk_a0 rfl).trans (Fr.kp (k := 21) f112 hk_a0 rfl)).trans k102
          have q130 : ((sb : Nat) : Int) ≤ x93.toInt := by
            have := (h_le).1; have := (h_le).2; have := (h_md).1; have := (h_md).2; have := (h_nx).1; have := (h_nx).2; have := (h_on).1; have := (h_on).2; have := (h_tp).1; have := (h_tp).2; have := (h_tx).1; have := (h_tx).2; have := (h99).1; have := (h99).2; have := (h11).1; have := (h11).2; have := (h12).1; have := (h12).2; have := (h_x24).1; have := (h_x24).2; have := (h_x26).1; have := (h_x26).2; have := (h_x28).1; have := (h_x28).2; have := (h43).1; have := (h43).2; have := (h98).1; have := (h98).2; have := (h91).1; have := (h91).2; omega
          have q131 : ((nbo Ma op x101.toNatClampNeg + 1 : Nat) : Int) ≤ md.toInt := by
            have := (h_le).1; have := (h_le).2; have := (h_md).1; have := (h_md).2; have := (h_nx).1; have := (h_nx).2; have := (h_on).1; have := (h_on).2; have := (h_tp).1; have := (h_tp).2; have := (h_tx).1; have := (h_tx).2; have := (h99).1; have := (h99).2; have := (h11).1; have := (h11).2; have := (h12).1; have := (h12).2; have := (h_x24).1; have := (h_x24).2; have := (h_x26).1; have := (h_x26).2; have := (h_x28).1; have := (h_x28).2; have := (h43).1; have := (h43).2; have := (h98).1; have := (h98).2; have := (h91).1; have := (h91).2; omega
          have q132 : x93.toInt + x101.toInt ≤ x117.toInt := by
            have := (h_le).1; have := (h_le).2; have := (h_md).1; have := (h_md).2; have := (h_nx).1; have := (h_nx).2; have := (h_on).1; have := (h_on).2; have := (h_tp).1; have := (h_tp).2; have := (h_tx).1; have := (h_tx).2; have := (h99).1; have := (h99).2; have := (h115).1; have := (h115).2; have := (h11).1; have := (h11).2; have := (h12).1; have := (h12).2; have := (h_x24).1; have := (h_x24).2; have := (h_x26).1; have := (h_x26).2; have := (h_x28).1; have := (h_x28).2; have := (h54).1; have := (h54).2; have := (h43).1; have := (h43).2; have := (h98).1; have := (h98).2; have := (h91).1; have := (h91).2; omega
          have zb132 := ti_cl (x := x101) (by have := (h99).1; omega); have zq132 := ti_cl (x := on) (by have := h_on.1; omega)
          refine tw_gov hS (md_runV (As := [.int 3]) (rest := []) hx hb hml hown hW hK hT hS.1 (t_X12_settles l D cy tx base Z K N M121 R20 J85 hS.2.1 a0 hz_a0 hk_a0 3 (iv_mono (iv_c (c := 3) (n := 3) (by decide)) (by decide) (by decide)) x117 k118 h122 lg k123 sg k124 tx k125 (iv_mono h_tx (by decide) (by decide)) x93 k126 (iv_mono h91 (by decide) (by decide)) md k127 (iv_mono h_md (by decide) (by decide)) op k128 x101 k129 (iv_mono h99 (by decide) (by decide)) (sb) (nbo Ma op x101.toNatClampNeg + 1) (SEG.to (SEG.to z105 (fun j _ _ => Fr.kpa f112 hk_sg rfl j)) (fun j _ _ => Fr.kpa f119 hk_sg rfl j)) q130 q131 q132 (opK.to (opK.less hopk (show x101.toNatClampNeg ≤ on.toNatClampNeg by omega)) (fun j _ => Fr.kpa hS.2.2.1 hk_op rfl j)) (by rw [nbo_to _ (fun j _ => Fr.kpa hS.2.2.1 hk_op rfl j)])) s_X12_227 ⟨rfl, rfl, ⟨Nat.le_of_ble_eq_true rfl, Nat.le_of_ble_eq_true rfl⟩, ⟨Nat.le_of_ble_eq_true rfl, Nat.le_of_ble_eq_true rfl⟩⟩ hz_a0 hk_a0 (by decide) rfl rfl hl.1 rfl (Nat.le_of_ble_eq_true rfl) dX12_closes_58) rfl rfl (fun H locs M136 R137 J135 hS f133 g134 E138 => ?_)
          have eR137 := Fr.nil g134 rfl
          subst eR137
          have p139 := E138
          obtain ⟨x142, x143, k144, k145, h140, h141, zr139, zg139, zf139, zz139, zl139⟩ := p139
          have k144 : M136 a0 21 = x142 := k144
          have k145 : M136 lg tx.toNatClampNeg = x143 := k145
          have zw139 := ti_cl (x := le) (by have := h_le.1; omega); have zy139 := ti_cl (x := x93) (by have := (h91).1; omega)
          have z146 : ∀ j, j < 400 * tx.toNatClampNeg + le.toNatClampNeg → M136 sg j = Ma sg j := fun j hj => (zf139 j (by omega)).trans ((fun j hj => (Fr.kpa f119 hk_sg rfl j).trans ((fun j hj => (Fr.kpa f112 hk_sg rfl j).trans ((fun j hj => (Fr.kpa f103 hk_sg rfl j).trans (z96 j hj)) j hj)) j hj)) j hj)
          have z147 : SEG M136 sg tx.toNatClampNeg sb x143.toNatClampNeg (nbo Ma op x142.toNatClampNeg + 1) := SEG.cast zg139 rfl (by rw [nbo_to _ (fun j _ => (Fr.kpa f133 hk_op rfl j).symm.trans (Fr.kpa hS.2.2.1 hk_op rfl j))])
          refine lv_goto (tgt := 5) hx hb dX12_closes_61 (by decide) ?_
          have k148 : M136 a0 13 = x117 := (Fr.kp (k := 13) f133 hk_a0 rfl).trans k118
          have w149 : nx.toInt ≤ x117.toInt ∧ x117.toInt ≤ tp.toInt ∧ x142.toInt ≤ on.toInt ∧ x143.toInt + x142.toInt ≤ x117.toInt ∧ le.toInt ≤ x143.toInt := by
            have := (h_le).1; have := (h_le).2; have := (h_md).1; have := (h_md).2; have := (h_nx).1; have := (h_nx).2; have := (h_on).1; have := (h_on).2; have := (h_tp).1; have := (h_tp).2; have := (h_tx).1; have := (h_tx).2; have := (h99).1; have := (h99).2; have := (h115).1; have := (h115).2; have := (h11).1; have := (h11).2; have := (h12).1; have := (h12).2; have := (h140).1; have := (h140).2; have := (h141).1; have := (h141).2; have := (h_x24).1; have := (h_x24).2; have := (h_x26).1; have := (h_x26).2; have := (h_x28).1; have := (h_x28).2; have := (h54).1; have := (h54).2; have := (h43).1; have := (h43).2; have := (h98).1; have := (h98).2; have := (h91).1; have := (h91).2; omega
          have w150 : SEG M136 sg tx.toNatClampNeg sb x143.toNatClampNeg (nbo Ma op x142.toNatClampNeg + 1) := z147
          have w151 : ∀ j, j < 400 * tx.toNatClampNeg + le.toNatClampNeg → M136 sg j = Ma sg j := z146
          have hm152 : 400 - x117.toInt < (n_19 : Int) := by
            have := (h_le).1; have := (h_le).2; have := (h_md).1; have := (h_md).2; have := (h_nx).1; have := (h_nx).2; have := (h_on).1; have := (h_on).2; have := (h_tp).1; have := (h_tp).2; have := (h_tx).1; have := (h_tx).2; have := (h115).1; have := (h115).2; have := (h11).1; have := (h11).2; have := (h12).1; have := (h12).2; have := (h_x24).1; have := (h_x24).2; have := (h_x26).1; have := (h_x26).2; have := (h_x28).1; have := (h_x28).2; have := (h54).1; have := (h54).2; have := (h43).1; have := (h43).2; have := (h98).1; have := (h98).2; have := (h91).1; have := (h91).2; omega
          exact ih_19 x117 x142 x143 M136 R20 J135 H locs _ (iv_mono h115 (by decide) (by decide)) k148 h140 k144 h141 k145 w149 w150 w151 hm152 hS hl
  have k153 : M7 a0 13 = nx := (Fr.kp (k := 13) f4 hk_a0 rfl).trans k_nx
  have w154 : nx.toInt ≤ nx.toInt ∧ nx.toInt ≤ tp.toInt ∧ x13.toInt ≤ on.toInt ∧ x14.toInt + x13.toInt ≤ nx.toInt ∧ le.toInt ≤ x14.toInt := by
    have := (h_le).1; have := (h_le).2; have := (h_md).1; have := (h_md).2; have := (h_nx).1; have := (h_nx).2; have := (h_on).1; have := (h_on).2; have := (h_tp).1; have := (h_tp).2; have := (h_tx).1; have := (h_tx).2; have := (h11).1; have := (h11).2; have := (h12).1; have := (h12).2; omega
  have w155 : SEG M7 sg tx.toNatClampNeg sb x14.toNatClampNeg (nbo Ma op x13.toNatClampNeg + 1) := z18
  have w156 : ∀ j, j < 400 * tx.toNatClampNeg + le.toNatClampNeg → M7 sg j = Ma sg j := z17
  have hm157 : 400 - nx.toInt < (((401 : Nat) : Int) : Int) := by
    have := (h_le).1; have := (h_le).2; have := (h_md).1; have := (h_md).2; have := (h_nx).1; have := (h_nx).2; have := (h_on).1; have := (h_on).2; have := (h_tp).1; have := (h_tp).2; have := (h_tx).1; have := (h_tx).2; omega
  exact W5_19 401 nx x13 x14 M7 Ra J6 H locs _ (iv_mono h_nx (by decide) (by decide)) k153 h11 k15 h12 k16 w154 w155 w156 hm157 hS hl
def Lt_X12_makes : WL := [(12, 14, 15), (12, 17, 18)]
def LRt_X12_makes : WL := []
set_option maxRecDepth 100000 in
set_option maxHeartbeats 4000000 in
theorem t_X12_makes (l : Launch) (D : va_G) (cy : Nat → ClassId) (tx : (Nat → Nat) × (Nat → Nat)) (base Z : Nat) (K N : Nat → Nat) (Ma : MT) (Ra : RT) (Ja : JT) (hTy : Ty Z K N Ma Ra) (a0 : Nat) (hz_a0 : a0 < Z) (hk_a0 : K a0 = 12) (a1 : Int32) (h_a1 : iv 0 400 a1) (md : Int32) (k_md : Ma a0 17 = md) (h_md : iv 0 60 md) : Met l yX12_makes [Cond.code yX12_makes cX12_makes 2 (some .boolean)] (md_rm 2 0 0) (va_Pc [.ref (base + a0), .int a1] (md_U D cy tx base Z K N Ma Ra Ja)) (mQi D cy tx base (fun r u => TP Z K N Lt_X12_makes LRt_X12_makes Ma Ra u ∧ (iv 0 1 r ∧ (∃ x0 : Int32, u.2.2.2.1 a0 17 = x0 ∧ iv 0 60 x0 ∧ (r.toInt = 0 ∨ x0.toInt = md.toInt + 1))))) 0 0 (fun q => base ≤ q) := by
  refine tw_ofW (L := Lt_X12_makes) (LR := LRt_X12_makes) (by decide) (Nat.le_of_ble_eq_true rfl) hTy ?_
  intro p e s m args below meth c Q ls hx hb hr hlocks hown hml hW hK hT hS hQ hl
  have hl : lv_has ls 2 [(0, .ref (base + a0)), (1, .int a1)] := hl
  refine lv_aload_n hx hb dX12_makes_0 rfl (lv_at hl 0 rfl) ?_
  refine tw_getk hx hb hW hown hK hS f_X12_182_11 hz_a0 hk_a0 (v := md) k_md dX12_makes_1 ?_
  refine lv_bipush (v := 60) hx hb dX12_makes_4 (by decide) ?_
  refine lv_icmp_ne (tgt := 16) hx hb dX12_makes_6 (by decide) (fun c1 => ?_) (fun c1 => ?_)
  · have q2 : ¬ md.toInt = 60 := ti_ne c1
    have h3 : iv 0 59 md := ⟨by have := (h_md).1; have := ((iv_c (c := 60) (n := 60) (by decide))).1; have := ((iv_c (c := 60) (n := 60) (by decide))).2; omega, by have := (h_md).2; have := ((iv_c (c := 60) (n := 60) (by decide))).1; have := ((iv_c (c := 60) (n := 60) (by decide))).2; omega⟩
    refine lv_aload_n hx hb dX12_makes_16 rfl (lv_at hl 0 rfl) ?_
    refine lv_dup hx hb dX12_makes_17 rfl ?_
    refine tw_getk hx hb hW hown hK hS f_X12_182_11 hz_a0 hk_a0 (v := md) k_md dX12_makes_18 ?_
    refine lv_iconst (v := 1) hx hb dX12_makes_21 (by decide) ?_
    refine tw_iadd (lo := 1) (hi := 60) hx hb h3 (iv_c (c := 1) (n := 1) (by decide)) ⟨by decide, by decide⟩ ⟨by decide, by decide⟩ dX12_makes_22 (fun x6 e5 h4 => ?_)
    have e5 : x6.toInt = md.toInt + 1 := e5
    refine tw_puti hx hb hW hown hK hS f_X12_182_11 hz_a0 hk_a0 rfl rfl (lo := 0) (hi := 60) rfl (iv_mono h4 (by decide) (by decide)) rfl dX12_makes_23 (fun H locs M9 hS k7 f8 => ?_)
    refine lv_iconst (v := 1) hx hb dX12_makes_26 (by decide) ?_
    have q10 : (1 : Int32).toInt = 0 ∨ x6.toInt = md.toInt + 1 := by
      have := (h_a1).1; have := (h_a1).2; have := (h3).1; have := (h3).2; have := (h4).1; have := (h4).2; have : (1 : Int32).toInt = 1 := (by decide); omega
    exact tw_endz hx hb hr hlocks hK hT hS hQ rfl (⟨(iv_mono (iv_c (c := 1) (n := 1) (by decide)) (by decide) (by decide)), ⟨x6, k7, (iv_mono h4 (by decide) (by decide)), q10⟩⟩) dX12_makes_27
  · have q11 : md.toInt = 60 := ti_eq c1
    have h12 : iv 60 60 md := ⟨by have := (h_md).1; have := ((iv_c (c := 60) (n := 60) (by decide))).1; omega, by have := (h_md).2; have := ((iv_c (c := 60) (n := 60) (by decide))).2; omega⟩
    refine lv_aload_n hx hb dX12_makes_9 rfl (lv_at hl 0 rfl) ?_
    refine lv_iconst (v := 3) hx hb dX12_makes_10 (by decide) ?_
    refine lv_iload_n hx hb dX12_makes_11 rfl (lv_at hl 1 rfl) ?_
    refine tw_goi hS (md_runV (As := [.int 3, .int a1]) (rest := []) hx hb hml hown hW hK hT hS.1 (t_X12_fails l D cy tx base Z K N Ma Ra Ja hS.2.1 a0 hz_a0 hk_a0 3 (iv_mono (iv_c (c := 3) (n := 3) (by decide)) (by decide) (by decide)) a1 h_a1) s_X12_148 ⟨rfl, rfl, ⟨Nat.le_of_ble_eq_true rfl, Nat.le_of_ble_eq_true rfl⟩, ⟨Nat.le_of_ble_eq_true rfl, Nat.le_of_ble_eq_true rfl⟩⟩ hz_a0 hk_a0 (by decide) rfl rfl hl.1 rfl (Nat.le_of_ble_eq_true rfl) dX12_makes_12) rfl rfl (fun x19 H locs M16 R17 J15 hS f13 g14 E18 => ?_)
    have eR17 := Fr.nil g14 rfl
    subst eR17
    have h_x19 := E18
    have k20 : M16 a0 17 = md := (Fr.kp (k := 17) f13 hk_a0 rfl).trans k_md
    have q21 : x19.toInt = 0 ∨ md.toInt = md.toInt + 1 := by
      have := (h_a1).1; have := (h_a1).2; have := (h12).1; have := (h12).2; have := (h_x19).1; have := (h_x19).2; omega
    exact tw_endz hx hb hr hlocks hK hT hS hQ (nar_b (iv_mono h_x19 (by decide) (by decide))) (⟨(iv_mono h_x19 (by decide) (by decide)), ⟨md, k20, (iv_mono h12 (by decide) (by decide)), q21⟩⟩) dX12_makes_15
def Lt_X12_isDigit : WL := []
def LRt_X12_isDigit : WL := []
set_option maxRecDepth 100000 in
set_option maxHeartbeats 4000000 in
theorem t_X12_isDigit (l : Launch) (D : va_G) (cy : Nat → ClassId) (tx : (Nat → Nat) × (Nat → Nat)) (base Z : Nat) (K N : Nat → Nat) (Ma : MT) (Ra : RT) (Ja : JT) (hTy : Ty Z K N Ma Ra) (a0 : Nat) (hz_a0 : a0 < Z) (hk_a0 : K a0 = 12) (a1 : Int32) (h_a1 : iv 0 400 a1) (tb : Nat) (k_tb : Ra a0 0 = some tb) (tp : Int32) (k_tp : Ma a0 1 = tp) (h_tp : iv 0 400 tp) : Met l yX12_isDigit [Cond.code yX12_isDigit cX12_isDigit 2 (some .boolean)] (md_rm 1 0 0) (va_Pc [.ref (base + a0), .int a1] (md_U D cy tx base Z K N Ma Ra Ja)) (mQi D cy tx base (fun r u => TP Z K N Lt_X12_isDigit LRt_X12_isDigit Ma Ra u ∧ (iv 0 1 r ∧ ((¬ r = 0 → chF 48 57 Ma tb a1 tp) ∧ (r = 0 → ¬ chF 48 57 Ma tb a1 tp))))) 0 0 (fun q => base ≤ q) := by
  refine tw_ofW (L := Lt_X12_isDigit) (LR := LRt_X12_isDigit) (by decide) (Nat.le_of_ble_eq_true rfl) hTy ?_
  intro p e s m args below meth c Q ls hx hb hr hlocks hown hml hW hK hT hS hQ hl
  have hl : lv_has ls 2 [(0, .ref (base + a0)), (1, .int a1)] := hl
  obtain ⟨hz_tb, hk_tb, hn_tb⟩ := hTy.refn hz_a0 hk_a0 (show rtR 12 0 = (13, 400, 0) from rfl) k_tb
  have hn_tb := hn_tb (by decide)
  refine lv_iload_n hx hb dX12_isDigit_0 rfl (lv_at hl 1 rfl) ?_
  refine lv_aload_n hx hb dX12_isDigit_1 rfl (lv_at hl 0 rfl) ?_
  refine tw_getk hx hb hW hown hK hS f_X12_116_11 hz_a0 hk_a0 (v := tp) k_tp dX12_isDigit_2 ?_
  refine lv_icmp_ge (tgt := 34) hx hb dX12_isDigit_5 (by decide) (fun c1 => ?_) (fun c1 => ?_)
  · have q2 : tp.toInt ≤ a1.toInt := ti_le c1
    refine lv_iconst (v := 0) hx hb dX12_isDigit_34 (by decide) ?_
    exact tw_endz hx hb hr hlocks hK hT hS hQ rfl (⟨(iv_mono (iv_c (c := 0) (n := 0) (by decide)) (by decide) (by decide)), ⟨fun h => absurd rfl h, fun _ h => by obtain ⟨h1, h2, h3⟩ := h; omega⟩⟩) dX12_isDigit_35
  · have q3 : a1.toInt < tp.toInt := ti_nle c1
    have h4 : iv 0 399 a1 := iv_ltL (y := tp) h_a1 h_tp q3 (by decide)
    have h5 : iv 1 400 tp := iv_gtL (y := a1) h_tp h_a1 q3 (by decide)
    refine lv_aload_n hx hb dX12_isDigit_8 rfl (lv_at hl 0 rfl) ?_
    refine tw_getrk hx hb hW hown hK hS f_X12_7_11 hz_a0 hk_a0 (b := tb) k_tb dX12_isDigit_9 ?_
    refine lv_iload_n hx hb dX12_isDigit_12 rfl (lv_at hl 1 rfl) ?_
    refine tw_bald hx hb hK hS hz_tb hk_tb hn_tb h4 ⟨by decide, by decide⟩ dX12_isDigit_13 (fun x8 k7 => ?_)
    have h6 := iv_any x8
    refine lv_bipush (v := 48) hx hb dX12_isDigit_14 (by decide) ?_
    refine lv_icmp_lt (tgt := 34) hx hb dX12_isDigit_16 (by decide) (fun c9 => ?_) (fun c9 => ?_)
    · have q10 : x8.toInt < 48 := ti_lt c9
      have h11 : iv (-2147483648) 47 x8 := iv_ltL (y := 48) h6 (iv_c (c := 48) (n := 48) (by decide)) q10 (by decide)
      refine lv_iconst (v := 0) hx hb dX12_isDigit_34 (by decide) ?_
      exact tw_endz hx hb hr hlocks hK hT hS hQ rfl (⟨(iv_mono (iv_c (c := 0) (n := 0) (by decide)) (by decide) (by decide)), ⟨fun h => absurd rfl h, fun _ h => by obtain ⟨h1, h2, h3⟩ := h; rw [k7] at h2 h3; omega⟩⟩) dX12_isDigit_35
    · have q12 : 48 ≤ x8.toInt := ti_nlt c9
      have h13 : iv 48 2147483647 x8 := iv_geL (y := 48) h6 (iv_c (c := 48) (n := 48) (by decide)) q12 (by decide)
      refine lv_aload_n hx hb dX12_isDigit_19 rfl (lv_at hl 0 rfl) ?_
      refine tw_getrk hx hb hW hown hK hS f_X12_7_11 hz_a0 hk_a0 (b := tb) k_tb dX12_isDigit_20 ?_
      refine lv_iload_n hx hb dX12_isDigit_23 rfl (lv_at hl 1 rfl) ?_
      refine tw_balk hx hb hK hS hz_tb hk_tb hn_tb h4 ⟨by decide, by decide⟩ (v := x8) k7 dX12_isDigit_24 ?_
      refine lv_bipush (v := 57) hx hb dX12_isDigit_25 (by decide) ?_
      refine lv_icmp_gt (tgt := 34) hx hb dX12_isDigit_27 (by decide) (fun c14 => ?_) (fun c14 => ?_)
      · have q15 : 57 < x8.toInt := ti_lt c14
        have h16 : iv 58 2147483647 x8 := iv_gtL (y := 57) h13 (iv_c (c := 57) (n := 57) (by decide)) q15 (by decide)
        refine lv_iconst (v := 0) hx hb dX12_isDigit_34 (by decide) ?_
        exact tw_endz hx hb hr hlocks hK hT hS hQ rfl (⟨(iv_mono (iv_c (c := 0) (n := 0) (by decide)) (by decide) (by decide)), ⟨fun h => absurd rfl h, fun _ h => by obtain ⟨h1, h2, h3⟩ := h; rw [k7] at h2 h3; omega⟩⟩) dX12_isDigit_35
      · have q17 : x8.toInt ≤ 57 := ti_nlt c14
        have h18 : iv 48 57 x8 := iv_leL (y := 57) h13 (iv_c (c := 57) (n := 57) (by decide)) q17 (by decide)
        refine lv_iconst (v := 1) hx hb dX12_isDigit_30 (by decide) ?_
        refine lv_goto (tgt := 35) hx hb dX12_isDigit_31 (by decide) ?_
        exact tw_endz hx hb hr hlocks hK hT hS hQ rfl (⟨(iv_mono (iv_c (c := 1) (n := 1) (by decide)) (by decide) (by decide)), ⟨fun _ => ⟨by omega, by rw [k7]; omega, by rw [k7]; omega⟩, fun h => absurd h (by decide)⟩⟩) dX12_isDigit_35
