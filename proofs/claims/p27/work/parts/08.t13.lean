def Lt_X12_fits : WL := [(12, 28, 29), (12, 31, 33), (14, 0, 2000000), (30, 0, 2000000)]
def LRt_X12_fits : WL := []
set_option maxRecDepth 100000 in
set_option maxHeartbeats 4000000 in
theorem t_X12_fits (l : Launch) (D : va_G) (cy : Nat → ClassId) (tx : (Nat → Nat) × (Nat → Nat)) (base Z : Nat) (K N : Nat → Nat) (Ma : MT) (Ra : RT) (Ja : JT) (hTy : Ty Z K N Ma Ra) (a0 : Nat) (hz_a0 : a0 < Z) (hk_a0 : K a0 = 12) (a1 : Int32) (h_a1 : iv (-2147483648) 2147483647 a1) (a2 : Int32) (h_a2 : iv (-2147483648) 2147483647 a2) (a3 : Int32) (h_a3 : iv (-2147483648) 2147483647 a3) : Met l yX12_fits [Cond.code yX12_fits cX12_fits 9 (some .int)] (md_rm 6 0 0) (va_Pc [.ref (base + a0), .int a1, .int a2, .int a3] (md_U D cy tx base Z K N Ma Ra Ja)) (mQi D cy tx base (fun r u => TP Z K N Lt_X12_fits LRt_X12_fits Ma Ra u ∧ (iv (-2147483648) 2147483647 r))) 0 0 (fun q => base ≤ q) := by
  refine tw_ofW (L := Lt_X12_fits) (LR := LRt_X12_fits) (by decide) (Nat.le_of_ble_eq_true rfl) hTy ?_
  intro p e s m args below meth c Q ls hx hb hr hlocks hown hml hW hK hT hS hQ hl
  have hl : lv_has ls 9 [(0, .ref (base + a0)), (1, .int a1), (2, .int a2), (3, .int a3)] := hl
  refine lv_aload_n hx hb dX12_fits_0 rfl (lv_at hl 0 rfl) ?_
  refine lv_iload_n hx hb dX12_fits_1 rfl (lv_at hl 1 rfl) ?_
  obtain ⟨b1, k2, hz_b1, hk_b1, hn_b1⟩ := hS.2.1.ref hz_a0 hk_a0 (show rtR 12 25 = (23, 226, 0) from rfl)
  have hn_b1 := hn_b1 (by decide)
  obtain ⟨x5, k3⟩ : ∃ x, Ma b1 (0 : Int32).toNatClampNeg = x := ⟨_, rfl⟩
  have h4 : iv 0 10 x5 := by rw [← k3]; exact hS.2.1.int hz_b1 hk_b1 (show rgI 23 (0 : Int32).toNatClampNeg = (0, 10) from rfl)
  refine tw_goi hS (md_runV (As := [.int a1]) (rest := []) hx hb hml hown hW hK hT hS.1 (t_X12_canFit l D cy tx base Z K N Ma Ra Ja hS.2.1 a0 hz_a0 hk_a0 a1 h_a1 b1 k2 x5 k3 (iv_mono h4 (by decide) (by decide))) s_X12_486 ⟨rfl, rfl, ⟨Nat.le_of_ble_eq_true rfl, Nat.le_of_ble_eq_true rfl⟩, ⟨Nat.le_of_ble_eq_true rfl, Nat.le_of_ble_eq_true rfl⟩⟩ hz_a0 hk_a0 (by decide) rfl rfl hl.1 rfl (Nat.le_of_ble_eq_true rfl) dX12_fits_2) rfl rfl (fun x12 H locs M9 R10 J8 hS f6 g7 E11 => ?_)
  have eM9 := Fr.nil f6 rfl
  subst eM9
  have eR10 := Fr.nil g7 rfl
  subst eR10
  obtain ⟨h_x12, p13, p14⟩ := E11
  refine lv_if_eq (tgt := 28) hx hb dX12_fits_5 (by decide) (fun c15 => ?_) (fun c15 => ?_)
  · have q16 : x12.toInt = 0 := ti_eq c15
    have h17 : iv 0 0 x12 := ⟨by have := (h_x12).1; have := ((iv_c (c := 0) (n := 0) (by decide))).1; omega, by have := (h_x12).2; have := ((iv_c (c := 0) (n := 0) (by decide))).2; omega⟩
    refine lv_iconst (v := (-1)) hx hb dX12_fits_28 (by decide) ?_
    exact tw_endi hx hb hr hlocks hK hT hS hQ ((iv_mono (iv_c (c := (-1)) (n := (-1)) (by decide)) (by decide) (by decide))) dX12_fits_29
  · have q18 : ¬ x12.toInt = 0 := ti_ne c15
    have h19 : iv 1 1 x12 := ⟨by have := (h_x12).1; have := ((iv_c (c := 0) (n := 0) (by decide))).1; have := ((iv_c (c := 0) (n := 0) (by decide))).2; omega, by have := (h_x12).2; have := ((iv_c (c := 0) (n := 0) (by decide))).1; have := ((iv_c (c := 0) (n := 0) (by decide))).2; omega⟩
    have h20 : iv 1 5 x5 := ⟨by have := (p13 c15).1; have := (h4).1; omega, by have := (p13 c15).2; have := (h4).2; omega⟩
    have h21 : iv 1 6 a1 := ⟨by have := (p14 c15).1; have := (h_a1).1; omega, by have := (p14 c15).2; have := (h_a1).2; omega⟩
    refine lv_aload_n hx hb dX12_fits_8 rfl (lv_at hl 0 rfl) ?_
    refine lv_iload_n hx hb dX12_fits_9 rfl (lv_at hl 2 rfl) ?_
    refine tw_goi hS (md_runV (As := [.int a2]) (rest := []) hx hb hml hown hW hK hT hS.1 (t_X12_isMember l D cy tx base Z K N Ma Ra J8 hS.2.1 a0 hz_a0 hk_a0 a2 h_a2) s_X12_319 ⟨rfl, rfl, ⟨Nat.le_of_ble_eq_true rfl, Nat.le_of_ble_eq_true rfl⟩, ⟨Nat.le_of_ble_eq_true rfl, Nat.le_of_ble_eq_true rfl⟩⟩ hz_a0 hk_a0 (by decide) rfl rfl hl.1 rfl (Nat.le_of_ble_eq_true rfl) dX12_fits_10) rfl rfl (fun x28 H locs M25 R26 J24 hS f22 g23 E27 => ?_)
    have eM25 := Fr.nil f22 rfl
    subst eM25
    have eR26 := Fr.nil g23 rfl
    subst eR26
    obtain ⟨h_x28, p29⟩ := E27
    refine lv_if_eq (tgt := 28) hx hb dX12_fits_13 (by decide) (fun c30 => ?_) (fun c30 => ?_)
    · have q31 : x28.toInt = 0 := ti_eq c30
      have h32 : iv 0 0 x28 := ⟨by have := (h_x28).1; have := ((iv_c (c := 0) (n := 0) (by decide))).1; omega, by have := (h_x28).2; have := ((iv_c (c := 0) (n := 0) (by decide))).2; omega⟩
      refine lv_iconst (v := (-1)) hx hb dX12_fits_28 (by decide) ?_
      exact tw_endi hx hb hr hlocks hK hT hS hQ ((iv_mono (iv_c (c := (-1)) (n := (-1)) (by decide)) (by decide) (by decide))) dX12_fits_29
    · have q33 : ¬ x28.toInt = 0 := ti_ne c30
      have h34 : iv 1 1 x28 := ⟨by have := (h_x28).1; have := ((iv_c (c := 0) (n := 0) (by decide))).1; have := ((iv_c (c := 0) (n := 0) (by decide))).2; omega, by have := (h_x28).2; have := ((iv_c (c := 0) (n := 0) (by decide))).1; have := ((iv_c (c := 0) (n := 0) (by decide))).2; omega⟩
      have h35 : iv 0 9 a2 := ⟨by have := (p29 c30).1; have := (h_a2).1; omega, by have := (p29 c30).2; have := (h_a2).2; omega⟩
      refine lv_iload_n hx hb dX12_fits_16 rfl (lv_at hl 3 rfl) ?_
      refine lv_i2l hx hb dX12_fits_17 rfl ?_
      refine lv_lconst (v := 0) hx hb dX12_fits_18 (by decide) ?_
      refine lv_ldc2 hx hb hown (hW _ w_7_178 rfl) dX12_fits_19 ?_
      refine tw_goi hS (md_runS (As := [.long a3.toInt64, .long 0, .long 2]) (rest := []) hx hb hml hown hW hK hT hS.1 (t_X12_in l D cy tx base Z K N Ma Ra J24 hS.2.1 (a3.toInt64) (0) (2)) s_X12_155 ⟨rfl, rfl, ⟨Nat.le_of_ble_eq_true rfl, Nat.le_of_ble_eq_true rfl⟩, ⟨Nat.le_of_ble_eq_true rfl, Nat.le_of_ble_eq_true rfl⟩⟩ rfl hl.1 rfl (Nat.le_of_ble_eq_true rfl) dX12_fits_22) rfl rfl (fun x42 H locs M39 R40 J38 hS f36 g37 E41 => ?_)
      have eM39 := Fr.nil f36 rfl
      subst eM39
      have eR40 := Fr.nil g37 rfl
      subst eR40
      obtain ⟨h_x42, p43⟩ := E41
      have p44 := p43.1
      refine lv_if_ne (tgt := 30) hx hb dX12_fits_25 (by decide) (fun c45 => ?_) (fun c45 => ?_)
      · have q46 : ¬ x42.toInt = 0 := ti_ne c45
        have h47 : iv 1 1 x42 := ⟨by have := (h_x42).1; have := ((iv_c (c := 0) (n := 0) (by decide))).1; have := ((iv_c (c := 0) (n := 0) (by decide))).2; omega, by have := (h_x42).2; have := ((iv_c (c := 0) (n := 0) (by decide))).1; have := ((iv_c (c := 0) (n := 0) (by decide))).2; omega⟩
        have h48 : iv 0 2 a3 := in2iv (p44 c45) ((jv_c (x := 0) (n := 0) (by decide))).1 ((jv_c (x := 2) (n := 2) (by decide))).2
        refine lv_iconst (v := 0) hx hb dX12_fits_30 (by decide) ?_
        refine lv_istore (lv' := [(4, .int 0), (0, .ref (base + a0)), (1, .int a1), (2, .int a2), (3, .int a3)]) hx hb dX12_fits_31 hl (by decide) rfl (fun ls hl => ?_)
        refine lv_iconst (v := 0) hx hb dX12_fits_33 (by decide) ?_
        refine lv_istore (lv' := [(5, .int 0), (4, .int 0), (0, .ref (base + a0)), (1, .int a1), (2, .int a2), (3, .int a3)]) hx hb dX12_fits_34 hl (by decide) rfl (fun ls hl => ?_)
        refine lv_iconst (v := 0) hx hb dX12_fits_36 (by decide) ?_
        refine lv_istore (lv' := [(6, .int 0), (5, .int 0), (4, .int 0), (0, .ref (base + a0)), (1, .int a1), (2, .int a2), (3, .int a3)]) hx hb dX12_fits_37 hl (by decide) rfl (fun ls hl => ?_)
        refine lv_iconst (v := 0) hx hb dX12_fits_39 (by decide) ?_
        refine lv_istore (lv' := [(7, .int 0), (6, .int 0), (5, .int 0), (4, .int 0), (0, .ref (base + a0)), (1, .int a1), (2, .int a2), (3, .int a3)]) hx hb dX12_fits_40 hl (by decide) rfl (fun ls hl => ?_)
        have W42_53 : ∀ (n_53 : Nat) (x49 : Int32) (x50 : Int32) (x51 : Int32) (x52 : Int32) (M53 : MT) (R54 : RT) (J55 : JT) (H : Heap) (locs : List Loc) (ls : Array Slot) (h_x49 : iv (-2147483648) 2147483647 x49) (h_x50 : iv (-2147483648) 2147483647 x50) (h_x51 : iv 0 2147483647 x51) (h_x52 : iv 0 2147483647 x52) (hm_53 : 2147483647 - x52.toInt < (n_53 : Int)) (hS : SB D cy base Z K N Lt_X12_fits LRt_X12_fits Ma Ra M53 R54 J55 s H locs) (hl : lv_has ls 9 [(4, .int x49), (5, .int x50), (6, .int x51), (7, .int x52), (0, .ref (base + a0)), (1, .int a1), (2, .int a2), (3, .int a3)]), W p l e (md_rm 6 0 0) s m args below meth c H locs 0 0 Q (F0 m 42 ls []) := by
          intro n_53
          induction n_53 with
          | zero =>
            intro x49 x50 x51 x52 M53 R54 J55 H locs ls h_x49 h_x50 h_x51 h_x52 hm_53 hS hl
            exfalso
            have := (h21).1; have := (h21).2; have := (h35).1; have := (h35).2; have := (h48).1; have := (h48).2; have := (h_x52).1; have := (h_x52).2; omega
          | succ n_53 ih_53 =>
            intro x49 x50 x51 x52 M53 R54 J55 H locs ls h_x49 h_x50 h_x51 h_x52 hm_53 hS hl
            have f56 := hS.2.2.1
            have g57 := hS.2.2.2
            refine lv_iload hx hb dX12_fits_42 (lv_at hl 3 rfl) ?_
            refine lv_aload_n hx hb dX12_fits_44 rfl (lv_at hl 4 rfl) ?_
            refine lv_iload_n hx hb dX12_fits_45 rfl (lv_at hl 5 rfl) ?_
            refine tw_goi hS (md_runV (As := [.int a1]) (rest := [.int x52]) hx hb hml hown hW hK hT hS.1 (t_X12_waysOf l D cy tx base Z K N M53 R54 J55 hS.2.1 a0 hz_a0 hk_a0 a1 h21) s_X12_489 ⟨rfl, rfl, ⟨Nat.le_of_ble_eq_true rfl, Nat.le_of_ble_eq_true rfl⟩, ⟨Nat.le_of_ble_eq_true rfl, Nat.le_of_ble_eq_true rfl⟩⟩ hz_a0 hk_a0 (by decide) rfl rfl hl.1 rfl (Nat.le_of_ble_eq_true rfl) dX12_fits_46) rfl rfl (fun x64 H locs M61 R62 J60 hS f58 g59 E63 => ?_)
            have eM61 := Fr.nil f58 rfl
            subst eM61
            have eR62 := Fr.nil g59 rfl
            subst eR62
            have h_x64 := E63
            clear E63
            refine lv_icmp_ge (tgt := 119) hx hb dX12_fits_49 (by decide) (fun c65 => ?_) (fun c65 => ?_)
            · have q66 : x64.toInt ≤ x52.toInt := ti_le c65
              refine lv_iload_n hx hb dX12_fits_119 rfl (lv_at hl 7 rfl) ?_
              refine lv_if_ne (tgt := 128) hx hb dX12_fits_120 (by decide) (fun c67 => ?_) (fun c67 => ?_)
              · have q68 : ¬ a3.toInt = 0 := ti_ne c67
                have h69 : iv 1 2 a3 := ⟨by have := (h48).1; have := ((iv_c (c := 0) (n := 0) (by decide))).1; have := ((iv_c (c := 0) (n := 0) (by decide))).2; omega, by have := (h48).2; have := ((iv_c (c := 0) (n := 0) (by decide))).1; have := ((iv_c (c := 0) (n := 0) (by decide))).2; omega⟩
                refine lv_iload hx hb dX12_fits_128 (lv_at hl 0 rfl) ?_
                refine lv_if_ne (tgt := 138) hx hb dX12_fits_130 (by decide) (fun c70 => ?_) (fun c70 => ?_)
                · have q71 : ¬ x49.toInt = 0 := ti_ne c70
                  refine lv_iload_n hx hb dX12_fits_138 rfl (lv_at hl 7 rfl) ?_
                  refine lv_iconst (v := 1) hx hb dX12_fits_139 (by decide) ?_
                  refine lv_icmp_ne (tgt := 148) hx hb dX12_fits_140 (by decide) (fun c72 => ?_) (fun c72 => ?_)
                  · have q73 : ¬ a3.toInt = 1 := ti_ne c72
                    have h74 : iv 2 2 a3 := ⟨by have := (h69).1; have := ((iv_c (c := 1) (n := 1) (by decide))).1; have := ((iv_c (c := 1) (n := 1) (by decide))).2; omega, by have := (h69).2; have := ((iv_c (c := 1) (n := 1) (by decide))).1; have := ((iv_c (c := 1) (n := 1) (by decide))).2; omega⟩
                    refine lv_iload hx hb dX12_fits_148 (lv_at hl 2 rfl) ?_
                    exact tw_endi hx hb hr hlocks hK hT hS hQ ((iv_mono h_x51 (by decide) (by decide))) dX12_fits_150
                  · have q75 : a3.toInt = 1 := ti_eq c72
                    have h76 : iv 1 1 a3 := ⟨by have := (h69).1; have := ((iv_c (c := 1) (n := 1) (by decide))).1; omega, by have := (h69).2; have := ((iv_c (c := 1) (n := 1) (by decide))).2; omega⟩
                    refine lv_iload hx hb dX12_fits_143 (lv_at hl 1 rfl) ?_
                    refine lv_goto (tgt := 150) hx hb dX12_fits_145 (by decide) ?_
                    exact tw_endi hx hb hr hlocks hK hT hS hQ (h_x50) dX12_fits_150
                · have q77 : x49.toInt = 0 := ti_eq c70
                  have h78 : iv 0 0 x49 := ⟨by have := (h_x49).1; have := ((iv_c (c := 0) (n := 0) (by decide))).1; omega, by have := (h_x49).2; have := ((iv_c (c := 0) (n := 0) (by decide))).2; omega⟩
                  refine lv_bipush (v := (-2)) hx hb dX12_fits_133 (by decide) ?_
                  refine lv_goto (tgt := 150) hx hb dX12_fits_135 (by decide) ?_
                  exact tw_endi hx hb hr hlocks hK hT hS hQ ((iv_mono (iv_c (c := (-2)) (n := (-2)) (by decide)) (by decide) (by decide))) dX12_fits_150
              · have q79 : a3.toInt = 0 := ti_eq c67
                have h80 : iv 0 0 a3 := ⟨by have := (h48).1; have := ((iv_c (c := 0) (n := 0) (by decide))).1; omega, by have := (h48).2; have := ((iv_c (c := 0) (n := 0) (by decide))).2; omega⟩
                refine lv_iload hx hb dX12_fits_123 (lv_at hl 0 rfl) ?_
                refine lv_goto (tgt := 150) hx hb dX12_fits_125 (by decide) ?_
                exact tw_endi hx hb hr hlocks hK hT hS hQ (h_x49) dX12_fits_150
            · have q81 : x52.toInt < x64.toInt := ti_nle c65
              have h82 : iv 0 2147483646 x52 := iv_ltL (y := x64) h_x52 h_x64 q81 (by decide)
              have h83 : iv 1 2147483647 x64 := iv_gtL (y := x52) h_x64 h_x52 q81 (by decide)
              refine lv_aload_n hx hb dX12_fits_52 rfl (lv_at hl 4 rfl) ?_
              refine lv_iload hx hb dX12_fits_53 (lv_at hl 3 rfl) ?_
              refine lv_iload_n hx hb dX12_fits_55 rfl (lv_at hl 5 rfl) ?_
              refine tw_goi hS (md_runV (As := [.int x52, .int a1]) (rest := []) hx hb hml hown hW hK hT hS.1 (t_X12_holds l D cy tx base Z K N M53 R54 J60 hS.2.1 a0 hz_a0 hk_a0 x52 (iv_mono h82 (by decide) (by decide)) a1 h21) s_X12_492 ⟨rfl, rfl, ⟨Nat.le_of_ble_eq_true rfl, Nat.le_of_ble_eq_true rfl⟩, ⟨Nat.le_of_ble_eq_true rfl, Nat.le_of_ble_eq_true rfl⟩⟩ hz_a0 hk_a0 (by decide) rfl rfl hl.1 rfl (Nat.le_of_ble_eq_true rfl) dX12_fits_56) rfl rfl (fun x90 H locs M87 R88 J86 hS f84 g85 E89 => ?_)
              have eR88 := Fr.nil g85 rfl
              subst eR88
              have h_x90 := E89
              clear E89
              refine lv_if_ne (tgt := 65) hx hb dX12_fits_59 (by decide) (fun c91 => ?_) (fun c91 => ?_)
              · have q92 : ¬ x90.toInt = 0 := ti_ne c91
                have h93 : iv 1 1 x90 := ⟨by have := (h_x90).1; have := ((iv_c (c := 0) (n := 0) (by decide))).1; have := ((iv_c (c := 0) (n := 0) (by decide))).2; omega, by have := (h_x90).2; have := ((iv_c (c := 0) (n := 0) (by decide))).1; have := ((iv_c (c := 0) (n := 0) (by decide))).2; omega⟩
                refine lv_aload_n hx hb dX12_fits_65 rfl (lv_at hl 4 rfl) ?_
                refine tw_getr hx hb hW hown hK hS f_X12_102_11 hz_a0 hk_a0 (t := 14) (n := 10) rfl dX12_fits_66 (fun b94 k95 hz_b94 hk_b94 hn_b94 => ?_)
                have hn_b94 := hn_b94 (by decide)
                refine lv_iload_n hx hb dX12_fits_69 rfl (lv_at hl 6 rfl) ?_
                refine tw_iald hx hb hK hS hz_b94 hk_b94 (Or.inl rfl) hn_b94 (lo := (-2147483648)) (hi := 2147483647) h35 ⟨by decide, by decide⟩ rg_u14 dX12_fits_70 (fun x98 k97 h96 => ?_)
                refine lv_istore (lv' := [(8, .int x98), (4, .int x49), (5, .int x50), (6, .int x51), (7, .int x52), (0, .ref (base + a0)), (1, .int a1), (2, .int a2), (3, .int a3)]) hx hb dX12_fits_71 hl (by decide) rfl (fun ls hl => ?_)
                refine lv_iload hx hb dX12_fits_73 (lv_at hl 1 rfl) ?_
                have J85_99 : ∀  (M99 : MT) (R100 : RT) (J101 : JT) (H : Heap) (locs : List Loc) (ls : Array Slot) (hS : SB D cy base Z K N Lt_X12_fits LRt_X12_fits Ma Ra M99 R100 J101 s H locs) (hl : lv_has ls 9 [(8, .int x98), (4, .int x49), (5, .int x50), (6, .int x51), (7, .int x52), (0, .ref (base + a0)), (1, .int a1), (2, .int a2), (3, .int a3)]), W p l e (md_rm 6 0 0) s m args below meth c H locs 0 0 Q (F0 m 85 ls []) := by
                  intro  M99 R100 J101 H locs ls  hS hl
                  have f102 := hS.2.2.1
                  have g103 := hS.2.2.2
                  refine lv_iload hx hb dX12_fits_85 (lv_at hl 0 rfl) ?_
                  refine lv_goto (tgt := 92) hx hb dX12_fits_87 (by decide) ?_
                  refine lv_istore (lv' := [(5, .int x98), (8, .int x98), (4, .int x49), (6, .int x51), (7, .int x52), (0, .ref (base + a0)), (1, .int a1), (2, .int a2), (3, .int a3)]) hx hb dX12_fits_92 hl (by decide) rfl (fun ls hl => ?_)
                  refine lv_iload hx hb dX12_fits_94 (lv_at hl 1 rfl) ?_
                  refine lv_iload hx hb dX12_fits_96 (lv_at hl 3 rfl) ?_
                  refine lv_icmp_le (tgt := 106) hx hb dX12_fits_98 (by decide) (fun c104 => ?_) (fun c104 => ?_)
                  · have q105 : x98.toInt ≤ x51.toInt := ti_le c104
                    refine lv_iload hx hb dX12_fits_106 (lv_at hl 3 rfl) ?_
                    refine lv_istore (lv' := [(6, .int x51), (5, .int x98), (8, .int x98), (4, .int x49), (7, .int x52), (0, .ref (base + a0)), (1, .int a1), (2, .int a2), (3, .int a3)]) hx hb dX12_fits_108 hl (by decide) rfl (fun ls hl => ?_)
                    refine tw_iincw (lv' := fun x107 => [(4, .int x107), (6, .int x51), (5, .int x98), (8, .int x98), (7, .int x52), (0, .ref (base + a0)), (1, .int a1), (2, .int a2), (3, .int a3)]) hx hb dX12_fits_110 hl (k := 3) rfl (by decide) (fun _ => rfl) (fun x107 ls hl => ?_)
                    have h106 := iv_any x107
                    refine tw_iinc (lv' := fun x110 => [(7, .int x110), (4, .int x107), (6, .int x51), (5, .int x98), (8, .int x98), (0, .ref (base + a0)), (1, .int a1), (2, .int a2), (3, .int a3)]) (lo := 1) (hi := 2147483647) hx hb dX12_fits_113 hl (k := 4) rfl h82 (by decide) ⟨by decide, by decide⟩ ⟨by decide, by decide⟩ (by decide) (fun _ => rfl) (fun x110 ls e109 h108 hl => ?_)
                    refine lv_goto (tgt := 42) hx hb dX12_fits_116 (by decide) ?_
                    have hm111 : 2147483647 - x110.toInt < (n_53 : Int) := by
                      have := (h21).1; have := (h21).2; have := (h35).1; have := (h35).2; have := (h48).1; have := (h48).2; have := (h108).1; have := (h108).2; have := (h82).1; have := (h82).2; omega
                    exact ih_53 x107 x98 x51 x110 M99 R100 J101 H locs _ h106 h96 h_x51 (iv_mono h108 (by decide) (by decide)) hm111 hS (lv_sub hl [1, 3, 2, 0, 5, 6, 7, 8] rfl)
                  · have q112 : x51.toInt < x98.toInt := ti_nle c104
                    have h113 : iv 1 2147483647 x98 := iv_gtL (y := x51) h96 h_x51 q112 (by decide)
                    have h114 : iv 0 2147483646 x51 := iv_ltL (y := x98) h_x51 h96 q112 (by decide)
                    refine lv_iload hx hb dX12_fits_101 (lv_at hl 1 rfl) ?_
                    refine lv_goto (tgt := 108) hx hb dX12_fits_103 (by decide) ?_
                    refine lv_istore (lv' := [(6, .int x98), (5, .int x98), (8, .int x98), (4, .int x49), (7, .int x52), (0, .ref (base + a0)), (1, .int a1), (2, .int a2), (3, .int a3)]) hx hb dX12_fits_108 hl (by decide) rfl (fun ls hl => ?_)
                    refine tw_iincw (lv' := fun x116 => [(4, .int x116), (6, .int x98), (5, .int x98), (8, .int x98), (7, .int x52), (0, .ref (base + a0)), (1, .int a1), (2, .int a2), (3, .int a3)]) hx hb dX12_fits_110 hl (k := 3) rfl (by decide) (fun _ => rfl) (fun x116 ls hl => ?_)
                    have h115 := iv_any x116
                    refine tw_iinc (lv' := fun x119 => [(7, .int x119), (4, .int x116), (6, .int x98), (5, .int x98), (8, .int x98), (0, .ref (base + a0)), (1, .int a1), (2, .int a2), (3, .int a3)]) (lo := 1) (hi := 2147483647) hx hb dX12_fits_113 hl (k := 4) rfl h82 (by decide) ⟨by decide, by decide⟩ ⟨by decide, by decide⟩ (by decide) (fun _ => rfl) (fun x119 ls e118 h117 hl => ?_)
                    refine lv_goto (tgt := 42) hx hb dX12_fits_116 (by decide) ?_
                    have hm120 : 2147483647 - x119.toInt < (n_53 : Int) := by
                      have := (h21).1; have := (h21).2; have := (h35).1; have := (h35).2; have := (h48).1; have := (h48).2; have := (h117).1; have := (h117).2; have := (h82).1; have := (h82).2; omega
                    exact ih_53 x116 x98 x98 x119 M99 R100 J101 H locs _ h115 (iv_mono h113 (by decide) (by decide)) (iv_mono h113 (by decide) (by decide)) (iv_mono h117 (by decide) (by decide)) hm120 hS (lv_sub hl [1, 3, 2, 0, 5, 6, 7, 8] rfl)
                refine lv_if_eq (tgt := 85) hx hb dX12_fits_75 (by decide) (fun c121 => ?_) (fun c121 => ?_)
                · have q122 : x49.toInt = 0 := ti_eq c121
                  have h123 : iv 0 0 x49 := ⟨by have := (h_x49).1; have := ((iv_c (c := 0) (n := 0) (by decide))).1; omega, by have := (h_x49).2; have := ((iv_c (c := 0) (n := 0) (by decide))).2; omega⟩
                  exact J85_99  M87 R54 J86 H locs _  hS hl
                · have q124 : ¬ x49.toInt = 0 := ti_ne c121
                  refine lv_iload hx hb dX12_fits_78 (lv_at hl 0 rfl) ?_
                  refine lv_iload hx hb dX12_fits_80 (lv_at hl 2 rfl) ?_
                  refine lv_icmp_ge (tgt := 90) hx hb dX12_fits_82 (by decide) (fun c125 => ?_) (fun c125 => ?_)
                  · have q126 : x50.toInt ≤ x98.toInt := ti_le c125
                    refine lv_iload hx hb dX12_fits_90 (lv_at hl 2 rfl) ?_
                    refine lv_istore (lv' := [(5, .int x50), (8, .int x98), (4, .int x49), (6, .int x51), (7, .int x52), (0, .ref (base + a0)), (1, .int a1), (2, .int a2), (3, .int a3)]) hx hb dX12_fits_92 hl (by decide) rfl (fun ls hl => ?_)
                    refine lv_iload hx hb dX12_fits_94 (lv_at hl 1 rfl) ?_
                    refine lv_iload hx hb dX12_fits_96 (lv_at hl 3 rfl) ?_
                    refine lv_icmp_le (tgt := 106) hx hb dX12_fits_98 (by decide) (fun c127 => ?_) (fun c127 => ?_)
                    · have q128 : x98.toInt ≤ x51.toInt := ti_le c127
                      refine lv_iload hx hb dX12_fits_106 (lv_at hl 3 rfl) ?_
                      refine lv_istore (lv' := [(6, .int x51), (5, .int x50), (8, .int x98), (4, .int x49), (7, .int x52), (0, .ref (base + a0)), (1, .int a1), (2, .int a2), (3, .int a3)]) hx hb dX12_fits_108 hl (by decide) rfl (fun ls hl => ?_)
                      refine tw_iincw (lv' := fun x130 => [(4, .int x130), (6, .int x51), (5, .int x50), (8, .int x98), (7, .int x52), (0, .ref (base + a0)), (1, .int a1), (2, .int a2), (3, .int a3)]) hx hb dX12_fits_110 hl (k := 3) rfl (by decide) (fun _ => rfl) (fun x130 ls hl => ?_)
                      have h129 := iv_any x130
                      refine tw_iinc (lv' := fun x133 => [(7, .int x133), (4, .int x130), (6, .int x51), (5, .int x50), (8, .int x98), (0, .ref (base + a0)), (1, .int a1), (2, .int a2), (3, .int a3)]) (lo := 1) (hi := 2147483647) hx hb dX12_fits_113 hl (k := 4) rfl h82 (by decide) ⟨by decide, by decide⟩ ⟨by decide, by decide⟩ (by decide) (fun _ => rfl) (fun x133 ls e132 h131 hl => ?_)
                      refine lv_goto (tgt := 42) hx hb dX12_fits_116 (by decide) ?_
                      have hm134 : 2147483647 - x133.toInt < (n_53 : Int) := by
                        have := (h21).1; have := (h21).2; have := (h35).1; have := (h35).2; have := (h48).1; have := (h48).2; have := (h131).1; have := (h131).2; have := (h82).1; have := (h82).2; omega
                      exact ih_53 x130 x50 x51 x133 M87 R54 J86 H locs _ h129 h_x50 h_x51 (iv_mono h131 (by decide) (by decide)) hm134 hS (lv_sub hl [1, 3, 2, 0, 5, 6, 7, 8] rfl)
                    · have q135 : x51.toInt < x98.toInt := ti_nle c127
                      have h136 : iv 1 2147483647 x98 := iv_gtL (y := x51) h96 h_x51 q135 (by decide)
                      have h137 : iv 0 2147483646 x51 := iv_ltL (y := x98) h_x51 h96 q135 (by decide)
                      refine lv_iload hx hb dX12_fits_101 (lv_at hl 1 rfl) ?_
                      refine lv_goto (tgt := 108) hx hb dX12_fits_103 (by decide) ?_
                      refine lv_istore (lv' := [(6, .int x98), (5, .int x50), (8, .int x98), (4, .int x49), (7, .int x52), (0, .ref (base + a0)), (1, .int a1), (2, .int a2), (3, .int a3)]) hx hb dX12_fits_108 hl (by decide) rfl (fun ls hl => ?_)
                      refine tw_iincw (lv' := fun x139 => [(4, .int x139), (6, .int x98), (5, .int x50), (8, .int x98), (7, .int x52), (0, .ref (base + a0)), (1, .int a1), (2, .int a2), (3, .int a3)]) hx hb dX12_fits_110 hl (k := 3) rfl (by decide) (fun _ => rfl) (fun x139 ls hl => ?_)
                      have h138 := iv_any x139
                      refine tw_iinc (lv' := fun x142 => [(7, .int x142), (4, .int x139), (6, .int x98), (5, .int x50), (8, .int x98), (0, .ref (base + a0)), (1, .int a1), (2, .int a2), (3, .int a3)]) (lo := 1) (hi := 2147483647) hx hb dX12_fits_113 hl (k := 4) rfl h82 (by decide) ⟨by decide, by decide⟩ ⟨by decide, by decide⟩ (by decide) (fun _ => rfl) (fun x142 ls e141 h140 hl => ?_)
                      refine lv_goto (tgt := 42) hx hb dX12_fits_116 (by decide) ?_
                      have hm143 : 2147483647 - x142.toInt < (n_53 : Int) := by
                        have := (h21).1; have := (h21).2; have := (h35).1; have := (h35).2; have := (h48).1; have := (h48).2; have := (h140).1; have := (h140).2; have := (h82).1; have := (h82).2; omega
                      exact ih_53 x139 x50 x98 x142 M87 R54 J86 H locs _ h138 h_x50 (iv_mono h136 (by decide) (by decide)) (iv_mono h140 (by decide) (by decide)) hm143 hS (lv_sub hl [1, 3, 2, 0, 5, 6, 7, 8] rfl)
                  · have q144 : x98.toInt < x50.toInt := ti_nle c125
                    have h145 : iv (-2147483648) 2147483646 x98 := iv_ltL (y := x50) h96 h_x50 q144 (by decide)
                    have h146 : iv (-2147483647) 2147483647 x50 := iv_gtL (y := x98) h_x50 h96 q144 (by decide)
                    exact J85_99  M87 R54 J86 H locs _  hS hl
              · have q147 : x90.toInt = 0 := ti_eq c91
                have h148 : iv 0 0 x90 := ⟨by have := (h_x90).1; have := ((iv_c (c := 0) (n := 0) (by decide))).1; omega, by have := (h_x90).2; have := ((iv_c (c := 0) (n := 0) (by decide))).2; omega⟩
                refine lv_goto (tgt := 113) hx hb dX12_fits_62 (by decide) ?_
                refine tw_iinc (lv' := fun x151 => [(7, .int x151), (4, .int x49), (5, .int x50), (6, .int x51), (0, .ref (base + a0)), (1, .int a1), (2, .int a2), (3, .int a3)]) (lo := 1) (hi := 2147483647) hx hb dX12_fits_113 hl (k := 3) rfl h82 (by decide) ⟨by decide, by decide⟩ ⟨by decide, by decide⟩ (by decide) (fun _ => rfl) (fun x151 ls e150 h149 hl => ?_)
                refine lv_goto (tgt := 42) hx hb dX12_fits_116 (by decide) ?_
                have hm152 : 2147483647 - x151.toInt < (n_53 : Int) := by
                  have := (h21).1; have := (h21).2; have := (h35).1; have := (h35).2; have := (h48).1; have := (h48).2; have := (h149).1; have := (h149).2; have := (h82).1; have := (h82).2; omega
                exact ih_53 x49 x50 x51 x151 M87 R54 J86 H locs _ h_x49 h_x50 h_x51 (iv_mono h149 (by decide) (by decide)) hm152 hS (lv_sub hl [1, 2, 3, 0, 4, 5, 6, 7] rfl)
        have hm153 : 2147483647 - (0 : Int32).toInt < (((2147483648 : Nat) : Int) : Int) := by
          have := (h21).1; have := (h21).2; have := (h35).1; have := (h35).2; have := (h48).1; have := (h48).2; have : (0 : Int32).toInt = 0 := (by decide); omega
        exact W42_53 2147483648 0 0 0 0 Ma Ra J38 H locs _ (iv_mono (iv_c (c := 0) (n := 0) (by decide)) (by decide) (by decide)) (iv_mono (iv_c (c := 0) (n := 0) (by decide)) (by decide) (by decide)) (iv_mono (iv_c (c := 0) (n := 0) (by decide)) (by decide) (by decide)) (iv_mono (iv_c (c := 0) (n := 0) (by decide)) (by decide) (by decide)) hm153 hS (lv_sub hl [3, 2, 1, 0, 4, 5, 6, 7] rfl)
      · have q154 : x42.toInt = 0 := ti_eq c45
        have q155 := p43.2 c45
        have q155 : a3.toInt < 0 ∨ 2 < a3.toInt := by rw [Int32.toInt_toInt64] at q155; exact q155
        have h156 : iv 0 0 x42 := ⟨by have := (h_x42).1; have := ((iv_c (c := 0) (n := 0) (by decide))).1; omega, by have := (h_x42).2; have := ((iv_c (c := 0) (n := 0) (by decide))).2; omega⟩
        refine lv_iconst (v := (-1)) hx hb dX12_fits_28 (by decide) ?_
        exact tw_endi hx hb hr hlocks hK hT hS hQ ((iv_mono (iv_c (c := (-1)) (n := (-1)) (by decide)) (by decide) (by decide))) dX12_fits_29
def Lt_X12_gainOf : WL := []
def LRt_X12_gainOf : WL := []
set_option maxRecDepth 100000 in
set_option maxHeartbeats 4000000 in
theorem t_X12_gainOf (l : Launch) (D : va_G) (cy : Nat → ClassId) (tx : (Nat → Nat) × (Nat → Nat)) (base Z : Nat) (K N : Nat → Nat) (Ma : MT) (Ra : RT) (Ja : JT) (hTy : Ty Z K N Ma Ra) (a0 : Nat) (hz_a0 : a0 < Z) (hk_a0 : K a0 = 12) (a1 : Int32) (h_a1 : iv (-2147483648) 2147483647 a1) (a2 : Int32) (h_a2 : iv 0 11 a2) : Met l yX12_gainOf [Cond.code yX12_gainOf cX12_gainOf 5 (some .int)] (md_rm 2 0 0) (va_Pc [.ref (base + a0), .int a1, .int a2] (md_U D cy tx base Z K N Ma Ra Ja)) (mQi D cy tx base (fun r u => TP Z K N Lt_X12_gainOf LRt_X12_gainOf Ma Ra u ∧ (iv (-2147483648) 2147483647 r))) 0 0 (fun q => base ≤ q) := by
  refine tw_ofW (L := Lt_X12_gainOf) (LR := LRt_X12_gainOf) (by decide) (Nat.le_of_ble_eq_true rfl) hTy ?_
  intro p e s m args below meth c Q ls hx hb hr hlocks hown hml hW hK hT hS hQ hl
  have hl : lv_has ls 5 [(0, .ref (base + a0)), (1, .int a1), (2, .int a2)] := hl
  refine lv_iconst (v := 0) hx hb dX12_gainOf_0 (by decide) ?_
  refine lv_istore_n (lv' := [(3, .int 0), (0, .ref (base + a0)), (1, .int a1), (2, .int a2)]) hx hb dX12_gainOf_1 rfl hl (by decide) rfl (fun ls hl => ?_)
  refine lv_iconst (v := 0) hx hb dX12_gainOf_2 (by decide) ?_
  refine lv_istore (lv' := [(4, .int 0), (3, .int 0), (0, .ref (base + a0)), (1, .int a1), (2, .int a2)]) hx hb dX12_gainOf_3 hl (by decide) rfl (fun ls hl => ?_)
  have W5_3 : ∀ (n_3 : Nat) (x1 : Int32) (x2 : Int32) (M3 : MT) (R4 : RT) (J5 : JT) (H : Heap) (locs : List Loc) (ls : Array Slot) (h_x1 : iv (-2147483648) 2147483647 x1) (h_x2 : iv 0 10 x2) (hm_3 : 10 - x2.toInt < (n_3 : Int)) (hS : SB D cy base Z K N Lt_X12_gainOf LRt_X12_gainOf Ma Ra M3 R4 J5 s H locs) (hl : lv_has ls 5 [(3, .int x1), (4, .int x2), (0, .ref (base + a0)), (1, .int a1), (2, .int a2)]), W p l e (md_rm 2 0 0) s m args below meth c H locs 0 0 Q (F0 m 5 ls []) := by
    intro n_3
    induction n_3 with
    | zero =>
      intro x1 x2 M3 R4 J5 H locs ls h_x1 h_x2 hm_3 hS hl
      exfalso
      have := (h_a1).1; have := (h_a1).2; have := (h_a2).1; have := (h_a2).2; have := (h_x2).1; have := (h_x2).2; omega
    | succ n_3 ih_3 =>
      intro x1 x2 M3 R4 J5 H locs ls h_x1 h_x2 hm_3 hS hl
      have f6 := hS.2.2.1
      have g7 := hS.2.2.2
      refine lv_iload hx hb dX12_gainOf_5 (lv_at hl 1 rfl) ?_
      refine lv_aload_n hx hb dX12_gainOf_7 rfl (lv_at hl 2 rfl) ?_
      refine tw_getr hx hb hW hown hK hS f_X12_45_11 hz_a0 hk_a0 (t := 23) (n := 226) rfl dX12_gainOf_8 (fun b8 k9 hz_b8 hk_b8 hn_b8 => ?_)
      have hn_b8 := hn_b8 (by decide)
      refine lv_iconst (v := 0) hx hb dX12_gainOf_11 (by decide) ?_
      refine tw_iald hx hb hK hS hz_b8 hk_b8 (Or.inr (by decide)) hn_b8 (lo := 0) (hi := 10) (iv_c (c := 0) (n := 0) (by decide)) ⟨by decide, by decide⟩ (rg_c (k0 := 0) rfl rfl rfl) dX12_gainOf_12 (fun x12 k11 h10 => ?_)
      refine lv_icmp_ge (tgt := 45) hx hb dX12_gainOf_13 (by decide) (fun c13 => ?_) (fun c13 => ?_)
      · have q14 : x12.toInt ≤ x2.toInt := ti_le c13
        refine lv_iload_n hx hb dX12_gainOf_45 rfl (lv_at hl 0 rfl) ?_
        exact tw_endi hx hb hr hlocks hK hT hS hQ (h_x1) dX12_gainOf_46
      · have q15 : x2.toInt < x12.toInt := ti_nle c13
        have h16 : iv 0 9 x2 := iv_ltL (y := x12) h_x2 h10 q15 (by decide)
        have h17 : iv 1 10 x12 := iv_gtL (y := x2) h10 h_x2 q15 (by decide)
        refine lv_iload_n hx hb dX12_gainOf_16 rfl (lv_at hl 0 rfl) ?_
        refine lv_iload_n hx hb dX12_gainOf_17 rfl (lv_at hl 3 rfl) ?_
        refine lv_iload hx hb dX12_gainOf_18 (lv_at hl 1 rfl) ?_
        refine tw_goi hS (md_runS (As := [.int a1, .int x2]) (rest := [.int x1]) hx hb hml hown hW hK hT hS.1 (t_X12_isOf l D cy tx base Z K N M3 R4 J5 hS.2.1 a1 h_a1 x2 h16) s_X12_322 ⟨rfl, rfl, ⟨Nat.le_of_ble_eq_true rfl, Nat.le_of_ble_eq_true rfl⟩, ⟨Nat.le_of_ble_eq_true rfl, Nat.le_of_ble_eq_true rfl⟩⟩ rfl hl.1 rfl (Nat.le_of_ble_eq_true rfl) dX12_gainOf_20) rfl rfl (fun x24 H locs M21 R22 J20 hS f18 g19 E23 => ?_)
        have eM21 := Fr.nil f18 rfl
        subst eM21
        have eR22 := Fr.nil g19 rfl
        subst eR22
        have h_x24 := E23
        clear E23
        refine lv_if_eq (tgt := 36) hx hb dX12_gainOf_23 (by decide) (fun c25 => ?_) (fun c25 => ?_)
        · have q26 : x24.toInt = 0 := ti_eq c25
          have h27 : iv 0 0 x24 := ⟨by have := (h_x24).1; have := ((iv_c (c := 0) (n := 0) (by decide))).1; omega, by have := (h_x24).2; have := ((iv_c (c := 0) (n := 0) (by decide))).2; omega⟩
          refine lv_iconst (v := 0) hx hb dX12_gainOf_36 (by decide) ?_
          refine tw_iadd (lo := (-2147483648)) (hi := 2147483647) hx hb h_x1 (iv_c (c := 0) (n := 0) (by decide)) ⟨by decide, by decide⟩ ⟨by decide, by decide⟩ dX12_gainOf_37 (fun x30 e29 h28 => ?_)
          have e29 : x30.toInt = x1.toInt + 0 := e29
          refine lv_istore_n (lv' := [(3, .int x30), (4, .int x2), (0, .ref (base + a0)), (1, .int a1), (2, .int a2)]) hx hb dX12_gainOf_38 rfl hl (by decide) rfl (fun ls hl => ?_)
          refine tw_iinc (lv' := fun x33 => [(4, .int x33), (3, .int x30), (0, .ref (base + a0)), (1, .int a1), (2, .int a2)]) (lo := 1) (hi := 10) hx hb dX12_gainOf_39 hl (k := 1) rfl h16 (by decide) ⟨by decide, by decide⟩ ⟨by decide, by decide⟩ (by decide) (fun _ => rfl) (fun x33 ls e32 h31 hl => ?_)
          refine lv_goto (tgt := 5) hx hb dX12_gainOf_42 (by decide) ?_
          have hm34 : 10 - x33.toInt < (n_3 : Int) := by
            have := (h_a1).1; have := (h_a1).2; have := (h_a2).1; have := (h_a2).2; have := (h16).1; have := (h16).2; have := (h31).1; have := (h31).2; omega
          exact ih_3 x30 x33 M3 R4 J20 H locs _ h28 (iv_mono h31 (by decide) (by decide)) hm34 hS (lv_sub hl [1, 0, 2, 3, 4] rfl)
        · have q35 : ¬ x24.toInt = 0 := ti_ne c25
          have h36 : iv 1 1 x24 := ⟨by have := (h_x24).1; have := ((iv_c (c := 0) (n := 0) (by decide))).1; have := ((iv_c (c := 0) (n := 0) (by decide))).2; omega, by have := (h_x24).2; have := ((iv_c (c := 0) (n := 0) (by decide))).1; have := ((iv_c (c := 0) (n := 0) (by decide))).2; omega⟩
          refine lv_aload_n hx hb dX12_gainOf_26 rfl (lv_at hl 2 rfl) ?_
          refine lv_iload hx hb dX12_gainOf_27 (lv_at hl 1 rfl) ?_
          refine lv_iload_n hx hb dX12_gainOf_29 rfl (lv_at hl 4 rfl) ?_
          refine tw_goi hS (md_runV (As := [.int x2, .int a2]) (rest := [.int x1]) hx hb hml hown hW hK hT hS.1 (t_X12_worthOf l D cy tx base Z K N M3 R4 J20 hS.2.1 a0 hz_a0 hk_a0 x2 h16 a2 h_a2) s_X12_330 ⟨rfl, rfl, ⟨Nat.le_of_ble_eq_true rfl, Nat.le_of_ble_eq_true rfl⟩, ⟨Nat.le_of_ble_eq_true rfl, Nat.le_of_ble_eq_true rfl⟩⟩ hz_a0 hk_a0 (by decide) rfl rfl hl.1 rfl (Nat.le_of_ble_eq_true rfl) dX12_gainOf_30) rfl rfl (fun x43 H locs M40 R41 J39 hS f37 g38 E42 => ?_)
          have eM40 := Fr.nil f37 rfl
          subst eM40
          have eR41 := Fr.nil g38 rfl
          subst eR41
          have h_x43 := E42
          clear E42
          refine lv_goto (tgt := 37) hx hb dX12_gainOf_33 (by decide) ?_
          refine lv_iadd hx hb dX12_gainOf_37 ?_
          refine tw_top (fun x45 => ?_)
          have h44 := iv_any x45
          refine lv_istore_n (lv' := [(3, .int x45), (4, .int x2), (0, .ref (base + a0)), (1, .int a1), (2, .int a2)]) hx hb dX12_gainOf_38 rfl hl (by decide) rfl (fun ls hl => ?_)
          refine tw_iinc (lv' := fun x48 => [(4, .int x48), (3, .int x45), (0, .ref (base + a0)), (1, .int a1), (2, .int a2)]) (lo := 1) (hi := 10) hx hb dX12_gainOf_39 hl (k := 1) rfl h16 (by decide) ⟨by decide, by decide⟩ ⟨by decide, by decide⟩ (by decide) (fun _ => rfl) (fun x48 ls e47 h46 hl => ?_)
          refine lv_goto (tgt := 5) hx hb dX12_gainOf_42 (by decide) ?_
          have hm49 : 10 - x48.toInt < (n_3 : Int) := by
            have := (h_a1).1; have := (h_a1).2; have := (h_a2).1; have := (h_a2).2; have := (h16).1; have := (h16).2; have := (h46).1; have := (h46).2; omega
          exact ih_3 x45 x48 M3 R4 J39 H locs _ h44 (iv_mono h46 (by decide) (by decide)) hm49 hS (lv_sub hl [1, 0, 2, 3, 4] rfl)
  have hm50 : 10 - (0 : Int32).toInt < (((11 : Nat) : Int) : Int) := by
    have := (h_a1).1; have := (h_a1).2; have := (h_a2).1; have := (h_a2).2; have : (0 : Int32).toInt = 0 := (by decide); omega
  exact W5_3 11 0 0 Ma Ra Ja s.heap [] _ (iv_mono (iv_c (c := 0) (n := 0) (by decide)) (by decide) (by decide)) (iv_mono (iv_c (c := 0) (n := 0) (by decide)) (by decide) (by decide)) hm50 hS (lv_sub hl [1, 0, 2, 3, 4] rfl)
def Lt_X12_putsSide : WL := [(12, 31, 33)]
def LRt_X12_putsSide : WL := []
set_option maxRecDepth 100000 in
set_option maxHeartbeats 4000000 in
theorem t_X12_putsSide (l : Launch) (D : va_G) (cy : Nat → ClassId) (tx : (Nat → Nat) × (Nat → Nat)) (base Z : Nat) (K N : Nat → Nat) (Ma : MT) (Ra : RT) (Ja : JT) (hTy : Ty Z K N Ma Ra) (a0 : Nat) (hz_a0 : a0 < Z) (hk_a0 : K a0 = 12) (a1 : Int32) (h_a1 : iv (-2147483648) 2147483647 a1) (a2 : Int32) (h_a2 : iv 0 2 a2) : Met l yX12_putsSide [Cond.code yX12_putsSide cX12_putsSide 4 none] (md_rm 2 0 0) (va_Pc [.ref (base + a0), .int a1, .int a2] (md_U D cy tx base Z K N Ma Ra Ja)) (mQv D cy tx base (fun u => TP Z K N Lt_X12_putsSide LRt_X12_putsSide Ma Ra u ∧ (True))) 0 0 (fun q => base ≤ q) := by
  refine tw_ofW (L := Lt_X12_putsSide) (LR := LRt_X12_putsSide) (by decide) (Nat.le_of_ble_eq_true rfl) hTy ?_
  intro p e s m args below meth c Q ls hx hb hr hlocks hown hml hW hK hT hS hQ hl
  have hl : lv_has ls 4 [(0, .ref (base + a0)), (1, .int a1), (2, .int a2)] := hl
  refine lv_iconst (v := 0) hx hb dX12_putsSide_0 (by decide) ?_
  refine lv_istore_n (lv' := [(3, .int 0), (0, .ref (base + a0)), (1, .int a1), (2, .int a2)]) hx hb dX12_putsSide_1 rfl hl (by decide) rfl (fun ls hl => ?_)
  have W2_2 : ∀ (n_2 : Nat) (x1 : Int32) (M2 : MT) (R3 : RT) (J4 : JT) (H : Heap) (locs : List Loc) (ls : Array Slot) (h_x1 : iv 0 10 x1) (hm_2 : 10 - x1.toInt < (n_2 : Int)) (hS : SB D cy base Z K N Lt_X12_putsSide LRt_X12_putsSide Ma Ra M2 R3 J4 s H locs) (hl : lv_has ls 4 [(3, .int x1), (0, .ref (base + a0)), (1, .int a1), (2, .int a2)]), W p l e (md_rm 2 0 0) s m args below meth c H locs 0 0 Q (F0 m 2 ls []) := by
    intro n_2
    induction n_2 with
    | zero =>
      intro x1 M2 R3 J4 H locs ls h_x1 hm_2 hS hl
      exfalso
      have := (h_a1).1; have := (h_a1).2; have := (h_a2).1; have := (h_a2).2; have := (h_x1).1; have := (h_x1).2; omega
    | succ n_2 ih_2 =>
      intro x1 M2 R3 J4 H locs ls h_x1 hm_2 hS hl
      have f5 := hS.2.2.1
      have g6 := hS.2.2.2
      refine lv_iload_n hx hb dX12_putsSide_2 rfl (lv_at hl 0 rfl) ?_
      refine lv_aload_n hx hb dX12_putsSide_3 rfl (lv_at hl 1 rfl) ?_
      refine tw_getr hx hb hW hown hK hS f_X12_45_11 hz_a0 hk_a0 (t := 23) (n := 226) rfl dX12_putsSide_4 (fun b7 k8 hz_b7 hk_b7 hn_b7 => ?_)
      have hn_b7 := hn_b7 (by decide)
      refine lv_iconst (v := 0) hx hb dX12_putsSide_7 (by decide) ?_
      refine tw_iald hx hb hK hS hz_b7 hk_b7 (Or.inr (by decide)) hn_b7 (lo := 0) (hi := 10) (iv_c (c := 0) (n := 0) (by decide)) ⟨by decide, by decide⟩ (rg_c (k0 := 0) rfl rfl rfl) dX12_putsSide_8 (fun x11 k10 h9 => ?_)
      refine lv_icmp_ge (tgt := 49) hx hb dX12_putsSide_9 (by decide) (fun c12 => ?_) (fun c12 => ?_)
      · have q13 : x11.toInt ≤ x1.toInt := ti_le c12
        exact tw_endv hx hb hr hlocks hK hT hS hQ (trivial) dX12_putsSide_49
      · have q14 : x1.toInt < x11.toInt := ti_nle c12
        have h15 : iv 0 9 x1 := iv_ltL (y := x11) h_x1 h9 q14 (by decide)
        have h16 : iv 1 10 x11 := iv_gtL (y := x1) h9 h_x1 q14 (by decide)
        refine lv_iload_n hx hb dX12_putsSide_12 rfl (lv_at hl 2 rfl) ?_
        refine lv_iload_n hx hb dX12_putsSide_13 rfl (lv_at hl 0 rfl) ?_
        refine tw_goi hS (md_runS (As := [.int a1, .int x1]) (rest := []) hx hb hml hown hW hK hT hS.1 (t_X12_isOf l D cy tx base Z K N M2 R3 J4 hS.2.1 a1 h_a1 x1 h15) s_X12_322 ⟨rfl, rfl, ⟨Nat.le_of_ble_eq_true rfl, Nat.le_of_ble_eq_true rfl⟩, ⟨Nat.le_of_ble_eq_true rfl, Nat.le_of_ble_eq_true rfl⟩⟩ rfl hl.1 rfl (Nat.le_of_ble_eq_true rfl) dX12_putsSide_14) rfl rfl (fun x23 H locs M20 R21 J19 hS f17 g18 E22 => ?_)
        have eM20 := Fr.nil f17 rfl
        subst eM20
        have eR21 := Fr.nil g18 rfl
        subst eR21
        have h_x23 := E22
        clear E22
        refine lv_if_eq (tgt := 43) hx hb dX12_putsSide_17 (by decide) (fun c24 => ?_) (fun c24 => ?_)
        · have q25 : x23.toInt = 0 := ti_eq c24
          have h26 : iv 0 0 x23 := ⟨by have := (h_x23).1; have := ((iv_c (c := 0) (n := 0) (by decide))).1; omega, by have := (h_x23).2; have := ((iv_c (c := 0) (n := 0) (by decide))).2; omega⟩
          refine tw_iinc (lv' := fun x29 => [(3, .int x29), (0, .ref (base + a0)), (1, .int a1), (2, .int a2)]) (lo := 1) (hi := 10) hx hb dX12_putsSide_43 hl (k := 0) rfl h15 (by decide) ⟨by decide, by decide⟩ ⟨by decide, by decide⟩ (by decide) (fun _ => rfl) (fun x29 ls e28 h27 hl => ?_)
          refine lv_goto (tgt := 2) hx hb dX12_putsSide_46 (by decide) ?_
          have hm30 : 10 - x29.toInt < (n_2 : Int) := by
            have := (h_a1).1; have := (h_a1).2; have := (h_a2).1; have := (h_a2).2; have := (h15).1; have := (h15).2; have := (h27).1; have := (h27).2; omega
          exact ih_2 x29 M2 R3 J19 H locs _ (iv_mono h27 (by decide) (by decide)) hm30 hS hl
        · have q31 : ¬ x23.toInt = 0 := ti_ne c24
          have h32 : iv 1 1 x23 := ⟨by have := (h_x23).1; have := ((iv_c (c := 0) (n := 0) (by decide))).1; have := ((iv_c (c := 0) (n := 0) (by decide))).2; omega, by have := (h_x23).2; have := ((iv_c (c := 0) (n := 0) (by decide))).1; have := ((iv_c (c := 0) (n := 0) (by decide))).2; omega⟩
          refine lv_aload_n hx hb dX12_putsSide_20 rfl (lv_at hl 1 rfl) ?_
          refine lv_iload_n hx hb dX12_putsSide_21 rfl (lv_at hl 0 rfl) ?_
          refine lv_iload_n hx hb dX12_putsSide_22 rfl (lv_at hl 3 rfl) ?_
          refine lv_if_ne (tgt := 30) hx hb dX12_putsSide_23 (by decide) (fun c33 => ?_) (fun c33 => ?_)
          · have q34 : ¬ a2.toInt = 0 := ti_ne c33
            have h35 : iv 1 2 a2 := ⟨by have := (h_a2).1; have := ((iv_c (c := 0) (n := 0) (by decide))).1; have := ((iv_c (c := 0) (n := 0) (by decide))).2; omega, by have := (h_a2).2; have := ((iv_c (c := 0) (n := 0) (by decide))).1; have := ((iv_c (c := 0) (n := 0) (by decide))).2; omega⟩
            refine lv_iload_n hx hb dX12_putsSide_30 rfl (lv_at hl 3 rfl) ?_
            refine lv_iconst (v := 1) hx hb dX12_putsSide_31 (by decide) ?_
            refine lv_icmp_ne (tgt := 39) hx hb dX12_putsSide_32 (by decide) (fun c36 => ?_) (fun c36 => ?_)
            · have q37 : ¬ a2.toInt = 1 := ti_ne c36
              have h38 : iv 2 2 a2 := ⟨by have := (h35).1; have := ((iv_c (c := 1) (n := 1) (by decide))).1; have := ((iv_c (c := 1) (n := 1) (by decide))).2; omega, by have := (h35).2; have := ((iv_c (c := 1) (n := 1) (by decide))).1; have := ((iv_c (c := 1) (n := 1) (by decide))).2; omega⟩
              refine lv_iconst (v := 2) hx hb dX12_putsSide_39 (by decide) ?_
              refine tw_gov hS (md_runV (As := [.int x1, .int 2]) (rest := []) hx hb hml hown hW hK hT hS.1 (t_X12_sets l D cy tx base Z K N M2 R3 J19 hS.2.1 a0 hz_a0 hk_a0 x1 h15 2 (iv_mono (iv_c (c := 2) (n := 2) (by decide)) (by decide) (by decide))) s_X12_377 ⟨rfl, rfl, ⟨Nat.le_of_ble_eq_true rfl, Nat.le_of_ble_eq_true rfl⟩, ⟨Nat.le_of_ble_eq_true rfl, Nat.le_of_ble_eq_true rfl⟩⟩ hz_a0 hk_a0 (by decide) rfl rfl hl.1 rfl (Nat.le_of_ble_eq_true rfl) dX12_putsSide_40) rfl rfl (fun H locs M42 R43 J41 hS f39 g40 E44 => ?_)
              have eR43 := Fr.nil g40 rfl
              subst eR43
              refine tw_iinc (lv' := fun x47 => [(3, .int x47), (0, .ref (base + a0)), (1, .int a1), (2, .int a2)]) (lo := 1) (hi := 10) hx hb dX12_putsSide_43 hl (k := 0) rfl h15 (by decide) ⟨by decide, by decide⟩ ⟨by decide, by decide⟩ (by decide) (fun _ => rfl) (fun x47 ls e46 h45 hl => ?_)
              refine lv_goto (tgt := 2) hx hb dX12_putsSide_46 (by decide) ?_
              have hm48 : 10 - x47.toInt < (n_2 : Int) := by
                have := (h_a1).1; have := (h_a1).2; have := (h38).1; have := (h38).2; have := (h15).1; have := (h15).2; have := (h45).1; have := (h45).2; omega
              exact ih_2 x47 M42 R3 J41 H locs _ (iv_mono h45 (by decide) (by decide)) hm48 hS hl
            · have q49 : a2.toInt = 1 := ti_eq c36
              have h50 : iv 1 1 a2 := ⟨by have := (h35).1; have := ((iv_c (c := 1) (n := 1) (by decide))).1; omega, by have := (h35).2; have := ((iv_c (c := 1) (n := 1) (by decide))).2; omega⟩
              refine lv_iconst (v := 0) hx hb dX12_putsSide_35 (by decide) ?_
              refine lv_goto (tgt := 40) hx hb dX12_putsSide_36 (by decide) ?_
              refine tw_gov hS (md_runV (As := [.int x1, .int 0]) (rest := []) hx hb hml hown hW hK hT hS.1 (t_X12_sets l D cy tx base Z K N M2 R3 J19 hS.2.1 a0 hz_a0 hk_a0 x1 h15 0 (iv_mono (iv_c (c := 0) (n := 0) (by decide)) (by decide) (by decide))) s_X12_377 ⟨rfl, rfl, ⟨Nat.le_of_ble_eq_true rfl, Nat.le_of_ble_eq_true rfl⟩, ⟨Nat.le_of_ble_eq_true rfl, Nat.le_of_ble_eq_true rfl⟩⟩ hz_a0 hk_a0 (by decide) rfl rfl hl.1 rfl (Nat.le_of_ble_eq_true rfl) dX12_putsSide_40) rfl rfl (fun H locs M54 R55 J53 hS f51 g52 E56 => ?_)
              have eR55 := Fr.nil g52 rfl
              subst eR55
              refine tw_iinc (lv' := fun x59 => [(3, .int x59), (0, .ref (base + a0)), (1, .int a1), (2, .int a2)]) (lo := 1) (hi := 10) hx hb dX12_putsSide_43 hl (k := 0) rfl h15 (by decide) ⟨by decide, by decide⟩ ⟨by decide, by decide⟩ (by decide) (fun _ => rfl) (fun x59 ls e58 h57 hl => ?_)
              refine lv_goto (tgt := 2) hx hb dX12_putsSide_46 (by decide) ?_
              have hm60 : 10 - x59.toInt < (n_2 : Int) := by
                have := (h_a1).1; have := (h_a1).2; have := (h50).1; have := (h50).2; have := (h15).1; have := (h15).2; have := (h57).1; have := (h57).2; omega
              exact ih_2 x59 M54 R3 J53 H locs _ (iv_mono h57 (by decide) (by decide)) hm60 hS hl
          · have q61 : a2.toInt = 0 := ti_eq c33
            have h62 : iv 0 0 a2 := ⟨by have := (h_a2).1; have := ((iv_c (c := 0) (n := 0) (by decide))).1; omega, by have := (h_a2).2; have := ((iv_c (c := 0) (n := 0) (by decide))).2; omega⟩
            refine lv_iconst (v := 1) hx hb dX12_putsSide_26 (by decide) ?_
            refine lv_goto (tgt := 40) hx hb dX12_putsSide_27 (by decide) ?_
            refine tw_gov hS (md_runV (As := [.int x1, .int 1]) (rest := []) hx hb hml hown hW hK hT hS.1 (t_X12_sets l D cy tx base Z K N M2 R3 J19 hS.2.1 a0 hz_a0 hk_a0 x1 h15 1 (iv_mono (iv_c (c := 1) (n := 1) (by decide)) (by decide) (by decide))) s_X12_377 ⟨rfl, rfl, ⟨Nat.le_of_ble_eq_true rfl, Nat.le_of_ble_eq_true rfl⟩, ⟨Nat.le_of_ble_eq_true rfl, Nat.le_of_ble_eq_true rfl⟩⟩ hz_a0 hk_a0 (by decide) rfl rfl hl.1 rfl (Nat.le_of_ble_eq_true rfl) dX12_putsSide_40) rfl rfl (fun H locs M66 R67 J65 hS f63 g64 E68 => ?_)
            have eR67 := Fr.nil g64 rfl
            subst eR67
            refine tw_iinc (lv' := fun x71 => [(3, .int x71), (0, .ref (base + a0)), (1, .int a1), (2, .int a2)]) (lo := 1) (hi := 10) hx hb dX12_putsSide_43 hl (k := 0) rfl h15 (by decide) ⟨by decide, by decide⟩ ⟨by decide, by decide⟩ (by decide) (fun _ => rfl) (fun x71 ls e70 h69 hl => ?_)
            refine lv_goto (tgt := 2) hx hb dX12_putsSide_46 (by decide) ?_
            have hm72 : 10 - x71.toInt < (n_2 : Int) := by
              have := (h_a1).1; have := (h_a1).2; have := (h62).1; have := (h62).2; have := (h15).1; have := (h15).2; have := (h69).1; have := (h69).2; omega
            exact ih_2 x71 M66 R3 J65 H locs _ (iv_mono h69 (by decide) (by decide)) hm72 hS hl
  have hm73 : 10 - (0 : Int32).toInt < (((11 : Nat) : Int) : Int) := by
    have := (h_a1).1; have := (h_a1).2; have := (h_a2).1; have := (h_a2).2; have : (0 : Int32).toInt = 0 := (by decide); omega
  exact W2_2 11 0 Ma Ra Ja s.heap [] _ (iv_mono (iv_c (c := 0) (n := 0) (by decide)) (by decide) (by decide)) hm73 hS hl
def Lt_X12_goes : WL := [(12, 23, 24), (12, 28, 29), (12, 30, 33), (14, 0, 2000000), (30, 0, 2000000), (31, 0, 2000000)]
def LRt_X12_goes : WL := []
set_option maxRecDepth 100000 in
set_option maxHeartbeats 4000000 in
theorem t_X12_goes (l : Launch) (D : va_G) (cy : Nat → ClassId) (tx : (Nat → Nat) × (Nat → Nat)) (base Z : Nat) (K N : Nat → Nat) (Ma : MT) (Ra : RT) (Ja : JT) (hTy : Ty Z K N Ma Ra) (a0 : Nat) (hz_a0 : a0 < Z) (hk_a0 : K a0 = 12) (a1 : Int32) (h_a1 : iv (-2147483648) 2147483647 a1) (a2 : Int32) (h_a2 : iv (-2147483648) 2147483647 a2) (a3 : Int32) (h_a3 : iv 0 6561 a3) (a4 : Int32) (h_a4 : iv 1 6561 a4) (co_a0 : Codes Ma Ra a0) (sd : Nat) (k_sd : Ra a0 25 = some sd) (e4 : Int32) (k_e4 : Ma sd (4 : Int32).toNatClampNeg = e4) (h_e4 : iv 1 4 e4) (hpw : (e4.toInt = 0 ∧ a4.toInt = 1) ∨ (e4.toInt = 1 ∧ a4.toInt = 9) ∨ (e4.toInt = 2 ∧ a4.toInt = 81) ∨ (e4.toInt = 3 ∧ a4.toInt = 729) ∨ (e4.toInt = 4 ∧ a4.toInt = 6561)) : Met l yX12_goes [Cond.code yX12_goes cX12_goes 9 (some .int)] (md_rm 5 0 0) (va_Pc [.ref (base + a0), .int a1, .int a2, .int a3, .int a4] (md_U D cy tx base Z K N Ma Ra Ja)) (mQi D cy tx base (fun r u => TP Z K N Lt_X12_goes LRt_X12_goes Ma Ra u ∧ (iv (-2147483648) 2147483647 r))) 0 0 (fun q => base ≤ q) := by
  refine tw_ofW (L := Lt_X12_goes) (LR := LRt_X12_goes) (by decide) (Nat.le_of_ble_eq_true rfl) hTy ?_
  intro p e s m args below meth c Q ls hx hb hr hlocks hown hml hW hK hT hS hQ hl
  have hl : lv_has ls 9 [(0, .ref (base + a0)), (1, .int a1), (2, .int a2), (3, .int a3), (4, .int a4)] := hl
  obtain ⟨hz_sd, hk_sd, hn_sd⟩ := hTy.refn hz_a0 hk_a0 (show rtR 12 25 = (23, 226, 0) from rfl) k_sd
  have hn_sd := hn_sd (by decide)
  refine lv_aload_n hx hb dX12_goes_0 rfl (lv_at hl 0 rfl) ?_
  refine tw_gov hS (md_runV (As := []) (rest := []) hx hb hml hown hW hK hT hS.1 (t_X12_begins l D cy tx base Z K N Ma Ra Ja hS.2.1 a0 hz_a0 hk_a0 sd k_sd e4 k_e4 (iv_mono h_e4 (by decide) (by decide))) s_X12_393 ⟨rfl, rfl, ⟨Nat.le_of_ble_eq_true rfl, Nat.le_of_ble_eq_true rfl⟩, ⟨Nat.le_of_ble_eq_true rfl, Nat.le_of_ble_eq_true rfl⟩⟩ hz_a0 hk_a0 (by decide) rfl rfl hl.1 rfl (Nat.le_of_ble_eq_true rfl) dX12_goes_1) rfl rfl (fun H locs M4 R5 J3 hS f1 g2 E6 => ?_)
  have eR5 := Fr.nil g2 rfl
  subst eR5
  have p7 := E6
  clear E6
  have k8 : M4 a0 30 = e4 := p7
  refine lv_iconst (v := 0) hx hb dX12_goes_4 (by decide) ?_
  refine lv_istore (lv' := [(5, .int 0), (0, .ref (base + a0)), (1, .int a1), (2, .int a2), (3, .int a3), (4, .int a4)]) hx hb dX12_goes_5 hl (by decide) rfl (fun ls hl => ?_)
  refine lv_iload hx hb dX12_goes_7 (lv_at hl 5 rfl) ?_
  refine lv_bipush (v := 9) hx hb dX12_goes_9 (by decide) ?_
  refine tw_idiv (lo := 0) (hi := 729) hx hb h_a4 (iv_c (c := 9) (n := 9) (by decide)) ⟨by decide, by decide⟩ ⟨by decide, by decide⟩ dX12_goes_11 (fun x11 e10 h9 => ?_)
  have e10 : x11.toInt = a4.toInt / 9 := e10
  refine lv_istore (lv' := [(6, .int x11), (5, .int 0), (0, .ref (base + a0)), (1, .int a1), (2, .int a2), (3, .int a3), (4, .int a4)]) hx hb dX12_goes_12 hl (by decide) rfl (fun ls hl => ?_)
  refine lv_iconst (v := 0) hx hb dX12_goes_14 (by decide) ?_
  refine lv_istore (lv' := [(7, .int 0), (6, .int x11), (5, .int 0), (0, .ref (base + a0)), (1, .int a1), (2, .int a2), (3, .int a3), (4, .int a4)]) hx hb dX12_goes_15 hl (by decide) rfl (fun ls hl => ?_)
  have W17_15 : ∀ (n_15 : Nat) (x12 : Int32) (x13 : Int32) (x14 : Int32) (x20 : Int32) (M15 : MT) (R16 : RT) (J17 : JT) (H : Heap) (locs : List Loc) (ls : Array Slot) (h_x12 : iv (-2147483648) 2147483647 x12) (h_x13 : iv 0 729 x13) (h_x14 : iv 0 4 x14) (h_x20 : iv 1 4 x20) (k21 : M15 a0 30 = x20) (w0_15 : x20.toInt = e4.toInt) (w1_15 : (e4.toInt - x14.toInt = 0 ∧ x13.toInt = 0) ∨ (e4.toInt - x14.toInt = 1 ∧ x13.toInt = 1) ∨ (e4.toInt - x14.toInt = 2 ∧ x13.toInt = 9) ∨ (e4.toInt - x14.toInt = 3 ∧ x13.toInt = 81) ∨ (e4.toInt - x14.toInt = 4 ∧ x13.toInt = 729)) (hm_15 : 4 - x14.toInt < (n_15 : Int)) (hS : SB D cy base Z K N Lt_X12_goes LRt_X12_goes Ma Ra M15 R16 J17 s H locs) (hl : lv_has ls 9 [(5, .int x12), (6, .int x13), (7, .int x14), (0, .ref (base + a0)), (1, .int a1), (2, .int a2), (3, .int a3), (4, .int a4)]), W p l e (md_rm 5 0 0) s m args below meth c H locs 0 0 Q (F0 m 17 ls []) := by
    intro n_15
    induction n_15 with
    | zero =>
      intro x12 x13 x14 x20 M15 R16 J17 H locs ls h_x12 h_x13 h_x14 h_x20 k21 w0_15 w1_15 hm_15 hS hl
      exfalso
      have := (h_a1).1; have := (h_a1).2; have := (h_a2).1; have := (h_a2).2; have := (h_a3).1; have := (h_a3).2; have := (h_a4).1; have := (h_a4).2; have := (h_e4).1; have := (h_e4).2; have := (h_x13).1; have := (h_x13).2; have := (h_x14).1; have := (h_x14).2; have := (h_x20).1; have := (h_x20).2; omega
    | succ n_15 ih_15 =>
      intro x12 x13 x14 x20 M15 R16 J17 H locs ls h_x12 h_x13 h_x14 h_x20 k21 w0_15 w1_15 hm_15 hS hl
      have f18 := hS.2.2.1
      have g19 := hS.2.2.2
      refine lv_iload hx hb dX12_goes_17 (lv_at hl 2 rfl) ?_
      refine lv_aload_n hx hb dX12_goes_19 rfl (lv_at hl 3 rfl) ?_
      refine tw_getk hx hb hW hown hK hS f_X12_351_11 hz_a0 hk_a0 (v := x20) k21 dX12_goes_20 ?_
      refine lv_icmp_ge (tgt := 121) hx hb dX12_goes_23 (by decide) (fun c22 => ?_) (fun c22 => ?_)
      · have q23 : x20.toInt ≤ x14.toInt := ti_le c22
        have h24 : iv 1 4 x14 := iv_geL (y := x20) h_x14 h_x20 q23 (by decide)
        refine lv_iload hx hb dX12_goes_121 (lv_at hl 0 rfl) ?_
        exact tw_endi hx hb hr hlocks hK hT hS hQ (h_x12) dX12_goes_123
      · have q25 : x14.toInt < x20.toInt := ti_nle c22
        have h26 : iv 0 3 x14 := iv_ltL (y := x20) h_x14 h_x20 q25 (by decide)
        refine lv_aload_n hx hb dX12_goes_26 rfl (lv_at hl 3 rfl) ?_
        refine lv_aload_n hx hb dX12_goes_27 rfl (lv_at hl 3 rfl) ?_
        refine tw_getr hx hb hW hown hK hS f_X12_54_11 hz_a0 hk_a0 (t := 31) (n := 8) rfl dX12_goes_28 (fun b27 k28 hz_b27 hk_b27 hn_b27 => ?_)
        have hn_b27 := hn_b27 (by decide)
        refine lv_iload hx hb dX12_goes_31 (lv_at hl 2 rfl) ?_
        refine tw_iald hx hb hK hS hz_b27 hk_b27 (Or.inr (by decide)) hn_b27 (lo := 0) (hi := 11) h26 ⟨by decide, by decide⟩ rg_u31 dX12_goes_33 (fun x31 k30 h29 => ?_)
        refine lv_iload hx hb dX12_goes_34 (lv_at hl 2 rfl) ?_
        refine tw_gov hS (md_runV (As := [.int x31, .int x14]) (rest := []) hx hb hml hown hW hK hT hS.1 (t_X12_asks l D cy tx base Z K N M15 R16 J17 hS.2.1 a0 hz_a0 hk_a0 x31 h29 x14 (iv_mono h26 (by decide) (by decide)) (Codes.fr co_a0 hTy hz_a0 hk_a0 hS.2.2.1 hS.2.2.2 rfl)) s_X12_396 ⟨rfl, rfl, ⟨Nat.le_of_ble_eq_true rfl, Nat.le_of_ble_eq_true rfl⟩, ⟨Nat.le_of_ble_eq_true rfl, Nat.le_of_ble_eq_true rfl⟩⟩ hz_a0 hk_a0 (by decide) rfl rfl hl.1 rfl (Nat.le_of_ble_eq_true rfl) dX12_goes_36) rfl rfl (fun H locs M35 R36 J34 hS f32 g33 E37 => ?_)
        have eR36 := Fr.nil g33 rfl
        subst eR36
        have h38 : iv 1 729 x13 := by
          have := (h_a1).1; have := (h_a1).2; have := (h_a2).1; have := (h_a2).2; have := (h_a3).1; have := (h_a3).2; have := (h_a4).1; have := (h_a4).2; have := (h_e4).1; have := (h_e4).2; have := (h_x13).1; have := (h_x13).2; have := (h26).1; have := (h26).2; have := (h_x20).1; have := (h_x20).2; exact ⟨by omega, by omega⟩
        refine lv_iload_n hx hb dX12_goes_39 rfl (lv_at hl 6 rfl) ?_
        refine lv_iload hx hb dX12_goes_40 (lv_at hl 1 rfl) ?_
        refine tw_idiv (lo := 0) (hi := 6561) hx hb h_a3 h38 ⟨by decide, by decide⟩ ⟨by decide, by decide⟩ dX12_goes_42 (fun x41 e40 h39 => ?_)
        refine lv_bipush (v := 9) hx hb dX12_goes_43 (by decide) ?_
        refine tw_irem (lo := 0) (hi := 8) hx hb h39 (iv_c (c := 9) (n := 9) (by decide)) ⟨by decide, by decide⟩ ⟨by decide, by decide⟩ dX12_goes_45 (fun x44 e43 h42 => ?_)
        have e43 : x44.toInt = x41.toInt % 9 := e43
        refine lv_istore (lv' := [(8, .int x44), (5, .int x12), (6, .int x13), (7, .int x14), (0, .ref (base + a0)), (1, .int a1), (2, .int a2), (3, .int a3), (4, .int a4)]) hx hb dX12_goes_46 hl (by decide) rfl (fun ls hl => ?_)
        refine lv_aload_n hx hb dX12_goes_48 rfl (lv_at hl 4 rfl) ?_
        refine lv_iload_n hx hb dX12_goes_49 rfl (lv_at hl 5 rfl) ?_
        refine lv_iload hx hb dX12_goes_50 (lv_at hl 0 rfl) ?_
        refine lv_iconst (v := 3) hx hb dX12_goes_52 (by decide) ?_
        refine tw_idiv (lo := 0) (hi := 2) hx hb h42 (iv_c (c := 3) (n := 3) (by decide)) ⟨by decide, by decide⟩ ⟨by decide, by decide⟩ dX12_goes_53 (fun x47 e46 h45 => ?_)
        have e46 : x47.toInt = x44.toInt / 3 := e46
        refine tw_gov hS (md_runV (As := [.int a1, .int x47]) (rest := []) hx hb hml hown hW hK hT hS.1 (t_X12_putsSide l D cy tx base Z K N M35 R16 J34 hS.2.1 a0 hz_a0 hk_a0 a1 h_a1 x47 h45) s_X12_456 ⟨rfl, rfl, ⟨Nat.le_of_ble_eq_true rfl, Nat.le_of_ble_eq_true rfl⟩, ⟨Nat.le_of_ble_eq_true rfl, Nat.le_of_ble_eq_true rfl⟩⟩ hz_a0 hk_a0 (by decide) rfl rfl hl.1 rfl (Nat.le_of_ble_eq_true rfl) dX12_goes_54) rfl rfl (fun H locs M51 R52 J50 hS f48 g49 E53 => ?_)
        have eR52 := Fr.nil g49 rfl
        subst eR52
        refine lv_aload_n hx hb dX12_goes_57 rfl (lv_at hl 4 rfl) ?_
        refine lv_iload_n hx hb dX12_goes_58 rfl (lv_at hl 6 rfl) ?_
        refine lv_iload hx hb dX12_goes_59 (lv_at hl 0 rfl) ?_
        refine lv_iconst (v := 3) hx hb dX12_goes_61 (by decide) ?_
        refine tw_irem (lo := 0) (hi := 2) hx hb h42 (iv_c (c := 3) (n := 3) (by decide)) ⟨by decide, by decide⟩ ⟨by decide, by decide⟩ dX12_goes_62 (fun x56 e55 h54 => ?_)
        have e55 : x56.toInt = x44.toInt % 3 := e55
        refine tw_gov hS (md_runV (As := [.int a2, .int x56]) (rest := []) hx hb hml hown hW hK hT hS.1 (t_X12_putsSide l D cy tx base Z K N M51 R16 J50 hS.2.1 a0 hz_a0 hk_a0 a2 h_a2 x56 h54) s_X12_456 ⟨rfl, rfl, ⟨Nat.le_of_ble_eq_true rfl, Nat.le_of_ble_eq_true rfl⟩, ⟨Nat.le_of_ble_eq_true rfl, Nat.le_of_ble_eq_true rfl⟩⟩ hz_a0 hk_a0 (by decide) rfl rfl hl.1 rfl (Nat.le_of_ble_eq_true rfl) dX12_goes_63) rfl rfl (fun H locs M60 R61 J59 hS f57 g58 E62 => ?_)
        have eR61 := Fr.nil g58 rfl
        subst eR61
        refine lv_iload hx hb dX12_goes_66 (lv_at hl 1 rfl) ?_
        refine lv_aload_n hx hb dX12_goes_68 rfl (lv_at hl 4 rfl) ?_
        refine tw_goi hS (md_runV (As := []) (rest := [.int x12]) hx hb hml hown hW hK hT hS.1 (t_X12_settles_ l D cy tx base Z K N M60 R16 J59 hS.2.1 a0 hz_a0 hk_a0) s_X12_399 ⟨rfl, rfl, ⟨Nat.le_of_ble_eq_true rfl, Nat.le_of_ble_eq_true rfl⟩, ⟨Nat.le_of_ble_eq_true rfl, Nat.le_of_ble_eq_true rfl⟩⟩ hz_a0 hk_a0 (by decide) rfl rfl hl.1 rfl (Nat.le_of_ble_eq_true rfl) dX12_goes_69) rfl rfl (fun x69 H locs M66 R67 J65 hS f63 g64 E68 => ?_)
        have eR67 := Fr.nil g64 rfl
        subst eR67
        have h_x69 := E68
        clear E68
        refine lv_iconst (v := 1) hx hb dX12_goes_72 (by decide) ?_
        refine lv_icmp_ne (tgt := 104) hx hb dX12_goes_73 (by decide) (fun c70 => ?_) (fun c70 => ?_)
        · have q71 : ¬ x69.toInt = 1 := ti_ne c70
          refine lv_iconst (v := 0) hx hb dX12_goes_104 (by decide) ?_
          refine tw_iadd (lo := (-2147483648)) (hi := 2147483647) hx hb h_x12 (iv_c (c := 0) (n := 0) (by decide)) ⟨by decide, by decide⟩ ⟨by decide, by decide⟩ dX12_goes_105 (fun x74 e73 h72 => ?_)
          have e73 : x74.toInt = x12.toInt + 0 := e73
          refine lv_istore (lv' := [(5, .int x74), (8, .int x44), (6, .int x13), (7, .int x14), (0, .ref (base + a0)), (1, .int a1), (2, .int a2), (3, .int a3), (4, .int a4)]) hx hb dX12_goes_106 hl (by decide) rfl (fun ls hl => ?_)
          refine lv_iload hx hb dX12_goes_108 (lv_at hl 2 rfl) ?_
          refine lv_bipush (v := 9) hx hb dX12_goes_110 (by decide) ?_
          refine tw_idiv (lo := 0) (hi := 81) hx hb h38 (iv_c (c := 9) (n := 9) (by decide)) ⟨by decide, by decide⟩ ⟨by decide, by decide⟩ dX12_goes_112 (fun x77 e76 h75 => ?_)
          have e76 : x77.toInt = x13.toInt / 9 := e76
          refine lv_istore (lv' := [(6, .int x77), (5, .int x74), (8, .int x44), (7, .int x14), (0, .ref (base + a0)), (1, .int a1), (2, .int a2), (3, .int a3), (4, .int a4)]) hx hb dX12_goes_113 hl (by decide) rfl (fun ls hl => ?_)
          refine tw_iinc (lv' := fun x80 => [(7, .int x80), (6, .int x77), (5, .int x74), (8, .int x44), (0, .ref (base + a0)), (1, .int a1), (2, .int a2), (3, .int a3), (4, .int a4)]) (lo := 1) (hi := 4) hx hb dX12_goes_115 hl (k := 3) rfl h26 (by decide) ⟨by decide, by decide⟩ ⟨by decide, by decide⟩ (by decide) (fun _ => rfl) (fun x80 ls e79 h78 hl => ?_)
          refine lv_goto (tgt := 17) hx hb dX12_goes_118 (by decide) ?_
          have k81 : M66 a0 30 = x20 := ((Fr.kp (k := 30) f63 hk_a0 rfl).trans ((Fr.kp (k := 30) f57 hk_a0 rfl).trans ((Fr.kp (k := 30) f48 hk_a0 rfl).trans (Fr.kp (k := 30) f32 hk_a0 rfl)))).trans k21
          have w82 : x20.toInt = e4.toInt := by
            have := (h_a1).1; have := (h_a1).2; have := (h_a2).1; have := (h_a2).2; have := (h_a3).1; have := (h_a3).2; have := (h_a4).1; have := (h_a4).2; have := (h_e4).1; have := (h_e4).2; have := (h38).1; have := (h38).2; have := (h26).1; have := (h26).2; have := (h_x20).1; have := (h_x20).2; have := (h39).1; have := (h39).2; have := (h75).1; have := (h75).2; have := (h78).1; have := (h78).2; omega
          have w83 : (e4.toInt - x80.toInt = 0 ∧ x77.toInt = 0) ∨ (e4.toInt - x80.toInt = 1 ∧ x77.toInt = 1) ∨ (e4.toInt - x80.toInt = 2 ∧ x77.toInt = 9) ∨ (e4.toInt - x80.toInt = 3 ∧ x77.toInt = 81) ∨ (e4.toInt - x80.toInt = 4 ∧ x77.toInt = 729) := by
            have := (h_a1).1; have := (h_a1).2; have := (h_a2).1; have := (h_a2).2; have := (h_a3).1; have := (h_a3).2; have := (h_a4).1; have := (h_a4).2; have := (h_e4).1; have := (h_e4).2; have := (h38).1; have := (h38).2; have := (h26).1; have := (h26).2; have := (h_x20).1; have := (h_x20).2; have := (h39).1; have := (h39).2; have := (h75).1; have := (h75).2; have := (h78).1; have := (h78).2; omega
          have hm84 : 4 - x80.toInt < (n_15 : Int) := by
            have := (h_a1).1; have := (h_a1).2; have := (h_a2).1; have := (h_a2).2; have := (h_a3).1; have := (h_a3).2; have := (h_a4).1; have := (h_a4).2; have := (h_e4).1; have := (h_e4).2; have := (h38).1; have := (h38).2; have := (h26).1; have := (h26).2; have := (h_x20).1; have := (h_x20).2; have := (h39).1; have := (h39).2; have := (h75).1; have := (h75).2; have := (h78).1; have := (h78).2; omega
          exact ih_15 x74 x77 x80 x20 M66 R16 J65 H locs _ h72 (iv_mono h75 (by decide) (by decide)) (iv_mono h78 (by decide) (by decide)) h_x20 k81 w82 w83 hm84 hS (lv_sub hl [2, 1, 0, 4, 5, 6, 7, 8] rfl)
        · have q85 : x69.toInt = 1 := ti_eq c70
          have h86 : iv 1 1 x69 := ⟨by have := (h_x69).1; have := ((iv_c (c := 1) (n := 1) (by decide))).1; omega, by have := (h_x69).2; have := ((iv_c (c := 1) (n := 1) (by decide))).2; omega⟩
          refine lv_aload_n hx hb dX12_goes_76 rfl (lv_at hl 4 rfl) ?_
          refine lv_iload_n hx hb dX12_goes_77 rfl (lv_at hl 5 rfl) ?_
          refine lv_aload_n hx hb dX12_goes_78 rfl (lv_at hl 4 rfl) ?_
          refine tw_getrk hx hb hW hown hK hS f_X12_54_11 hz_a0 hk_a0 (b := b27) k28 dX12_goes_79 ?_
          refine lv_iload hx hb dX12_goes_82 (lv_at hl 3 rfl) ?_
          have k87 : M66 b27 x14.toNatClampNeg = x31 := ((Fr.kpa f63 hk_b27 rfl x14.toNatClampNeg).trans ((Fr.kpa f57 hk_b27 rfl x14.toNatClampNeg).trans ((Fr.kpa f48 hk_b27 rfl x14.toNatClampNeg).trans (Fr.kpa f32 hk_b27 rfl x14.toNatClampNeg)))).trans k30
          refine tw_ialk hx hb hK hS hz_b27 hk_b27 (Or.inr (by decide)) hn_b27 h26 ⟨by decide, by decide⟩ (v := x31) k87 dX12_goes_84 ?_
          refine tw_goi hS (md_runV (As := [.int a1, .int x31]) (rest := [.int x12]) hx hb hml hown hW hK hT hS.1 (t_X12_gainOf l D cy tx base Z K N M66 R16 J65 hS.2.1 a0 hz_a0 hk_a0 a1 h_a1 x31 h29) s_X12_459 ⟨rfl, rfl, ⟨Nat.le_of_ble_eq_true rfl, Nat.le_of_ble_eq_true rfl⟩, ⟨Nat.le_of_ble_eq_true rfl, Nat.le_of_ble_eq_true rfl⟩⟩ hz_a0 hk_a0 (by decide) rfl rfl hl.1 rfl (Nat.le_of_ble_eq_true rfl) dX12_goes_85) rfl rfl (fun x94 H locs M91 R92 J90 hS f88 g89 E93 => ?_)
          have eM91 := Fr.nil f88 rfl
          subst eM91
          have eR92 := Fr.nil g89 rfl
          subst eR92
          have h_x94 := E93
          clear E93
          refine lv_aload_n hx hb dX12_goes_88 rfl (lv_at hl 4 rfl) ?_
          refine lv_iload_n hx hb dX12_goes_89 rfl (lv_at hl 6 rfl) ?_
          refine lv_aload_n hx hb dX12_goes_90 rfl (lv_at hl 4 rfl) ?_
          refine tw_getrk hx hb hW hown hK hS f_X12_54_11 hz_a0 hk_a0 (b := b27) k28 dX12_goes_91 ?_
          refine lv_iload hx hb dX12_goes_94 (lv_at hl 3 rfl) ?_
          refine tw_ialk hx hb hK hS hz_b27 hk_b27 (Or.inr (by decide)) hn_b27 h26 ⟨by decide, by decide⟩ (v := x31) k87 dX12_goes_96 ?_
          refine tw_goi hS (md_runV (As := [.int a2, .int x31]) (rest := [.int x94, .int x12]) hx hb hml hown hW hK hT hS.1 (t_X12_gainOf l D cy tx base Z K N M66 R16 J90 hS.2.1 a0 hz_a0 hk_a0 a2 h_a2 x31 h29) s_X12_459 ⟨rfl, rfl, ⟨Nat.le_of_ble_eq_true rfl, Nat.le_of_ble_eq_true rfl⟩, ⟨Nat.le_of_ble_eq_true rfl, Nat.le_of_ble_eq_true rfl⟩⟩ hz_a0 hk_a0 (by decide) rfl rfl hl.1 rfl (Nat.le_of_ble_eq_true rfl) dX12_goes_97) rfl rfl (fun x101 H locs M98 R99 J97 hS f95 g96 E100 => ?_)
          have eM98 := Fr.nil f95 rfl
          subst eM98
          have eR99 := Fr.nil g96 rfl
          subst eR99
          have h_x101 := E100
          clear E100
          refine lv_isub hx hb dX12_goes_100 ?_
          refine tw_top (fun x103 => ?_)
          have h102 := iv_any x103
          refine lv_goto (tgt := 105) hx hb dX12_goes_101 (by decide) ?_
          refine lv_iadd hx hb dX12_goes_105 ?_
          refine tw_top (fun x105 => ?_)
          have h104 := iv_any x105
          refine lv_istore (lv' := [(5, .int x105), (8, .int x44), (6, .int x13), (7, .int x14), (0, .ref (base + a0)), (1, .int a1), (2, .int a2), (3, .int a3), (4, .int a4)]) hx hb dX12_goes_106 hl (by decide) rfl (fun ls hl => ?_)
          refine lv_iload hx hb dX12_goes_108 (lv_at hl 2 rfl) ?_
          refine lv_bipush (v := 9) hx hb dX12_goes_110 (by decide) ?_
          refine tw_idiv (lo := 0) (hi := 81) hx hb h38 (iv_c (c := 9) (n := 9) (by decide)) ⟨by decide, by decide⟩ ⟨by decide, by decide⟩ dX12_goes_112 (fun x108 e107 h106 => ?_)
          have e107 : x108.toInt = x13.toInt / 9 := e107
          refine lv_istore (lv' := [(6, .int x108), (5, .int x105), (8, .int x44), (7, .int x14), (0, .ref (base + a0)), (1, .int a1), (2, .int a2), (3, .int a3), (4, .int a4)]) hx hb dX12_goes_113 hl (by decide) rfl (fun ls hl => ?_)
          refine tw_iinc (lv' := fun x111 => [(7, .int x111), (6, .int x108), (5, .int x105), (8, .int x44), (0, .ref (base + a0)), (1, .int a1), (2, .int a2), (3, .int a3), (4, .int a4)]) (lo := 1) (hi := 4) hx hb dX12_goes_115 hl (k := 3) rfl h26 (by decide) ⟨by decide, by decide⟩ ⟨by decide, by decide⟩ (by decide) (fun _ => rfl) (fun x111 ls e110 h109 hl => ?_)
          refine lv_goto (tgt := 17) hx hb dX12_goes_118 (by decide) ?_
          have k112 : M66 a0 30 = x20 := ((Fr.kp (k := 30) f63 hk_a0 rfl).trans ((Fr.kp (k := 30) f57 hk_a0 rfl).trans ((Fr.kp (k := 30) f48 hk_a0 rfl).trans (Fr.kp (k := 30) f32 hk_a0 rfl)))).trans k21
          have w113 : x20.toInt = e4.toInt := by
            have := (h_a1).1; have := (h_a1).2; have := (h_a2).1; have := (h_a2).2; have := (h_a3).1; have := (h_a3).2; have := (h_a4).1; have := (h_a4).2; have := (h_e4).1; have := (h_e4).2; have := (h106).1; have := (h106).2; have := (h109).1; have := (h109).2; have := (h38).1; have := (h38).2; have := (h26).1; have := (h26).2; have := (h_x20).1; have := (h_x20).2; have := (h39).1; have := (h39).2; omega
          have w114 : (e4.toInt - x111.toInt = 0 ∧ x108.toInt = 0) ∨ (e4.toInt - x111.toInt = 1 ∧ x108.toInt = 1) ∨ (e4.toInt - x111.toInt = 2 ∧ x108.toInt = 9) ∨ (e4.toInt - x111.toInt = 3 ∧ x108.toInt = 81) ∨ (e4.toInt - x111.toInt = 4 ∧ x108.toInt = 729) := by
            have := (h_a1).1; have := (h_a1).2; have := (h_a2).1; have := (h_a2).2; have := (h_a3).1; have := (h_a3).2; have := (h_a4).1; have := (h_a4).2; have := (h_e4).1; have := (h_e4).2; have := (h106).1; have := (h106).2; have := (h109).1; have := (h109).2; have := (h38).1; have := (h38).2; have := (h26).1; have := (h26).2; have := (h_x20).1; have := (h_x20).2; have := (h39).1; have := (h39).2; omega
          have hm115 : 4 - x111.toInt < (n_15 : Int) := by
            have := (h_a1).1; have := (h_a1).2; have := (h_a2).1; have := (h_a2).2; have := (h_a3).1; have := (h_a3).2; have := (h_a4).1; have := (h_a4).2; have := (h_e4).1; have := (h_e4).2; have := (h106).1; have := (h106).2; have := (h109).1; have := (h109).2; have := (h38).1; have := (h38).2; have := (h26).1; have := (h26).2; have := (h_x20).1; have := (h_x20).2; have := (h39).1; have := (h39).2; omega
          exact ih_15 x105 x108 x111 x20 M66 R16 J97 H locs _ h104 (iv_mono h106 (by decide) (by decide)) (iv_mono h109 (by decide) (by decide)) h_x20 k112 w113 w114 hm115 hS (lv_sub hl [2, 1, 0, 4, 5, 6, 7, 8] rfl)
  have w116 : e4.toInt = e4.toInt := by
    have := (h_a1).1; have := (h_a1).2; have := (h_a2).1; have := (h_a2).2; have := (h_a3).1; have := (h_a3).2; have := (h_a4).1; have := (h_a4).2; have := (h_e4).1; have := (h_e4).2; omega
  have w117 : (e4.toInt - (0 : Int32).toInt = 0 ∧ x11.toInt = 0) ∨ (e4.toInt - (0 : Int32).toInt = 1 ∧ x11.toInt = 1) ∨ (e4.toInt - (0 : Int32).toInt = 2 ∧ x11.toInt = 9) ∨ (e4.toInt - (0 : Int32).toInt = 3 ∧ x11.toInt = 81) ∨ (e4.toInt - (0 : Int32).toInt = 4 ∧ x11.toInt = 729) := by
    have := (h_a1).1; have := (h_a1).2; have := (h_a2).1; have := (h_a2).2; have := (h_a3).1; have := (h_a3).2; have := (h_a4).1; have := (h_a4).2; have := (h_e4).1; have := (h_e4).2; have := (h9).1; have := (h9).2; have : (0 : Int32).toInt = 0 := (by decide); omega
  have hm118 : 4 - (0 : Int32).toInt < (((5 : Nat) : Int) : Int) := by
    have := (h_a1).1; have := (h_a1).2; have := (h_a2).1; have := (h_a2).2; have := (h_a3).1; have := (h_a3).2; have := (h_a4).1; have := (h_a4).2; have := (h_e4).1; have := (h_e4).2; have : (0 : Int32).toInt = 0 := (by decide); omega
  exact W17_15 5 0 x11 0 e4 M4 Ra J3 H locs _ (iv_mono (iv_c (c := 0) (n := 0) (by decide)) (by decide) (by decide)) h9 (iv_mono (iv_c (c := 0) (n := 0) (by decide)) (by decide) (by decide)) h_e4 k8 w116 w117 hm118 hS (lv_sub hl [2, 1, 0, 3, 4, 5, 6, 7] rfl)
def Lt_X12_isAgain : WL := []
def LRt_X12_isAgain : WL := []
set_option maxRecDepth 100000 in
set_option maxHeartbeats 4000000 in
theorem t_X12_isAgain (l : Launch) (D : va_G) (cy : Nat → ClassId) (tx : (Nat → Nat) × (Nat → Nat)) (base Z : Nat) (K N : Nat → Nat) (Ma : MT) (Ra : RT) (Ja : JT) (hTy : Ty Z K N Ma Ra) (a0 : Nat) (hz_a0 : a0 < Z) (hk_a0 : K a0 = 12) (a1 : Int32) (h_a1 : iv 1 300 a1) (a2 : Int32) (h_a2 : iv 0 300 a2) : Met l yX12_isAgain [Cond.code yX12_isAgain cX12_isAgain 4 (some .boolean)] (md_rm 1 0 0) (va_Pc [.ref (base + a0), .int a1, .int a2] (md_U D cy tx base Z K N Ma Ra Ja)) (mQi D cy tx base (fun r u => TP Z K N Lt_X12_isAgain LRt_X12_isAgain Ma Ra u ∧ (iv 0 1 r))) 0 0 (fun q => base ≤ q) := by
  refine tw_ofW (L := Lt_X12_isAgain) (LR := LRt_X12_isAgain) (by decide) (Nat.le_of_ble_eq_true rfl) hTy ?_
  intro p e s m args below meth c Q ls hx hb hr hlocks hown hml hW hK hT hS hQ hl
  have hl : lv_has ls 4 [(0, .ref (base + a0)), (1, .int a1), (2, .int a2)] := hl
  refine lv_iconst (v := 0) hx hb dX12_isAgain_0 (by decide) ?_
  refine lv_istore_n (lv' := [(3, .int 0), (0, .ref (base + a0)), (1, .int a1), (2, .int a2)]) hx hb dX12_isAgain_1 rfl hl (by decide) rfl (fun ls hl => ?_)
  have W2_2 : ∀ (n_2 : Nat) (x1 : Int32) (M2 : MT) (R3 : RT) (J4 : JT) (H : Heap) (locs : List Loc) (ls : Array Slot) (h_x1 : iv 0 10 x1) (hm_2 : 10 - x1.toInt < (n_2 : Int)) (hS : SB D cy base Z K N Lt_X12_isAgain LRt_X12_isAgain Ma Ra M2 R3 J4 s H locs) (hl : lv_has ls 4 [(3, .int x1), (0, .ref (base + a0)), (1, .int a1), (2, .int a2)]), W p l e (md_rm 1 0 0) s m args below meth c H locs 0 0 Q (F0 m 2 ls []) := by
    intro n_2
    induction n_2 with
    | zero =>
      intro x1 M2 R3 J4 H locs ls h_x1 hm_2 hS hl
      exfalso
      have := (h_a1).1; have := (h_a1).2; have := (h_a2).1; have := (h_a2).2; have := (h_x1).1; have := (h_x1).2; omega
    | succ n_2 ih_2 =>
      intro x1 M2 R3 J4 H locs ls h_x1 hm_2 hS hl
      have f5 := hS.2.2.1
      have g6 := hS.2.2.2
      refine lv_iload_n hx hb dX12_isAgain_2 rfl (lv_at hl 0 rfl) ?_
      refine lv_bipush (v := 10) hx hb dX12_isAgain_3 (by decide) ?_
      refine lv_icmp_ge (tgt := 41) hx hb dX12_isAgain_5 (by decide) (fun c7 => ?_) (fun c7 => ?_)
      · have q8 : 10 ≤ x1.toInt := ti_le c7
        have h9 : iv 10 10 x1 := iv_geL (y := 10) h_x1 (iv_c (c := 10) (n := 10) (by decide)) q8 (by decide)
        refine lv_iconst (v := 1) hx hb dX12_isAgain_41 (by decide) ?_
        exact tw_endz hx hb hr hlocks hK hT hS hQ rfl ((iv_mono (iv_c (c := 1) (n := 1) (by decide)) (by decide) (by decide))) dX12_isAgain_42
      · have q10 : x1.toInt < 10 := ti_nle c7
        have h11 : iv 0 9 x1 := iv_ltL (y := 10) h_x1 (iv_c (c := 10) (n := 10) (by decide)) q10 (by decide)
        refine lv_aload_n hx hb dX12_isAgain_8 rfl (lv_at hl 1 rfl) ?_
        refine tw_getr hx hb hW hown hK hS f_X12_93_11 hz_a0 hk_a0 (t := 14) (n := 3010) rfl dX12_isAgain_9 (fun b12 k13 hz_b12 hk_b12 hn_b12 => ?_)
        have hn_b12 := hn_b12 (by decide)
        refine lv_bipush (v := 10) hx hb dX12_isAgain_12 (by decide) ?_
        refine lv_iload_n hx hb dX12_isAgain_14 rfl (lv_at hl 2 rfl) ?_
        refine tw_icmul (k := 10) (lo := 10) (hi := 3000) hx hb (by decide) h_a1 (by decide) ⟨by decide, by decide⟩ ⟨by decide, by decide⟩ dX12_isAgain_15 (fun x16 e15 h14 => ?_)
        refine lv_iload_n hx hb dX12_isAgain_16 rfl (lv_at hl 0 rfl) ?_
        refine tw_iadd (lo := 10) (hi := 3009) hx hb h14 h11 ⟨by decide, by decide⟩ ⟨by decide, by decide⟩ dX12_isAgain_17 (fun x19 e18 h17 => ?_)
        refine tw_iald hx hb hK hS hz_b12 hk_b12 (Or.inl rfl) hn_b12 (lo := (-2147483648)) (hi := 2147483647) h17 ⟨by decide, by decide⟩ rg_u14 dX12_isAgain_18 (fun x22 k21 h20 => ?_)
        refine lv_aload_n hx hb dX12_isAgain_19 rfl (lv_at hl 1 rfl) ?_
        refine tw_getrk hx hb hW hown hK hS f_X12_93_11 hz_a0 hk_a0 (b := b12) k13 dX12_isAgain_20 ?_
        refine lv_bipush (v := 10) hx hb dX12_isAgain_23 (by decide) ?_
        refine lv_iload_n hx hb dX12_isAgain_25 rfl (lv_at hl 3 rfl) ?_
        refine tw_icmul (k := 10) (lo := 0) (hi := 3000) hx hb (by decide) h_a2 (by decide) ⟨by decide, by decide⟩ ⟨by decide, by decide⟩ dX12_isAgain_26 (fun x25 e24 h23 => ?_)
        refine lv_iload_n hx hb dX12_isAgain_27 rfl (lv_at hl 0 rfl) ?_
        refine tw_iadd (lo := 0) (hi := 3009) hx hb h23 h11 ⟨by decide, by decide⟩ ⟨by decide, by decide⟩ dX12_isAgain_28 (fun x28 e27 h26 => ?_)
        refine tw_iald hx hb hK hS hz_b12 hk_b12 (Or.inl rfl) hn_b12 (lo := (-2147483648)) (hi := 2147483647) h26 ⟨by decide, by decide⟩ rg_u14 dX12_isAgain_29 (fun x31 k30 h29 => ?_)
        refine lv_icmp_eq (tgt := 35) hx hb dX12_isAgain_30 (by decide) (fun c32 => ?_) (fun c32 => ?_)
        · have q33 : x22.toInt = x31.toInt := ti_eq c32
          refine tw_iinc (lv' := fun x36 => [(3, .int x36), (0, .ref (base + a0)), (1, .int a1), (2, .int a2)]) (lo := 1) (hi := 10) hx hb dX12_isAgain_35 hl (k := 0) rfl h11 (by decide) ⟨by decide, by decide⟩ ⟨by decide, by decide⟩ (by decide) (fun _ => rfl) (fun x36 ls e35 h34 hl => ?_)
          refine lv_goto (tgt := 2) hx hb dX12_isAgain_38 (by decide) ?_
          have hm37 : 10 - x36.toInt < (n_2 : Int) := by
            have := (h_a1).1; have := (h_a1).2; have := (h_a2).1; have := (h_a2).2; have := (h11).1; have := (h11).2; have := (h17).1; have := (h17).2; have := (h26).1; have := (h26).2; have := (h34).1; have := (h34).2; omega
          exact ih_2 x36 M2 R3 J4 H locs _ (iv_mono h34 (by decide) (by decide)) hm37 hS hl
        · have q38 : ¬ x22.toInt = x31.toInt := ti_ne c32
          refine lv_iconst (v := 0) hx hb dX12_isAgain_33 (by decide) ?_
          exact tw_endz hx hb hr hlocks hK hT hS hQ rfl ((iv_mono (iv_c (c := 0) (n := 0) (by decide)) (by decide) (by decide))) dX12_isAgain_34
  have hm39 : 10 - (0 : Int32).toInt < (((11 : Nat) : Int) : Int) := by
    have := (h_a1).1; have := (h_a1).2; have := (h_a2).1; have := (h_a2).2; have : (0 : Int32).toInt = 0 := (by decide); omega
  exact W2_2 11 0 Ma Ra Ja s.heap [] _ (iv_mono (iv_c (c := 0) (n := 0) (by decide)) (by decide) (by decide)) hm39 hS hl
def Lt_X12_isPoint : WL := []
def LRt_X12_isPoint : WL := []
set_option maxRecDepth 100000 in
set_option maxHeartbeats 4000000 in
theorem t_X12_isPoint (l : Launch) (D : va_G) (cy : Nat → ClassId) (tx : (Nat → Nat) × (Nat → Nat)) (base Z : Nat) (K N : Nat → Nat) (Ma : MT) (Ra : RT) (Ja : JT) (hTy : Ty Z K N Ma Ra) (a0 : Nat) (hz_a0 : a0 < Z) (hk_a0 : K a0 = 12) (a1 : Int32) (h_a1 : iv (-2147483648) 2147483647 a1) : Met l yX12_isPoint [Cond.code yX12_isPoint cX12_isPoint 2 (some .boolean)] (md_rm 1 0 0) (va_Pc [.ref (base + a0), .int a1] (md_U D cy tx base Z K N Ma Ra Ja)) (mQi D cy tx base (fun r u => TP Z K N Lt_X12_isPoint LRt_X12_isPoint Ma Ra u ∧ (iv 0 1 r ∧ (¬ r = 0 → iv 0 11 a1)))) 0 0 (fun q => base ≤ q) := by
  refine tw_ofW (L := Lt_X12_isPoint) (LR := LRt_X12_isPoint) (by decide) (Nat.le_of_ble_eq_true rfl) hTy ?_
  intro p e s m args below meth c Q ls hx hb hr hlocks hown hml hW hK hT hS hQ hl
  have hl : lv_has ls 2 [(0, .ref (base + a0)), (1, .int a1)] := hl
  refine lv_iload_n hx hb dX12_isPoint_0 rfl (lv_at hl 1 rfl) ?_
  refine lv_if_lt (tgt := 18) hx hb dX12_isPoint_1 (by decide) (fun c1 => ?_) (fun c1 => ?_)
  · have q2 : a1.toInt < 0 := ti_lt c1
    have h3 : iv (-2147483648) (-1) a1 := iv_ltL (y := 0) h_a1 (iv_c (c := 0) (n := 0) (by decide)) q2 (by decide)
    refine lv_iconst (v := 0) hx hb dX12_isPoint_18 (by decide) ?_
    exact tw_endz hx hb hr hlocks hK hT hS hQ rfl (⟨(iv_mono (iv_c (c := 0) (n := 0) (by decide)) (by decide) (by decide)), (fun h => absurd rfl h)⟩) dX12_isPoint_19
  · have q4 : 0 ≤ a1.toInt := ti_nlt c1
    have h5 : iv 0 2147483647 a1 := iv_geL (y := 0) h_a1 (iv_c (c := 0) (n := 0) (by decide)) q4 (by decide)
    refine lv_iload_n hx hb dX12_isPoint_4 rfl (lv_at hl 1 rfl) ?_
    refine lv_aload_n hx hb dX12_isPoint_5 rfl (lv_at hl 0 rfl) ?_
    refine tw_getr hx hb hW hown hK hS f_X12_45_11 hz_a0 hk_a0 (t := 23) (n := 226) rfl dX12_isPoint_6 (fun b6 k7 hz_b6 hk_b6 hn_b6 => ?_)
    have hn_b6 := hn_b6 (by decide)
    refine lv_iconst (v := 1) hx hb dX12_isPoint_9 (by decide) ?_
    refine tw_iald hx hb hK hS hz_b6 hk_b6 (Or.inr (by decide)) hn_b6 (lo := 0) (hi := 12) (iv_c (c := 1) (n := 1) (by decide)) ⟨by decide, by decide⟩ (rg_c (k0 := 1) rfl rfl rfl) dX12_isPoint_10 (fun x10 k9 h8 => ?_)
    refine lv_icmp_ge (tgt := 18) hx hb dX12_isPoint_11 (by decide) (fun c11 => ?_) (fun c11 => ?_)
    · have q12 : x10.toInt ≤ a1.toInt := ti_le c11
      refine lv_iconst (v := 0) hx hb dX12_isPoint_18 (by decide) ?_
      exact tw_endz hx hb hr hlocks hK hT hS hQ rfl (⟨(iv_mono (iv_c (c := 0) (n := 0) (by decide)) (by decide) (by decide)), (fun h => absurd rfl h)⟩) dX12_isPoint_19
    · have q13 : a1.toInt < x10.toInt := ti_nle c11
      have h14 : iv 0 11 a1 := iv_ltL (y := x10) h5 h8 q13 (by decide)
      have h15 : iv 1 12 x10 := iv_gtL (y := a1) h8 h5 q13 (by decide)
      refine lv_iconst (v := 1) hx hb dX12_isPoint_14 (by decide) ?_
      refine lv_goto (tgt := 19) hx hb dX12_isPoint_15 (by decide) ?_
      exact tw_endz hx hb hr hlocks hK hT hS hQ rfl (⟨(iv_mono (iv_c (c := 1) (n := 1) (by decide)) (by decide) (by decide)), (fun _ => h14)⟩) dX12_isPoint_19
def Lt_X12_isPresent : WL := []
def LRt_X12_isPresent : WL := []
set_option maxRecDepth 100000 in
set_option maxHeartbeats 4000000 in
theorem t_X12_isPresent (l : Launch) (D : va_G) (cy : Nat → ClassId) (tx : (Nat → Nat) × (Nat → Nat)) (base Z : Nat) (K N : Nat → Nat) (Ma : MT) (Ra : RT) (Ja : JT) (hTy : Ty Z K N Ma Ra) (a0 : Nat) (hz_a0 : a0 < Z) (hk_a0 : K a0 = 12) (a1 : Int32) (h_a1 : iv (-2147483648) 2147483647 a1) : Met l yX12_isPresent [Cond.code yX12_isPresent cX12_isPresent 2 (some .boolean)] (md_rm 2 0 0) (va_Pc [.ref (base + a0), .int a1] (md_U D cy tx base Z K N Ma Ra Ja)) (mQi D cy tx base (fun r u => TP Z K N Lt_X12_isPresent LRt_X12_isPresent Ma Ra u ∧ (iv 0 1 r ∧ (¬ r = 0 → iv 0 9 a1)))) 0 0 (fun q => base ≤ q) := by
  refine tw_ofW (L := Lt_X12_isPresent) (LR := LRt_X12_isPresent) (by decide) (Nat.le_of_ble_eq_true rfl) hTy ?_
  intro p e s m args below meth c Q ls hx hb hr hlocks hown hml hW hK hT hS hQ hl
  have hl : lv_has ls 2 [(0, .ref (base + a0)), (1, .int a1)] := hl
  refine lv_aload_n hx hb dX12_isPresent_0 rfl (lv_at hl 0 rfl) ?_
  refine lv_iload_n hx hb dX12_isPresent_1 rfl (lv_at hl 1 rfl) ?_
  refine tw_goi hS (md_runV (As := [.int a1]) (rest := []) hx hb hml hown hW hK hT hS.1 (t_X12_isMember l D cy tx base Z K N Ma Ra Ja hS.2.1 a0 hz_a0 hk_a0 a1 h_a1) s_X12_319 ⟨rfl, rfl, ⟨Nat.le_of_ble_eq_true rfl, Nat.le_of_ble_eq_true rfl⟩, ⟨Nat.le_of_ble_eq_true rfl, Nat.le_of_ble_eq_true rfl⟩⟩ hz_a0 hk_a0 (by decide) rfl rfl hl.1 rfl (Nat.le_of_ble_eq_true rfl) dX12_isPresent_2) rfl rfl (fun x7 H locs M4 R5 J3 hS f1 g2 E6 => ?_)
  have eM4 := Fr.nil f1 rfl
  subst eM4
  have eR5 := Fr.nil g2 rfl
  subst eR5
  obtain ⟨h_x7, p8⟩ := E6
  refine lv_if_eq (tgt := 25) hx hb dX12_isPresent_5 (by decide) (fun c9 => ?_) (fun c9 => ?_)
  · have q10 : x7.toInt = 0 := ti_eq c9
    have h11 : iv 0 0 x7 := ⟨by have := (h_x7).1; have := ((iv_c (c := 0) (n := 0) (by decide))).1; omega, by have := (h_x7).2; have := ((iv_c (c := 0) (n := 0) (by decide))).2; omega⟩
    refine lv_iconst (v := 0) hx hb dX12_isPresent_25 (by decide) ?_
    exact tw_endz hx hb hr hlocks hK hT hS hQ rfl (⟨(iv_mono (iv_c (c := 0) (n := 0) (by decide)) (by decide) (by decide)), (fun h => absurd rfl h)⟩) dX12_isPresent_26
  · have q12 : ¬ x7.toInt = 0 := ti_ne c9
    have h13 : iv 1 1 x7 := ⟨by have := (h_x7).1; have := ((iv_c (c := 0) (n := 0) (by decide))).1; have := ((iv_c (c := 0) (n := 0) (by decide))).2; omega, by have := (h_x7).2; have := ((iv_c (c := 0) (n := 0) (by decide))).1; have := ((iv_c (c := 0) (n := 0) (by decide))).2; omega⟩
    have h14 : iv 0 9 a1 := ⟨by have := (p8 c9).1; have := (h_a1).1; omega, by have := (p8 c9).2; have := (h_a1).2; omega⟩
    refine lv_aload_n hx hb dX12_isPresent_8 rfl (lv_at hl 0 rfl) ?_
    refine tw_getr hx hb hW hown hK hS f_X12_45_11 hz_a0 hk_a0 (t := 23) (n := 226) rfl dX12_isPresent_9 (fun b15 k16 hz_b15 hk_b15 hn_b15 => ?_)
    have hn_b15 := hn_b15 (by decide)
    refine lv_iconst (v := 2) hx hb dX12_isPresent_12 (by decide) ?_
    refine tw_iald hx hb hK hS hz_b15 hk_b15 (Or.inr (by decide)) hn_b15 (lo := (-2147483648)) (hi := 2147483647) (iv_c (c := 2) (n := 2) (by decide)) ⟨by decide, by decide⟩ (rg_c (k0 := 2) rfl rfl rfl) dX12_isPresent_13 (fun x19 k18 h17 => ?_)
    refine lv_iload_n hx hb dX12_isPresent_14 rfl (lv_at hl 1 rfl) ?_
    refine tw_goi hS (md_runS (As := [.int x19, .int a1]) (rest := []) hx hb hml hown hW hK hT hS.1 (t_X12_isOf l D cy tx base Z K N Ma Ra J3 hS.2.1 x19 h17 a1 h14) s_X12_322 ⟨rfl, rfl, ⟨Nat.le_of_ble_eq_true rfl, Nat.le_of_ble_eq_true rfl⟩, ⟨Nat.le_of_ble_eq_true rfl, Nat.le_of_ble_eq_true rfl⟩⟩ rfl hl.1 rfl (Nat.le_of_ble_eq_true rfl) dX12_isPresent_15) rfl rfl (fun x26 H locs M23 R24 J22 hS f20 g21 E25 => ?_)
    have eM23 := Fr.nil f20 rfl
    subst eM23
    have eR24 := Fr.nil g21 rfl
    subst eR24
    have h_x26 := E25
    clear E25
    refine lv_if_eq (tgt := 25) hx hb dX12_isPresent_18 (by decide) (fun c27 => ?_) (fun c27 => ?_)
    · have q28 : x26.toInt = 0 := ti_eq c27
      have h29 : iv 0 0 x26 := ⟨by have := (h_x26).1; have := ((iv_c (c := 0) (n := 0) (by decide))).1; omega, by have := (h_x26).2; have := ((iv_c (c := 0) (n := 0) (by decide))).2; omega⟩
      refine lv_iconst (v := 0) hx hb dX12_isPresent_25 (by decide) ?_
      exact tw_endz hx hb hr hlocks hK hT hS hQ rfl (⟨(iv_mono (iv_c (c := 0) (n := 0) (by decide)) (by decide) (by decide)), (fun h => absurd rfl h)⟩) dX12_isPresent_26
    · have q30 : ¬ x26.toInt = 0 := ti_ne c27
      have h31 : iv 1 1 x26 := ⟨by have := (h_x26).1; have := ((iv_c (c := 0) (n := 0) (by decide))).1; have := ((iv_c (c := 0) (n := 0) (by decide))).2; omega, by have := (h_x26).2; have := ((iv_c (c := 0) (n := 0) (by decide))).1; have := ((iv_c (c := 0) (n := 0) (by decide))).2; omega⟩
      refine lv_iconst (v := 1) hx hb dX12_isPresent_21 (by decide) ?_
      refine lv_goto (tgt := 26) hx hb dX12_isPresent_22 (by decide) ?_
      exact tw_endz hx hb hr hlocks hK hT hS hQ rfl (⟨(iv_mono (iv_c (c := 1) (n := 1) (by decide)) (by decide) (by decide)), (fun _ => h14)⟩) dX12_isPresent_26
def Lt_X12_keepsDay : WL := [(14, 0, 2000000)]
def LRt_X12_keepsDay : WL := []
set_option maxRecDepth 100000 in
set_option maxHeartbeats 4000000 in
theorem t_X12_keepsDay (l : Launch) (D : va_G) (cy : Nat → ClassId) (tx : (Nat → Nat) × (Nat → Nat)) (base Z : Nat) (K N : Nat → Nat) (Ma : MT) (Ra : RT) (Ja : JT) (hTy : Ty Z K N Ma Ra) (a0 : Nat) (hz_a0 : a0 < Z) (hk_a0 : K a0 = 12) (a1 : Int32) (h_a1 : iv 0 300 a1) : Met l yX12_keepsDay [Cond.code yX12_keepsDay cX12_keepsDay 3 none] (md_rm 1 0 0) (va_Pc [.ref (base + a0), .int a1] (md_U D cy tx base Z K N Ma Ra Ja)) (mQv D cy tx base (fun u => TP Z K N Lt_X12_keepsDay LRt_X12_keepsDay Ma Ra u ∧ (True))) 0 0 (fun q => base ≤ q) := by
  refine tw_ofW (L := Lt_X12_keepsDay) (LR := LRt_X12_keepsDay) (by decide) (Nat.le_of_ble_eq_true rfl) hTy ?_
  intro p e s m args below meth c Q ls hx hb hr hlocks hown hml hW hK hT hS hQ hl
  have hl : lv_has ls 3 [(0, .ref (base + a0)), (1, .int a1)] := hl
  refine lv_iconst (v := 0) hx hb dX12_keepsDay_0 (by decide) ?_
  refine lv_istore_n (lv' := [(2, .int 0), (0, .ref (base + a0)), (1, .int a1)]) hx hb dX12_keepsDay_1 rfl hl (by decide) rfl (fun ls hl => ?_)
  have W2_2 : ∀ (n_2 : Nat) (x1 : Int32) (M2 : MT) (R3 : RT) (J4 : JT) (H : Heap) (locs : List Loc) (ls : Array Slot) (h_x1 : iv 0 10 x1) (hm_2 : 10 - x1.toInt < (n_2 : Int)) (hS : SB D cy base Z K N Lt_X12_keepsDay LRt_X12_keepsDay Ma Ra M2 R3 J4 s H locs) (hl : lv_has ls 3 [(2, .int x1), (0, .ref (base + a0)), (1, .int a1)]), W p l e (md_rm 1 0 0) s m args below meth c H locs 0 0 Q (F0 m 2 ls []) := by
    intro n_2
    induction n_2 with
    | zero =>
      intro x1 M2 R3 J4 H locs ls h_x1 hm_2 hS hl
      exfalso
      have := (h_a1).1; have := (h_a1).2; have := (h_x1).1; have := (h_x1).2; omega
    | succ n_2 ih_2 =>
      intro x1 M2 R3 J4 H locs ls h_x1 hm_2 hS hl
      have f5 := hS.2.2.1
      have g6 := hS.2.2.2
      refine lv_iload_n hx hb dX12_keepsDay_2 rfl (lv_at hl 0 rfl) ?_
      refine lv_bipush (v := 10) hx hb dX12_keepsDay_3 (by decide) ?_
      refine lv_icmp_ge (tgt := 48) hx hb dX12_keepsDay_5 (by decide) (fun c7 => ?_) (fun c7 => ?_)
      · have q8 : 10 ≤ x1.toInt := ti_le c7
        have h9 : iv 10 10 x1 := iv_geL (y := 10) h_x1 (iv_c (c := 10) (n := 10) (by decide)) q8 (by decide)
        refine lv_aload_n hx hb dX12_keepsDay_48 rfl (lv_at hl 1 rfl) ?_
        refine tw_getr hx hb hW hown hK hS f_X12_99_11 hz_a0 hk_a0 (t := 14) (n := 301) rfl dX12_keepsDay_49 (fun b10 k11 hz_b10 hk_b10 hn_b10 => ?_)
        have hn_b10 := hn_b10 (by decide)
        refine lv_iload_n hx hb dX12_keepsDay_52 rfl (lv_at hl 2 rfl) ?_
        refine lv_aload_n hx hb dX12_keepsDay_53 rfl (lv_at hl 1 rfl) ?_
        refine tw_geti hx hb hW hown hK hS f_X12_407_11 hz_a0 hk_a0 (lo := (-2147483648)) (hi := 2147483647) rfl dX12_keepsDay_54 (fun x14 k13 h12 => ?_)
        refine tw_iast hx hb hK hS hz_b10 hk_b10 (Or.inl rfl) hn_b10 h_a1 ⟨by decide, by decide⟩ h12 (rg_s14 ⟨by decide, by decide⟩) (jl := 0) (jh := 1999999) ⟨by decide, by decide⟩ rfl dX12_keepsDay_57 (fun H locs M17 hS k15 f16 => ?_)
        exact tw_endv hx hb hr hlocks hK hT hS hQ (trivial) dX12_keepsDay_58
      · have q18 : x1.toInt < 10 := ti_nle c7
        have h19 : iv 0 9 x1 := iv_ltL (y := 10) h_x1 (iv_c (c := 10) (n := 10) (by decide)) q18 (by decide)
        refine lv_aload_n hx hb dX12_keepsDay_8 rfl (lv_at hl 1 rfl) ?_
        refine tw_getr hx hb hW hown hK hS f_X12_93_11 hz_a0 hk_a0 (t := 14) (n := 3010) rfl dX12_keepsDay_9 (fun b20 k21 hz_b20 hk_b20 hn_b20 => ?_)
        have hn_b20 := hn_b20 (by decide)
        refine lv_bipush (v := 10) hx hb dX12_keepsDay_12 (by decide) ?_
        refine lv_iload_n hx hb dX12_keepsDay_14 rfl (lv_at hl 2 rfl) ?_
        refine tw_icmul (k := 10) (lo := 0) (hi := 3000) hx hb (by decide) h_a1 (by decide) ⟨by decide, by decide⟩ ⟨by decide, by decide⟩ dX12_keepsDay_15 (fun x24 e23 h22 => ?_)
        refine lv_iload_n hx hb dX12_keepsDay_16 rfl (lv_at hl 0 rfl) ?_
        refine tw_iadd (lo := 0) (hi := 3009) hx hb h22 h19 ⟨by decide, by decide⟩ ⟨by decide, by decide⟩ dX12_keepsDay_17 (fun x27 e26 h25 => ?_)
        refine lv_aload_n hx hb dX12_keepsDay_18 rfl (lv_at hl 1 rfl) ?_
        refine tw_getr hx hb hW hown hK hS f_X12_51_11 hz_a0 hk_a0 (t := 30) (n := 10) rfl dX12_keepsDay_19 (fun b28 k29 hz_b28 hk_b28 hn_b28 => ?_)
        have hn_b28 := hn_b28 (by decide)
        refine lv_iload_n hx hb dX12_keepsDay_22 rfl (lv_at hl 0 rfl) ?_
        refine tw_iald hx hb hK hS hz_b28 hk_b28 (Or.inr (by decide)) hn_b28 (lo := 0) (hi := 9999) h19 ⟨by decide, by decide⟩ rg_u30 dX12_keepsDay_23 (fun x32 k31 h30 => ?_)
        refine tw_iast hx hb hK hS hz_b20 hk_b20 (Or.inl rfl) hn_b20 h25 ⟨by decide, by decide⟩ h30 (rg_s14 ⟨by decide, by decide⟩) (jl := 0) (jh := 1999999) ⟨by decide, by decide⟩ rfl dX12_keepsDay_24 (fun H locs M35 hS k33 f34 => ?_)
        refine lv_aload_n hx hb dX12_keepsDay_25 rfl (lv_at hl 1 rfl) ?_
        refine tw_getr hx hb hW hown hK hS f_X12_96_11 hz_a0 hk_a0 (t := 14) (n := 3010) rfl dX12_keepsDay_26 (fun b36 k37 hz_b36 hk_b36 hn_b36 => ?_)
        have hn_b36 := hn_b36 (by decide)
        refine lv_bipush (v := 10) hx hb dX12_keepsDay_29 (by decide) ?_
        refine lv_iload_n hx hb dX12_keepsDay_31 rfl (lv_at hl 2 rfl) ?_
        refine tw_icmul (k := 10) (lo := 0) (hi := 3000) hx hb (by decide) h_a1 (by decide) ⟨by decide, by decide⟩ ⟨by decide, by decide⟩ dX12_keepsDay_32 (fun x40 e39 h38 => ?_)
        refine lv_iload_n hx hb dX12_keepsDay_33 rfl (lv_at hl 0 rfl) ?_
        refine tw_iadd (lo := 0) (hi := 3009) hx hb h38 h19 ⟨by decide, by decide⟩ ⟨by decide, by decide⟩ dX12_keepsDay_34 (fun x43 e42 h41 => ?_)
        refine lv_aload_n hx hb dX12_keepsDay_35 rfl (lv_at hl 1 rfl) ?_
        refine tw_getr hx hb hW hown hK hS f_X12_57_11 hz_a0 hk_a0 (t := 14) (n := 10) rfl dX12_keepsDay_36 (fun b44 k45 hz_b44 hk_b44 hn_b44 => ?_)
        have hn_b44 := hn_b44 (by decide)
        refine lv_iload_n hx hb dX12_keepsDay_39 rfl (lv_at hl 0 rfl) ?_
        refine tw_iald hx hb hK hS hz_b44 hk_b44 (Or.inl rfl) hn_b44 (lo := (-2147483648)) (hi := 2147483647) h19 ⟨by decide, by decide⟩ rg_u14 dX12_keepsDay_40 (fun x48 k47 h46 => ?_)
        refine tw_iast hx hb hK hS hz_b36 hk_b36 (Or.inl rfl) hn_b36 h41 ⟨by decide, by decide⟩ h46 (rg_s14 ⟨by decide, by decide⟩) (jl := 0) (jh := 1999999) ⟨by decide, by decide⟩ rfl dX12_keepsDay_41 (fun H locs M51 hS k49 f50 => ?_)
        refine tw_iinc (lv' := fun x54 => [(2, .int x54), (0, .ref (base + a0)), (1, .int a1)]) (lo := 1) (hi := 10) hx hb dX12_keepsDay_42 hl (k := 0) rfl h19 (by decide) ⟨by decide, by decide⟩ ⟨by decide, by decide⟩ (by decide) (fun _ => rfl) (fun x54 ls e53 h52 hl => ?_)
        refine lv_goto (tgt := 2) hx hb dX12_keepsDay_45 (by decide) ?_
        have hm55 : 10 - x54.toInt < (n_2 : Int) := by
          have := (h_a1).1; have := (h_a1).2; have := (h19).1; have := (h19).2; have := (h25).1; have := (h25).2; have := (h41).1; have := (h41).2; have := (h52).1; have := (h52).2; omega
        exact ih_2 x54 M51 R3 J4 H locs _ (iv_mono h52 (by decide) (by decide)) hm55 hS hl
  have hm56 : 10 - (0 : Int32).toInt < (((11 : Nat) : Int) : Int) := by
    have := (h_a1).1; have := (h_a1).2; have : (0 : Int32).toInt = 0 := (by decide); omega
  exact W2_2 11 0 Ma Ra Ja s.heap [] _ (iv_mono (iv_c (c := 0) (n := 0) (by decide)) (by decide) (by decide)) hm56 hS hl
def Lt_X12_sayingBy : WL := []
def LRt_X12_sayingBy : WL := []
set_option maxRecDepth 100000 in
set_option maxHeartbeats 4000000 in
theorem t_X12_sayingBy (l : Launch) (D : va_G) (cy : Nat → ClassId) (tx : (Nat → Nat) × (Nat → Nat)) (base Z : Nat) (K N : Nat → Nat) (Ma : MT) (Ra : RT) (Ja : JT) (hTy : Ty Z K N Ma Ra) (a0 : Nat) (hz_a0 : a0 < Z) (hk_a0 : K a0 = 12) (a1 : Int32) (h_a1 : iv (-2147483648) 2147483647 a1) (a2 : Int32) (h_a2 : iv 0 9 a2) (a3 : Int32) (h_a3 : iv (-2147483648) 2147483647 a3) : Met l yX12_sayingBy [Cond.code yX12_sayingBy cX12_sayingBy 6 (some .int)] (md_rm 2 0 0) (va_Pc [.ref (base + a0), .int a1, .int a2, .int a3] (md_U D cy tx base Z K N Ma Ra Ja)) (mQi D cy tx base (fun r u => TP Z K N Lt_X12_sayingBy LRt_X12_sayingBy Ma Ra u ∧ (iv 0 2 r))) 0 0 (fun q => base ≤ q) := by
  refine tw_ofW (L := Lt_X12_sayingBy) (LR := LRt_X12_sayingBy) (by decide) (Nat.le_of_ble_eq_true rfl) hTy ?_
  intro p e s m args below meth c Q ls hx hb hr hlocks hown hml hW hK hT hS hQ hl
  have hl : lv_has ls 6 [(0, .ref (base + a0)), (1, .int a1), (2, .int a2), (3, .int a3)] := hl
  refine lv_iload_n hx hb dX12_sayingBy_0 rfl (lv_at hl 3 rfl) ?_
  refine lv_istore (lv' := [(4, .int a3), (0, .ref (base + a0)), (1, .int a1), (2, .int a2), (3, .int a3)]) hx hb dX12_sayingBy_1 hl (by decide) rfl (fun ls hl => ?_)
  refine lv_bipush (v := 9) hx hb dX12_sayingBy_3 (by decide) ?_
  refine lv_istore (lv' := [(5, .int 9), (4, .int a3), (0, .ref (base + a0)), (1, .int a1), (2, .int a2), (3, .int a3)]) hx hb dX12_sayingBy_5 hl (by decide) rfl (fun ls hl => ?_)
  have W7_3 : ∀ (n_3 : Nat) (x1 : Int32) (x2 : Int32) (M3 : MT) (R4 : RT) (J5 : JT) (H : Heap) (locs : List Loc) (ls : Array Slot) (h_x1 : iv (-2147483648) 2147483647 x1) (h_x2 : iv 0 9 x2) (hm_3 : x2.toInt - 0 < (n_3 : Int)) (hS : SB D cy base Z K N Lt_X12_sayingBy LRt_X12_sayingBy Ma Ra M3 R4 J5 s H locs) (hl : lv_has ls 6 [(4, .int x1), (5, .int x2), (0, .ref (base + a0)), (1, .int a1), (2, .int a2), (3, .int a3)]), W p l e (md_rm 2 0 0) s m args below meth c H locs 0 0 Q (F0 m 7 ls []) := by
    intro n_3
    induction n_3 with
    | zero =>
      intro x1 x2 M3 R4 J5 H locs ls h_x1 h_x2 hm_3 hS hl
      exfalso
      have := (h_a1).1; have := (h_a1).2; have := (h_a2).1; have := (h_a2).2; have := (h_a3).1; have := (h_a3).2; have := (h_x2).1; have := (h_x2).2; omega
    | succ n_3 ih_3 =>
      intro x1 x2 M3 R4 J5 H locs ls h_x1 h_x2 hm_3 hS hl
      have f6 := hS.2.2.1
      have g7 := hS.2.2.2
      refine lv_iload hx hb dX12_sayingBy_7 (lv_at hl 1 rfl) ?_
      refine lv_iload_n hx hb dX12_sayingBy_9 rfl (lv_at hl 4 rfl) ?_
      refine lv_icmp_le (tgt := 39) hx hb dX12_sayingBy_10 (by decide) (fun c8 => ?_) (fun c8 => ?_)
      · have q9 : x2.toInt ≤ a2.toInt := ti_le c8
        refine lv_iload hx hb dX12_sayingBy_39 (lv_at hl 0 rfl) ?_
        refine lv_iconst (v := 3) hx hb dX12_sayingBy_41 (by decide) ?_
        refine tw_iremw hx hb (iv_c (c := 3) (n := 3) (by decide)) (Or.inl (by decide)) dX12_sayingBy_42 (fun x11 => ?_)
        have h10 := iv_any x11
        refine lv_if_ne (tgt := 50) hx hb dX12_sayingBy_43 (by decide) (fun c12 => ?_) (fun c12 => ?_)
        · have q13 : ¬ x11.toInt = 0 := ti_ne c12
          refine lv_iload hx hb dX12_sayingBy_50 (lv_at hl 0 rfl) ?_
          refine lv_iconst (v := 3) hx hb dX12_sayingBy_52 (by decide) ?_
          refine tw_iremw hx hb (iv_c (c := 3) (n := 3) (by decide)) (Or.inl (by decide)) dX12_sayingBy_53 (fun x15 => ?_)
          have h14 := iv_any x15
          refine lv_iconst (v := 1) hx hb dX12_sayingBy_54 (by decide) ?_
          refine lv_icmp_ne (tgt := 62) hx hb dX12_sayingBy_55 (by decide) (fun c16 => ?_) (fun c16 => ?_)
          · have q17 : ¬ x15.toInt = 1 := ti_ne c16
            refine lv_iconst (v := 2) hx hb dX12_sayingBy_62 (by decide) ?_
            exact tw_endi hx hb hr hlocks hK hT hS hQ ((iv_mono (iv_c (c := 2) (n := 2) (by decide)) (by decide) (by decide))) dX12_sayingBy_63
          · have q18 : x15.toInt = 1 := ti_eq c16
            have h19 : iv 1 1 x15 := ⟨by have := (h14).1; have := ((iv_c (c := 1) (n := 1) (by decide))).1; omega, by have := (h14).2; have := ((iv_c (c := 1) (n := 1) (by decide))).2; omega⟩
            refine lv_iconst (v := 0) hx hb dX12_sayingBy_58 (by decide) ?_
            refine lv_goto (tgt := 63) hx hb dX12_sayingBy_59 (by decide) ?_
            exact tw_endi hx hb hr hlocks hK hT hS hQ ((iv_mono (iv_c (c := 0) (n := 0) (by decide)) (by decide) (by decide))) dX12_sayingBy_63
        · have q20 : x11.toInt = 0 := ti_eq c12
          have h21 : iv 0 0 x11 := ⟨by have := (h10).1; have := ((iv_c (c := 0) (n := 0) (by decide))).1; omega, by have := (h10).2; have := ((iv_c (c := 0) (n := 0) (by decide))).2; omega⟩
          refine lv_iconst (v := 1) hx hb dX12_sayingBy_46 (by decide) ?_
          refine lv_goto (tgt := 63) hx hb dX12_sayingBy_47 (by decide) ?_
          exact tw_endi hx hb hr hlocks hK hT hS hQ ((iv_mono (iv_c (c := 1) (n := 1) (by decide)) (by decide) (by decide))) dX12_sayingBy_63
      · have q22 : a2.toInt < x2.toInt := ti_nle c8
        have h23 : iv 1 9 x2 := iv_gtL (y := a2) h_x2 h_a2 q22 (by decide)
        have h24 : iv 0 8 a2 := iv_ltL (y := x2) h_a2 h_x2 q22 (by decide)
        refine lv_iload_n hx hb dX12_sayingBy_13 rfl (lv_at hl 3 rfl) ?_
        refine lv_iload hx hb dX12_sayingBy_14 (lv_at hl 1 rfl) ?_
        refine tw_goi hS (md_runS (As := [.int a1, .int x2]) (rest := []) hx hb hml hown hW hK hT hS.1 (t_X12_isOf l D cy tx base Z K N M3 R4 J5 hS.2.1 a1 h_a1 x2 (iv_mono h23 (by decide) (by decide))) s_X12_322 ⟨rfl, rfl, ⟨Nat.le_of_ble_eq_true rfl, Nat.le_of_ble_eq_true rfl⟩, ⟨Nat.le_of_ble_eq_true rfl, Nat.le_of_ble_eq_true rfl⟩⟩ rfl hl.1 rfl (Nat.le_of_ble_eq_true rfl) dX12_sayingBy_16) rfl rfl (fun x31 H locs M28 R29 J27 hS f25 g26 E30 => ?_)
        have eM28 := Fr.nil f25 rfl
        subst eM28
        have eR29 := Fr.nil g26 rfl
        subst eR29
        have h_x31 := E30
        clear E30
        refine lv_if_eq (tgt := 29) hx hb dX12_sayingBy_19 (by decide) (fun c32 => ?_) (fun c32 => ?_)
        · have q33 : x31.toInt = 0 := ti_eq c32
          have h34 : iv 0 0 x31 := ⟨by have := (h_x31).1; have := ((iv_c (c := 0) (n := 0) (by decide))).1; omega, by have := (h_x31).2; have := ((iv_c (c := 0) (n := 0) (by decide))).2; omega⟩
          refine lv_iload hx hb dX12_sayingBy_29 (lv_at hl 0 rfl) ?_
          refine lv_istore (lv' := [(4, .int x1), (5, .int x2), (0, .ref (base + a0)), (1, .int a1), (2, .int a2), (3, .int a3)]) hx hb dX12_sayingBy_31 hl (by decide) rfl (fun ls hl => ?_)
          refine tw_iinc (lv' := fun x37 => [(5, .int x37), (4, .int x1), (0, .ref (base + a0)), (1, .int a1), (2, .int a2), (3, .int a3)]) (lo := 0) (hi := 8) hx hb dX12_sayingBy_33 hl (k := 1) rfl h23 (by decide) ⟨by decide, by decide⟩ ⟨by decide, by decide⟩ (by decide) (fun _ => rfl) (fun x37 ls e36 h35 hl => ?_)
          refine lv_goto (tgt := 7) hx hb dX12_sayingBy_36 (by decide) ?_
          have hm38 : x37.toInt - 0 < (n_3 : Int) := by
            have := (h_a1).1; have := (h_a1).2; have := (h24).1; have := (h24).2; have := (h_a3).1; have := (h_a3).2; have := (h23).1; have := (h23).2; have := (h35).1; have := (h35).2; omega
          exact ih_3 x1 x37 M3 R4 J27 H locs _ h_x1 (iv_mono h35 (by decide) (by decide)) hm38 hS (lv_sub hl [1, 0, 2, 3, 4, 5] rfl)
        · have q39 : ¬ x31.toInt = 0 := ti_ne c32
          have h40 : iv 1 1 x31 := ⟨by have := (h_x31).1; have := ((iv_c (c := 0) (n := 0) (by decide))).1; have := ((iv_c (c := 0) (n := 0) (by decide))).2; omega, by have := (h_x31).2; have := ((iv_c (c := 0) (n := 0) (by decide))).1; have := ((iv_c (c := 0) (n := 0) (by decide))).2; omega⟩
          refine lv_iload hx hb dX12_sayingBy_22 (lv_at hl 0 rfl) ?_
          refine lv_iconst (v := 3) hx hb dX12_sayingBy_24 (by decide) ?_
          refine tw_idivw hx hb (iv_c (c := 3) (n := 3) (by decide)) (Or.inl (by decide)) dX12_sayingBy_25 (fun x42 => ?_)
          have h41 := iv_any x42
          refine lv_goto (tgt := 31) hx hb dX12_sayingBy_26 (by decide) ?_
          refine lv_istore (lv' := [(4, .int x42), (5, .int x2), (0, .ref (base + a0)), (1, .int a1), (2, .int a2), (3, .int a3)]) hx hb dX12_sayingBy_31 hl (by decide) rfl (fun ls hl => ?_)
          refine tw_iinc (lv' := fun x45 => [(5, .int x45), (4, .int x42), (0, .ref (base + a0)), (1, .int a1), (2, .int a2), (3, .int a3)]) (lo := 0) (hi := 8) hx hb dX12_sayingBy_33 hl (k := 1) rfl h23 (by decide) ⟨by decide, by decide⟩ ⟨by decide, by decide⟩ (by decide) (fun _ => rfl) (fun x45 ls e44 h43 hl => ?_)
          refine lv_goto (tgt := 7) hx hb dX12_sayingBy_36 (by decide) ?_
          have hm46 : x45.toInt - 0 < (n_3 : Int) := by
            have := (h_a1).1; have := (h_a1).2; have := (h24).1; have := (h24).2; have := (h_a3).1; have := (h_a3).2; have := (h23).1; have := (h23).2; have := (h43).1; have := (h43).2; omega
          exact ih_3 x42 x45 M3 R4 J27 H locs _ h41 (iv_mono h43 (by decide) (by decide)) hm46 hS (lv_sub hl [1, 0, 2, 3, 4, 5] rfl)
  have hm47 : (9 : Int32).toInt - 0 < (((10 : Nat) : Int) : Int) := by
    have := (h_a1).1; have := (h_a1).2; have := (h_a2).1; have := (h_a2).2; have := (h_a3).1; have := (h_a3).2; have : (9 : Int32).toInt = 9 := (by decide); omega
  exact W7_3 10 a3 9 Ma Ra Ja s.heap [] _ h_a3 (iv_mono (iv_c (c := 9) (n := 9) (by decide)) (by decide) (by decide)) hm47 hS (lv_sub hl [1, 0, 2, 3, 4, 5] rfl)
def Lt_X12_putsAll : WL := [(12, 31, 33)]
def LRt_X12_putsAll : WL := []
set_option maxRecDepth 100000 in
set_option maxHeartbeats 4000000 in
theorem t_X12_putsAll (l : Launch) (D : va_G) (cy : Nat → ClassId) (tx : (Nat → Nat) × (Nat → Nat)) (base Z : Nat) (K N : Nat → Nat) (Ma : MT) (Ra : RT) (Ja : JT) (hTy : Ty Z K N Ma Ra) (a0 : Nat) (hz_a0 : a0 < Z) (hk_a0 : K a0 = 12) (a1 : Int32) (h_a1 : iv (-2147483648) 2147483647 a1) (a2 : Int32) (h_a2 : iv (-2147483648) 2147483647 a2) (a3 : Int32) (h_a3 : iv 0 11 a3) : Met l yX12_putsAll [Cond.code yX12_putsAll cX12_putsAll 7 (some .int)] (md_rm 3 0 0) (va_Pc [.ref (base + a0), .int a1, .int a2, .int a3] (md_U D cy tx base Z K N Ma Ra Ja)) (mQi D cy tx base (fun r u => TP Z K N Lt_X12_putsAll LRt_X12_putsAll Ma Ra u ∧ (iv (-2147483648) 2147483647 r))) 0 0 (fun q => base ≤ q) := by
  refine tw_ofW (L := Lt_X12_putsAll) (LR := LRt_X12_putsAll) (by decide) (Nat.le_of_ble_eq_true rfl) hTy ?_
  intro p e s m args below meth c Q ls hx hb hr hlocks hown hml hW hK hT hS hQ hl
  have hl : lv_has ls 7 [(0, .ref (base + a0)), (1, .int a1), (2, .int a2), (3, .int a3)] := hl
  refine lv_iconst (v := 0) hx hb dX12_putsAll_0 (by decide) ?_
  refine lv_istore (lv' := [(4, .int 0), (0, .ref (base + a0)), (1, .int a1), (2, .int a2), (3, .int a3)]) hx hb dX12_putsAll_1 hl (by decide) rfl (fun ls hl => ?_)
  refine lv_iconst (v := 0) hx hb dX12_putsAll_3 (by decide) ?_
  refine lv_istore (lv' := [(5, .int 0), (4, .int 0), (0, .ref (base + a0)), (1, .int a1), (2, .int a2), (3, .int a3)]) hx hb dX12_putsAll_4 hl (by decide) rfl (fun ls hl => ?_)
  have W6_3 : ∀ (n_3 : Nat) (x1 : Int32) (x2 : Int32) (M3 : MT) (R4 : RT) (J5 : JT) (H : Heap) (locs : List Loc) (ls : Array Slot) (h_x1 : iv (-2147483648) 2147483647 x1) (h_x2 : iv 0 10 x2) (hm_3 : 10 - x2.toInt < (n_3 : Int)) (hS : SB D cy base Z K N Lt_X12_putsAll LRt_X12_putsAll Ma Ra M3 R4 J5 s H locs) (hl : lv_has ls 7 [(4, .int x1), (5, .int x2), (0, .ref (base + a0)), (1, .int a1), (2, .int a2), (3, .int a3)]), W p l e (md_rm 3 0 0) s m args below meth c H locs 0 0 Q (F0 m 6 ls []) := by
    intro n_3
    induction n_3 with
    | zero =>
      intro x1 x2 M3 R4 J5 H locs ls h_x1 h_x2 hm_3 hS hl
      exfalso
      have := (h_a1).1; have := (h_a1).2; have := (h_a2).1; have := (h_a2).2; have := (h_a3).1; have := (h_a3).2; have := (h_x2).1; have := (h_x2).2; omega
    | succ n_3 ih_3 =>
      intro x1 x2 M3 R4 J5 H locs ls h_x1 h_x2 hm_3 hS hl
      have f6 := hS.2.2.1
      have g7 := hS.2.2.2
      refine lv_iload hx hb dX12_putsAll_6 (lv_at hl 1 rfl) ?_
      refine lv_aload_n hx hb dX12_putsAll_8 rfl (lv_at hl 2 rfl) ?_
      refine tw_getr hx hb hW hown hK hS f_X12_45_11 hz_a0 hk_a0 (t := 23) (n := 226) rfl dX12_putsAll_9 (fun b8 k9 hz_b8 hk_b8 hn_b8 => ?_)
      have hn_b8 := hn_b8 (by decide)
      refine lv_iconst (v := 0) hx hb dX12_putsAll_12 (by decide) ?_
      refine tw_iald hx hb hK hS hz_b8 hk_b8 (Or.inr (by decide)) hn_b8 (lo := 0) (hi := 10) (iv_c (c := 0) (n := 0) (by decide)) ⟨by decide, by decide⟩ (rg_c (k0 := 0) rfl rfl rfl) dX12_putsAll_13 (fun x12 k11 h10 => ?_)
      refine lv_icmp_ge (tgt := 78) hx hb dX12_putsAll_14 (by decide) (fun c13 => ?_) (fun c13 => ?_)
      · have q14 : x12.toInt ≤ x2.toInt := ti_le c13
        refine lv_iload hx hb dX12_putsAll_78 (lv_at hl 0 rfl) ?_
        exact tw_endi hx hb hr hlocks hK hT hS hQ (h_x1) dX12_putsAll_80
      · have q15 : x2.toInt < x12.toInt := ti_nle c13
        have h16 : iv 0 9 x2 := iv_ltL (y := x12) h_x2 h10 q15 (by decide)
        have h17 : iv 1 10 x12 := iv_gtL (y := x2) h10 h_x2 q15 (by decide)
        refine lv_iload_n hx hb dX12_putsAll_17 rfl (lv_at hl 3 rfl) ?_
        refine lv_iload hx hb dX12_putsAll_18 (lv_at hl 1 rfl) ?_
        refine tw_goi hS (md_runS (As := [.int a1, .int x2]) (rest := []) hx hb hml hown hW hK hT hS.1 (t_X12_isOf l D cy tx base Z K N M3 R4 J5 hS.2.1 a1 h_a1 x2 h16) s_X12_322 ⟨rfl, rfl, ⟨Nat.le_of_ble_eq_true rfl, Nat.le_of_ble_eq_true rfl⟩, ⟨Nat.le_of_ble_eq_true rfl, Nat.le_of_ble_eq_true rfl⟩⟩ rfl hl.1 rfl (Nat.le_of_ble_eq_true rfl) dX12_putsAll_20) rfl rfl (fun x24 H locs M21 R22 J20 hS f18 g19 E23 => ?_)
        have eM21 := Fr.nil f18 rfl
        subst eM21
        have eR22 := Fr.nil g19 rfl
        subst eR22
        have h_x24 := E23
        clear E23
        refine lv_if_ne (tgt := 29) hx hb dX12_putsAll_23 (by decide) (fun c25 => ?_) (fun c25 => ?_)
        · have q26 : ¬ x24.toInt = 0 := ti_ne c25
          have h27 : iv 1 1 x24 := ⟨by have := (h_x24).1; have := ((iv_c (c := 0) (n := 0) (by decide))).1; have := ((iv_c (c := 0) (n := 0) (by decide))).2; omega, by have := (h_x24).2; have := ((iv_c (c := 0) (n := 0) (by decide))).1; have := ((iv_c (c := 0) (n := 0) (by decide))).2; omega⟩
          refine lv_aload_n hx hb dX12_putsAll_29 rfl (lv_at hl 2 rfl) ?_
          refine lv_iload_n hx hb dX12_putsAll_30 rfl (lv_at hl 3 rfl) ?_
          refine lv_iload hx hb dX12_putsAll_31 (lv_at hl 1 rfl) ?_
          refine lv_iload_n hx hb dX12_putsAll_33 rfl (lv_at hl 4 rfl) ?_
          refine tw_goi hS (md_runV (As := [.int a1, .int x2, .int a2]) (rest := []) hx hb hml hown hW hK hT hS.1 (t_X12_sayingBy l D cy tx base Z K N M3 R4 J20 hS.2.1 a0 hz_a0 hk_a0 a1 h_a1 x2 h16 a2 h_a2) s_X12_428 ⟨rfl, rfl, ⟨Nat.le_of_ble_eq_true rfl, Nat.le_of_ble_eq_true rfl⟩, ⟨Nat.le_of_ble_eq_true rfl, Nat.le_of_ble_eq_true rfl⟩⟩ hz_a0 hk_a0 (by decide) rfl rfl hl.1 rfl (Nat.le_of_ble_eq_true rfl) dX12_putsAll_34) rfl rfl (fun x34 H locs M31 R32 J30 hS f28 g29 E33 => ?_)
          have eM31 := Fr.nil f28 rfl
          subst eM31
          have eR32 := Fr.nil g29 rfl
          subst eR32
          have h_x34 := E33
          clear E33
          refine lv_istore (lv' := [(6, .int x34), (4, .int x1), (5, .int x2), (0, .ref (base + a0)), (1, .int a1), (2, .int a2), (3, .int a3)]) hx hb dX12_putsAll_37 hl (by decide) rfl (fun ls hl => ?_)
          refine lv_aload_n hx hb dX12_putsAll_39 rfl (lv_at hl 3 rfl) ?_
          refine lv_iload hx hb dX12_putsAll_40 (lv_at hl 2 rfl) ?_
          refine lv_iload hx hb dX12_putsAll_42 (lv_at hl 0 rfl) ?_
          refine tw_gov hS (md_runV (As := [.int x2, .int x34]) (rest := []) hx hb hml hown hW hK hT hS.1 (t_X12_sets l D cy tx base Z K N M3 R4 J30 hS.2.1 a0 hz_a0 hk_a0 x2 h16 x34 (iv_mono h_x34 (by decide) (by decide))) s_X12_377 ⟨rfl, rfl, ⟨Nat.le_of_ble_eq_true rfl, Nat.le_of_ble_eq_true rfl⟩, ⟨Nat.le_of_ble_eq_true rfl, Nat.le_of_ble_eq_true rfl⟩⟩ hz_a0 hk_a0 (by decide) rfl rfl hl.1 rfl (Nat.le_of_ble_eq_true rfl) dX12_putsAll_44) rfl rfl (fun H locs M38 R39 J37 hS f35 g36 E40 => ?_)
          have eR39 := Fr.nil g36 rfl
          subst eR39
          refine lv_iload hx hb dX12_putsAll_47 (lv_at hl 1 rfl) ?_
          refine lv_iload hx hb dX12_putsAll_49 (lv_at hl 0 rfl) ?_
          refine lv_aload_n hx hb dX12_putsAll_51 rfl (lv_at hl 3 rfl) ?_
          refine lv_iload hx hb dX12_putsAll_52 (lv_at hl 2 rfl) ?_
          refine lv_iload_n hx hb dX12_putsAll_54 rfl (lv_at hl 6 rfl) ?_
          refine tw_goi hS (md_runV (As := [.int x2, .int a3]) (rest := [.int x34, .int x1]) hx hb hml hown hW hK hT hS.1 (t_X12_worthOf l D cy tx base Z K N M38 R4 J37 hS.2.1 a0 hz_a0 hk_a0 x2 h16 a3 h_a3) s_X12_330 ⟨rfl, rfl, ⟨Nat.le_of_ble_eq_true rfl, Nat.le_of_ble_eq_true rfl⟩, ⟨Nat.le_of_ble_eq_true rfl, Nat.le_of_ble_eq_true rfl⟩⟩ hz_a0 hk_a0 (by decide) rfl rfl hl.1 rfl (Nat.le_of_ble_eq_true rfl) dX12_putsAll_55) rfl rfl (fun x47 H locs M44 R45 J43 hS f41 g42 E46 => ?_)
          have eM44 := Fr.nil f41 rfl
          subst eM44
          have eR45 := Fr.nil g42 rfl
          subst eR45
          have h_x47 := E46
          clear E46
          refine tw_goi hS (md_runS (As := [.int x47]) (rest := [.int x34, .int x1]) hx hb hml hown hW hK hT hS.1 (t_X12_truly l D cy tx base Z K N M38 R4 J43 hS.2.1 x47 h_x47) s_X12_354 ⟨rfl, rfl, ⟨Nat.le_of_ble_eq_true rfl, Nat.le_of_ble_eq_true rfl⟩, ⟨Nat.le_of_ble_eq_true rfl, Nat.le_of_ble_eq_true rfl⟩⟩ rfl hl.1 rfl (Nat.le_of_ble_eq_true rfl) dX12_putsAll_58) rfl rfl (fun x54 H locs M51 R52 J50 hS f48 g49 E53 => ?_)
          have eM51 := Fr.nil f48 rfl
          subst eM51
          have eR52 := Fr.nil g49 rfl
          subst eR52
          have h_x54 := E53
          clear E53
          refine lv_icmp_ne (tgt := 68) hx hb dX12_putsAll_61 (by decide) (fun c55 => ?_) (fun c55 => ?_)
          · have q56 : ¬ x34.toInt = x54.toInt := ti_ne c55
            refine lv_iconst (v := 1) hx hb dX12_putsAll_68 (by decide) ?_
            refine lv_iadd hx hb dX12_putsAll_69 ?_
            refine tw_top (fun x58 => ?_)
            have h57 := iv_any x58
            refine lv_istore (lv' := [(4, .int x58), (6, .int x34), (5, .int x2), (0, .ref (base + a0)), (1, .int a1), (2, .int a2), (3, .int a3)]) hx hb dX12_putsAll_70 hl (by decide) rfl (fun ls hl => ?_)
            refine tw_iinc (lv' := fun x61 => [(5, .int x61), (4, .int x58), (6, .int x34), (0, .ref (base + a0)), (1, .int a1), (2, .int a2), (3, .int a3)]) (lo := 1) (hi := 10) hx hb dX12_putsAll_72 hl (k := 2) rfl h16 (by decide) ⟨by decide, by decide⟩ ⟨by decide, by decide⟩ (by decide) (fun _ => rfl) (fun x61 ls e60 h59 hl => ?_)
            refine lv_goto (tgt := 6) hx hb dX12_putsAll_75 (by decide) ?_
            have hm62 : 10 - x61.toInt < (n_3 : Int) := by
              have := (h_a1).1; have := (h_a1).2; have := (h_a2).1; have := (h_a2).2; have := (h_a3).1; have := (h_a3).2; have := (h16).1; have := (h16).2; have := (h59).1; have := (h59).2; omega
            exact ih_3 x58 x61 M38 R4 J50 H locs _ h57 (iv_mono h59 (by decide) (by decide)) hm62 hS (lv_sub hl [1, 0, 3, 4, 5, 6] rfl)
          · have q63 : x34.toInt = x54.toInt := ti_eq c55
            refine lv_iconst (v := 0) hx hb dX12_putsAll_64 (by decide) ?_
            refine lv_goto (tgt := 69) hx hb dX12_putsAll_65 (by decide) ?_
            refine tw_iadd (lo := (-2147483648)) (hi := 2147483647) hx hb h_x1 (iv_c (c := 0) (n := 0) (by decide)) ⟨by decide, by decide⟩ ⟨by decide, by decide⟩ dX12_putsAll_69 (fun x66 e65 h64 => ?_)
            have e65 : x66.toInt = x1.toInt + 0 := e65
            refine lv_istore (lv' := [(4, .int x66), (6, .int x34), (5, .int x2), (0, .ref (base + a0)), (1, .int a1), (2, .int a2), (3, .int a3)]) hx hb dX12_putsAll_70 hl (by decide) rfl (fun ls hl => ?_)
            refine tw_iinc (lv' := fun x69 => [(5, .int x69), (4, .int x66), (6, .int x34), (0, .ref (base + a0)), (1, .int a1), (2, .int a2), (3, .int a3)]) (lo := 1) (hi := 10) hx hb dX12_putsAll_72 hl (k := 2) rfl h16 (by decide) ⟨by decide, by decide⟩ ⟨by decide, by decide⟩ (by decide) (fun _ => rfl) (fun x69 ls e68 h67 hl => ?_)
            refine lv_goto (tgt := 6) hx hb dX12_putsAll_75 (by decide) ?_
            have hm70 : 10 - x69.toInt < (n_3 : Int) := by
              have := (h_a1).1; have := (h_a1).2; have := (h_a2).1; have := (h_a2).2; have := (h_a3).1; have := (h_a3).2; have := (h16).1; have := (h16).2; have := (h67).1; have := (h67).2; omega
            exact ih_3 x66 x69 M38 R4 J50 H locs _ h64 (iv_mono h67 (by decide) (by decide)) hm70 hS (lv_sub hl [1, 0, 3, 4, 5, 6] rfl)
        · have q71 : x24.toInt = 0 := ti_eq c25
          have h72 : iv 0 0 x24 := ⟨by have := (h_x24).1; have := ((iv_c (c := 0) (n := 0) (by decide))).1; omega, by have := (h_x24).2; have := ((iv_c (c := 0) (n := 0) (by decide))).2; omega⟩
          refine lv_goto (tgt := 72) hx hb dX12_putsAll_26 (by decide) ?_
          refine tw_iinc (lv' := fun x75 => [(5, .int x75), (4, .int x1), (0, .ref (base + a0)), (1, .int a1), (2, .int a2), (3, .int a3)]) (lo := 1) (hi := 10) hx hb dX12_putsAll_72 hl (k := 1) rfl h16 (by decide) ⟨by decide, by decide⟩ ⟨by decide, by decide⟩ (by decide) (fun _ => rfl) (fun x75 ls e74 h73 hl => ?_)
          refine lv_goto (tgt := 6) hx hb dX12_putsAll_75 (by decide) ?_
          have hm76 : 10 - x75.toInt < (n_3 : Int) := by
            have := (h_a1).1; have := (h_a1).2; have := (h_a2).1; have := (h_a2).2; have := (h_a3).1; have := (h_a3).2; have := (h16).1; have := (h16).2; have := (h73).1; have := (h73).2; omega
          exact ih_3 x1 x75 M3 R4 J20 H locs _ h_x1 (iv_mono h73 (by decide) (by decide)) hm76 hS (lv_sub hl [1, 0, 2, 3, 4, 5] rfl)
  have hm77 : 10 - (0 : Int32).toInt < (((11 : Nat) : Int) : Int) := by
    have := (h_a1).1; have := (h_a1).2; have := (h_a2).1; have := (h_a2).2; have := (h_a3).1; have := (h_a3).2; have : (0 : Int32).toInt = 0 := (by decide); omega
  exact W6_3 11 0 0 Ma Ra Ja s.heap [] _ (iv_mono (iv_c (c := 0) (n := 0) (by decide)) (by decide) (by decide)) (iv_mono (iv_c (c := 0) (n := 0) (by decide)) (by decide) (by decide)) hm77 hS (lv_sub hl [1, 0, 2, 3, 4, 5] rfl)
def Lt_X12_returnsTo : WL := [(12, 28, 29), (12, 31, 33), (30, 0, 2000000)]
def LRt_X12_returnsTo : WL := []
set_option maxRecDepth 100000 in
set_option maxHeartbeats 4000000 in
theorem t_X12_returnsTo (l : Launch) (D : va_G) (cy : Nat → ClassId) (tx : (Nat → Nat) × (Nat → Nat)) (base Z : Nat) (K N : Nat → Nat) (Ma : MT) (Ra : RT) (Ja : JT) (hTy : Ty Z K N Ma Ra) (a0 : Nat) (hz_a0 : a0 < Z) (hk_a0 : K a0 = 12) (a1 : Int32) (h_a1 : iv 0 3 a1) : Met l yX12_returnsTo [Cond.code yX12_returnsTo cX12_returnsTo 3 none] (md_rm 1 0 0) (va_Pc [.ref (base + a0), .int a1] (md_U D cy tx base Z K N Ma Ra Ja)) (mQv D cy tx base (fun u => TP Z K N Lt_X12_returnsTo LRt_X12_returnsTo Ma Ra u ∧ (True))) 0 0 (fun q => base ≤ q) := by
  refine tw_ofW (L := Lt_X12_returnsTo) (LR := LRt_X12_returnsTo) (by decide) (Nat.le_of_ble_eq_true rfl) hTy ?_
  intro p e s m args below meth c Q ls hx hb hr hlocks hown hml hW hK hT hS hQ hl
  have hl : lv_has ls 3 [(0, .ref (base + a0)), (1, .int a1)] := hl
  refine lv_iconst (v := 0) hx hb dX12_returnsTo_0 (by decide) ?_
  refine lv_istore_n (lv' := [(2, .int 0), (0, .ref (base + a0)), (1, .int a1)]) hx hb dX12_returnsTo_1 rfl hl (by decide) rfl (fun ls hl => ?_)
  have W2_2 : ∀ (n_2 : Nat) (x1 : Int32) (M2 : MT) (R3 : RT) (J4 : JT) (H : Heap) (locs : List Loc) (ls : Array Slot) (h_x1 : iv 0 10 x1) (hm_2 : 10 - x1.toInt < (n_2 : Int)) (hS : SB D cy base Z K N Lt_X12_returnsTo LRt_X12_returnsTo Ma Ra M2 R3 J4 s H locs) (hl : lv_has ls 3 [(2, .int x1), (0, .ref (base + a0)), (1, .int a1)]), W p l e (md_rm 1 0 0) s m args below meth c H locs 0 0 Q (F0 m 2 ls []) := by
    intro n_2
    induction n_2 with
    | zero =>
      intro x1 M2 R3 J4 H locs ls h_x1 hm_2 hS hl
      exfalso
      have := (h_a1).1; have := (h_a1).2; have := (h_x1).1; have := (h_x1).2; omega
    | succ n_2 ih_2 =>
      intro x1 M2 R3 J4 H locs ls h_x1 hm_2 hS hl
      have f5 := hS.2.2.1
      have g6 := hS.2.2.2
      refine lv_iload_n hx hb dX12_returnsTo_2 rfl (lv_at hl 0 rfl) ?_
      refine lv_bipush (v := 10) hx hb dX12_returnsTo_3 (by decide) ?_
      refine lv_icmp_ge (tgt := 31) hx hb dX12_returnsTo_5 (by decide) (fun c7 => ?_) (fun c7 => ?_)
      · have q8 : 10 ≤ x1.toInt := ti_le c7
        have h9 : iv 10 10 x1 := iv_geL (y := 10) h_x1 (iv_c (c := 10) (n := 10) (by decide)) q8 (by decide)
        refine lv_aload_n hx hb dX12_returnsTo_31 rfl (lv_at hl 1 rfl) ?_
        refine lv_aload_n hx hb dX12_returnsTo_32 rfl (lv_at hl 1 rfl) ?_
        refine tw_getr hx hb hW hown hK hS f_X12_45_11 hz_a0 hk_a0 (t := 23) (n := 226) rfl dX12_returnsTo_33 (fun b10 k11 hz_b10 hk_b10 hn_b10 => ?_)
        have hn_b10 := hn_b10 (by decide)
        refine lv_iconst (v := 3) hx hb dX12_returnsTo_36 (by decide) ?_
        refine tw_iald hx hb hK hS hz_b10 hk_b10 (Or.inr (by decide)) hn_b10 (lo := (-2147483648)) (hi := 2147483647) (iv_c (c := 3) (n := 3) (by decide)) ⟨by decide, by decide⟩ (rg_c (k0 := 3) rfl rfl rfl) dX12_returnsTo_37 (fun x14 k13 h12 => ?_)
        refine lv_iload_n hx hb dX12_returnsTo_38 rfl (lv_at hl 2 rfl) ?_
        refine lv_iadd hx hb dX12_returnsTo_39 ?_
        refine tw_top (fun x16 => ?_)
        have h15 := iv_any x16
        refine tw_puti hx hb hW hown hK hS f_X12_348_11 hz_a0 hk_a0 rfl rfl (lo := (-2147483648)) (hi := 2147483647) rfl h15 rfl dX12_returnsTo_40 (fun H locs M19 hS k17 f18 => ?_)
        refine lv_aload_n hx hb dX12_returnsTo_43 rfl (lv_at hl 1 rfl) ?_
        refine lv_aload_n hx hb dX12_returnsTo_44 rfl (lv_at hl 1 rfl) ?_
        refine tw_getr hx hb hW hown hK hS f_X12_72_11 hz_a0 hk_a0 (t := 14) (n := 5) rfl dX12_returnsTo_45 (fun b20 k21 hz_b20 hk_b20 hn_b20 => ?_)
        have hn_b20 := hn_b20 (by decide)
        refine lv_iload_n hx hb dX12_returnsTo_48 rfl (lv_at hl 2 rfl) ?_
        refine tw_iald hx hb hK hS hz_b20 hk_b20 (Or.inl rfl) hn_b20 (lo := (-2147483648)) (hi := 2147483647) h_a1 ⟨by decide, by decide⟩ rg_u14 dX12_returnsTo_49 (fun x24 k23 h22 => ?_)
        refine tw_puti hx hb hW hown hK hS f_X12_364_11 hz_a0 hk_a0 rfl rfl (lo := (-2147483648)) (hi := 2147483647) rfl h22 rfl dX12_returnsTo_50 (fun H locs M27 hS k25 f26 => ?_)
        refine lv_aload_n hx hb dX12_returnsTo_53 rfl (lv_at hl 1 rfl) ?_
        refine lv_aload_n hx hb dX12_returnsTo_54 rfl (lv_at hl 1 rfl) ?_
        refine tw_getr hx hb hW hown hK hS f_X12_75_11 hz_a0 hk_a0 (t := 14) (n := 5) rfl dX12_returnsTo_55 (fun b28 k29 hz_b28 hk_b28 hn_b28 => ?_)
        have hn_b28 := hn_b28 (by decide)
        refine lv_iload_n hx hb dX12_returnsTo_58 rfl (lv_at hl 2 rfl) ?_
        refine tw_iald hx hb hK hS hz_b28 hk_b28 (Or.inl rfl) hn_b28 (lo := (-2147483648)) (hi := 2147483647) h_a1 ⟨by decide, by decide⟩ rg_u14 dX12_returnsTo_59 (fun x32 k31 h30 => ?_)
        refine tw_puti hx hb hW hown hK hS f_X12_367_11 hz_a0 hk_a0 rfl rfl (lo := (-2147483648)) (hi := 2147483647) rfl h30 rfl dX12_returnsTo_60 (fun H locs M35 hS k33 f34 => ?_)
        exact tw_endv hx hb hr hlocks hK hT hS hQ (trivial) dX12_returnsTo_63
      · have q36 : x1.toInt < 10 := ti_nle c7
        have h37 : iv 0 9 x1 := iv_ltL (y := 10) h_x1 (iv_c (c := 10) (n := 10) (by decide)) q36 (by decide)
        refine lv_aload_n hx hb dX12_returnsTo_8 rfl (lv_at hl 1 rfl) ?_
        refine tw_getr hx hb hW hown hK hS f_X12_51_11 hz_a0 hk_a0 (t := 30) (n := 10) rfl dX12_returnsTo_9 (fun b38 k39 hz_b38 hk_b38 hn_b38 => ?_)
        have hn_b38 := hn_b38 (by decide)
        refine lv_iload_n hx hb dX12_returnsTo_12 rfl (lv_at hl 0 rfl) ?_
        refine lv_aload_n hx hb dX12_returnsTo_13 rfl (lv_at hl 1 rfl) ?_
        refine tw_getr hx hb hW hown hK hS f_X12_63_11 hz_a0 hk_a0 (t := 36) (n := 60) rfl dX12_returnsTo_14 (fun b40 k41 hz_b40 hk_b40 hn_b40 => ?_)
        have hn_b40 := hn_b40 (by decide)
        refine lv_bipush (v := 10) hx hb dX12_returnsTo_17 (by decide) ?_
        refine lv_iload_n hx hb dX12_returnsTo_19 rfl (lv_at hl 2 rfl) ?_
        refine tw_icmul (k := 10) (lo := 0) (hi := 30) hx hb (by decide) h_a1 (by decide) ⟨by decide, by decide⟩ ⟨by decide, by decide⟩ dX12_returnsTo_20 (fun x44 e43 h42 => ?_)
        refine lv_iload_n hx hb dX12_returnsTo_21 rfl (lv_at hl 0 rfl) ?_
        refine tw_iadd (lo := 0) (hi := 39) hx hb h42 h37 ⟨by decide, by decide⟩ ⟨by decide, by decide⟩ dX12_returnsTo_22 (fun x47 e46 h45 => ?_)
        refine tw_iald hx hb hK hS hz_b40 hk_b40 (Or.inr (by decide)) hn_b40 (lo := 0) (hi := 9999) h45 ⟨by decide, by decide⟩ rg_u36 dX12_returnsTo_23 (fun x50 k49 h48 => ?_)
        refine tw_iast hx hb hK hS hz_b38 hk_b38 (Or.inr (by decide)) hn_b38 h37 ⟨by decide, by decide⟩ h48 (rg_s30 ⟨by decide, by decide⟩) (jl := 0) (jh := 1999999) ⟨by decide, by decide⟩ rfl dX12_returnsTo_24 (fun H locs M53 hS k51 f52 => ?_)
        refine tw_iinc (lv' := fun x56 => [(2, .int x56), (0, .ref (base + a0)), (1, .int a1)]) (lo := 1) (hi := 10) hx hb dX12_returnsTo_25 hl (k := 0) rfl h37 (by decide) ⟨by decide, by decide⟩ ⟨by decide, by decide⟩ (by decide) (fun _ => rfl) (fun x56 ls e55 h54 hl => ?_)
        refine lv_goto (tgt := 2) hx hb dX12_returnsTo_28 (by decide) ?_
        have hm57 : 10 - x56.toInt < (n_2 : Int) := by
          have := (h_a1).1; have := (h_a1).2; have := (h37).1; have := (h37).2; have := (h45).1; have := (h45).2; have := (h54).1; have := (h54).2; omega
        exact ih_2 x56 M53 R3 J4 H locs _ (iv_mono h54 (by decide) (by decide)) hm57 hS hl
  have hm58 : 10 - (0 : Int32).toInt < (((11 : Nat) : Int) : Int) := by
    have := (h_a1).1; have := (h_a1).2; have : (0 : Int32).toInt = 0 := (by decide); omega
  exact W2_2 11 0 Ma Ra Ja s.heap [] _ (iv_mono (iv_c (c := 0) (n := 0) (by decide)) (by decide) (by decide)) hm58 hS hl
def Lt_X12_mostAlike : WL := [(12, 28, 29), (12, 31, 33), (14, 0, 2000000), (30, 0, 2000000)]
def LRt_X12_mostAlike : WL := []
set_option maxRecDepth 100000 in
set_option maxHeartbeats 4000000 in
theorem t_X12_mostAlike (l : Launch) (D : va_G) (cy : Nat → ClassId) (tx : (Nat → Nat) × (Nat → Nat)) (base Z : Nat) (K N : Nat → Nat) (Ma : MT) (Ra : RT) (Ja : JT) (hTy : Ty Z K N Ma Ra) (a0 : Nat) (hz_a0 : a0 < Z) (hk_a0 : K a0 = 12) (a1 : Int32) (h_a1 : iv 1 2147483647 a1) (a2 : Int32) (h_a2 : iv 1 6 a2) (sd : Nat) (k_sd : Ra a0 25 = some sd) (e0 : Int32) (k_e0 : Ma sd (0 : Int32).toNatClampNeg = e0) (h_e0 : iv 1 5 e0) : Met l yX12_mostAlike [Cond.code yX12_mostAlike cX12_mostAlike 6 (some .int)] (md_rm 6 0 0) (va_Pc [.ref (base + a0), .int a1, .int a2] (md_U D cy tx base Z K N Ma Ra Ja)) (mQi D cy tx base (fun r u => TP Z K N Lt_X12_mostAlike LRt_X12_mostAlike Ma Ra u ∧ (iv 0 2147483647 r))) 0 0 (fun q => base ≤ q) := by
  refine tw_ofW (L := Lt_X12_mostAlike) (LR := LRt_X12_mostAlike) (by decide) (Nat.le_of_ble_eq_true rfl) hTy ?_
  intro p e s m args below meth c Q ls hx hb hr hlocks hown hml hW hK hT hS hQ hl
  have hl : lv_has ls 6 [(0, .ref (base + a0)), (1, .int a1), (2, .int a2)] := hl
  obtain ⟨hz_sd, hk_sd, hn_sd⟩ := hTy.refn hz_a0 hk_a0 (show rtR 12 25 = (23, 226, 0) from rfl) k_sd
  have hn_sd := hn_sd (by decide)
  refine lv_iconst (v := 0) hx hb dX12_mostAlike_0 (by decide) ?_
  refine lv_istore_n (lv' := [(3, .int 0), (0, .ref (base + a0)), (1, .int a1), (2, .int a2)]) hx hb dX12_mostAlike_1 rfl hl (by decide) rfl (fun ls hl => ?_)
  have W2_2 : ∀ (n_2 : Nat) (x1 : Int32) (M2 : MT) (R3 : RT) (J4 : JT) (H : Heap) (locs : List Loc) (ls : Array Slot) (h_x1 : iv 0 50001 x1) (hm_2 : 50001 - x1.toInt < (n_2 : Int)) (hS : SB D cy base Z K N Lt_X12_mostAlike LRt_X12_mostAlike Ma Ra M2 R3 J4 s H locs) (hl : lv_has ls 6 [(3, .int x1), (0, .ref (base + a0)), (1, .int a1), (2, .int a2)]), W p l e (md_rm 6 0 0) s m args below meth c H locs 0 0 Q (F0 m 2 ls []) := by
    intro n_2
    induction n_2 with
    | zero =>
      intro x1 M2 R3 J4 H locs ls h_x1 hm_2 hS hl
      exfalso
      have := (h_a1).1; have := (h_a1).2; have := (h_a2).1; have := (h_a2).2; have := (h_e0).1; have := (h_e0).2; have := (h_x1).1; have := (h_x1).2; omega
    | succ n_2 ih_2 =>
      intro x1 M2 R3 J4 H locs ls h_x1 hm_2 hS hl
      have f5 := hS.2.2.1
      have g6 := hS.2.2.2
      refine lv_iload_n hx hb dX12_mostAlike_2 rfl (lv_at hl 0 rfl) ?_
      refine lv_ldc hx hb hown (hW _ w_6_39 rfl) dX12_mostAlike_3 ?_
      refine lv_icmp_ge (tgt := 21) hx hb dX12_mostAlike_5 (by decide) (fun c7 => ?_) (fun c7 => ?_)
      · have q8 : 50001 ≤ x1.toInt := ti_le c7
        have h9 : iv 50001 50001 x1 := iv_geL (y := 50001) h_x1 (iv_c (c := 50001) (n := 50001) (by decide)) q8 (by decide)
        refine lv_iconst (v := 0) hx hb dX12_mostAlike_21 (by decide) ?_
        refine lv_istore_n (lv' := [(3, .int 0), (0, .ref (base + a0)), (1, .int a1), (2, .int a2)]) hx hb dX12_mostAlike_22 rfl hl (by decide) rfl (fun ls hl => ?_)
        refine lv_iconst (v := 0) hx hb dX12_mostAlike_23 (by decide) ?_
        refine lv_istore (lv' := [(4, .int 0), (3, .int 0), (0, .ref (base + a0)), (1, .int a1), (2, .int a2)]) hx hb dX12_mostAlike_24 hl (by decide) rfl (fun ls hl => ?_)
        have W26_12 : ∀ (n_12 : Nat) (x10 : Int32) (x11 : Int32) (M12 : MT) (R13 : RT) (J14 : JT) (H : Heap) (locs : List Loc) (ls : Array Slot) (h_x10 : iv 0 2147483647 x10) (h_x11 : iv 0 2147483647 x11) (hm_12 : 2147483647 - x11.toInt < (n_12 : Int)) (hS : SB D cy base Z K N Lt_X12_mostAlike LRt_X12_mostAlike Ma Ra M12 R13 J14 s H locs) (hl : lv_has ls 6 [(3, .int x10), (4, .int x11), (0, .ref (base + a0)), (1, .int a1), (2, .int a2)]), W p l e (md_rm 6 0 0) s m args below meth c H locs 0 0 Q (F0 m 26 ls []) := by
          intro n_12
          induction n_12 with
          | zero =>
            intro x10 x11 M12 R13 J14 H locs ls h_x10 h_x11 hm_12 hS hl
            exfalso
            have := (h_a1).1; have := (h_a1).2; have := (h_a2).1; have := (h_a2).2; have := (h_e0).1; have := (h_e0).2; have := (h_x11).1; have := (h_x11).2; omega
          | succ n_12 ih_12 =>
            intro x10 x11 M12 R13 J14 H locs ls h_x10 h_x11 hm_12 hS hl
            have f15 := hS.2.2.1
            have g16 := hS.2.2.2
            refine lv_iload hx hb dX12_mostAlike_26 (lv_at hl 1 rfl) ?_
            refine lv_aload_n hx hb dX12_mostAlike_28 rfl (lv_at hl 2 rfl) ?_
            refine lv_iload_n hx hb dX12_mostAlike_29 rfl (lv_at hl 4 rfl) ?_
            refine tw_goi hS (md_runV (As := [.int a2]) (rest := [.int x11]) hx hb hml hown hW hK hT hS.1 (t_X12_waysOf l D cy tx base Z K N M12 R13 J14 hS.2.1 a0 hz_a0 hk_a0 a2 h_a2) s_X12_489 ⟨rfl, rfl, ⟨Nat.le_of_ble_eq_true rfl, Nat.le_of_ble_eq_true rfl⟩, ⟨Nat.le_of_ble_eq_true rfl, Nat.le_of_ble_eq_true rfl⟩⟩ hz_a0 hk_a0 (by decide) rfl rfl hl.1 rfl (Nat.le_of_ble_eq_true rfl) dX12_mostAlike_30) rfl rfl (fun x23 H locs M20 R21 J19 hS f17 g18 E22 => ?_)
            have eM20 := Fr.nil f17 rfl
            subst eM20
            have eR21 := Fr.nil g18 rfl
            subst eR21
            have h_x23 := E22
            clear E22
            refine lv_icmp_ge (tgt := 96) hx hb dX12_mostAlike_33 (by decide) (fun c24 => ?_) (fun c24 => ?_)
            · have q25 : x23.toInt ≤ x11.toInt := ti_le c24
              refine lv_iload_n hx hb dX12_mostAlike_96 rfl (lv_at hl 0 rfl) ?_
              exact tw_endi hx hb hr hlocks hK hT hS hQ (h_x10) dX12_mostAlike_97
            · have q26 : x11.toInt < x23.toInt := ti_nle c24
              have h27 : iv 0 2147483646 x11 := iv_ltL (y := x23) h_x11 h_x23 q26 (by decide)
              have h28 : iv 1 2147483647 x23 := iv_gtL (y := x11) h_x23 h_x11 q26 (by decide)
              refine lv_aload_n hx hb dX12_mostAlike_36 rfl (lv_at hl 2 rfl) ?_
              refine lv_iload hx hb dX12_mostAlike_37 (lv_at hl 1 rfl) ?_
              refine lv_iload_n hx hb dX12_mostAlike_39 rfl (lv_at hl 4 rfl) ?_
              refine tw_goi hS (md_runV (As := [.int x11, .int a2]) (rest := []) hx hb hml hown hW hK hT hS.1 (t_X12_holds l D cy tx base Z K N M12 R13 J19 hS.2.1 a0 hz_a0 hk_a0 x11 (iv_mono h27 (by decide) (by decide)) a2 h_a2) s_X12_492 ⟨rfl, rfl, ⟨Nat.le_of_ble_eq_true rfl, Nat.le_of_ble_eq_true rfl⟩, ⟨Nat.le_of_ble_eq_true rfl, Nat.le_of_ble_eq_true rfl⟩⟩ hz_a0 hk_a0 (by decide) rfl rfl hl.1 rfl (Nat.le_of_ble_eq_true rfl) dX12_mostAlike_40) rfl rfl (fun x35 H locs M32 R33 J31 hS f29 g30 E34 => ?_)
              have eR33 := Fr.nil g30 rfl
              subst eR33
              have h_x35 := E34
              clear E34
              refine lv_if_ne (tgt := 49) hx hb dX12_mostAlike_43 (by decide) (fun c36 => ?_) (fun c36 => ?_)
              · have q37 : ¬ x35.toInt = 0 := ti_ne c36
                have h38 : iv 1 1 x35 := ⟨by have := (h_x35).1; have := ((iv_c (c := 0) (n := 0) (by decide))).1; have := ((iv_c (c := 0) (n := 0) (by decide))).2; omega, by have := (h_x35).2; have := ((iv_c (c := 0) (n := 0) (by decide))).1; have := ((iv_c (c := 0) (n := 0) (by decide))).2; omega⟩
                refine lv_aload_n hx hb dX12_mostAlike_49 rfl (lv_at hl 2 rfl) ?_
                refine lv_iload_n hx hb dX12_mostAlike_50 rfl (lv_at hl 3 rfl) ?_
                have k39 : R13 a0 25 = some sd := (Fr.kp (k := 25) g16 hk_a0 rfl).trans k_sd
                have k40 : M32 sd (0 : Int32).toNatClampNeg = e0 := ((Fr.kp (k := (0 : Int32).toNatClampNeg) f29 hk_sd rfl).trans (Fr.kp (k := (0 : Int32).toNatClampNeg) f15 hk_sd rfl)).trans k_e0
                refine tw_goi hS (md_runV (As := [.int a1]) (rest := []) hx hb hml hown hW hK hT hS.1 (t_X12_voicesOf l D cy tx base Z K N M32 R13 J31 hS.2.1 a0 hz_a0 hk_a0 a1 (iv_mono h_a1 (by decide) (by decide)) sd k39 e0 k40 (iv_mono h_e0 (by decide) (by decide))) s_X12_380 ⟨rfl, rfl, ⟨Nat.le_of_ble_eq_true rfl, Nat.le_of_ble_eq_true rfl⟩, ⟨Nat.le_of_ble_eq_true rfl, Nat.le_of_ble_eq_true rfl⟩⟩ hz_a0 hk_a0 (by decide) rfl rfl hl.1 rfl (Nat.le_of_ble_eq_true rfl) dX12_mostAlike_51) rfl rfl (fun x47 H locs M44 R45 J43 hS f41 g42 E46 => ?_)
                have eM44 := Fr.nil f41 rfl
                subst eM44
                have eR45 := Fr.nil g42 rfl
                subst eR45
                obtain ⟨h_x47, p48⟩ := E46
                have h49 : iv 0 49995 x47 := ⟨(h_x47).1, by have := (h_e0).2; omega⟩
                refine lv_istore (lv' := [(5, .int x47), (3, .int x10), (4, .int x11), (0, .ref (base + a0)), (1, .int a1), (2, .int a2)]) hx hb dX12_mostAlike_54 hl (by decide) rfl (fun ls hl => ?_)
                refine lv_aload_n hx hb dX12_mostAlike_56 rfl (lv_at hl 3 rfl) ?_
                refine tw_getr hx hb hW hown hK hS f_X12_106_11 hz_a0 hk_a0 (t := 14) (n := 50001) rfl dX12_mostAlike_57 (fun b50 k51 hz_b50 hk_b50 hn_b50 => ?_)
                have hn_b50 := hn_b50 (by decide)
                refine lv_iload hx hb dX12_mostAlike_60 (lv_at hl 0 rfl) ?_
                refine lv_dup2_11 hx hb dX12_mostAlike_62 rfl rfl ?_
                refine tw_iald hx hb hK hS hz_b50 hk_b50 (Or.inl rfl) hn_b50 (lo := (-2147483648)) (hi := 2147483647) h49 ⟨by decide, by decide⟩ rg_u14 dX12_mostAlike_63 (fun x54 k53 h52 => ?_)
                refine lv_iconst (v := 1) hx hb dX12_mostAlike_64 (by decide) ?_
                refine lv_iadd hx hb dX12_mostAlike_65 ?_
                refine tw_top (fun x56 => ?_)
                have h55 := iv_any x56
                refine tw_iast hx hb hK hS hz_b50 hk_b50 (Or.inl rfl) hn_b50 h49 ⟨by decide, by decide⟩ h55 (rg_s14 ⟨by decide, by decide⟩) (jl := 0) (jh := 1999999) ⟨by decide, by decide⟩ rfl dX12_mostAlike_66 (fun H locs M59 hS k57 f58 => ?_)
                refine lv_aload_n hx hb dX12_mostAlike_67 rfl (lv_at hl 3 rfl) ?_
                refine tw_getrk hx hb hW hown hK hS f_X12_106_11 hz_a0 hk_a0 (b := b50) k51 dX12_mostAlike_68 ?_
                refine lv_iload hx hb dX12_mostAlike_71 (lv_at hl 0 rfl) ?_
                refine tw_ialk hx hb hK hS hz_b50 hk_b50 (Or.inl rfl) hn_b50 h49 ⟨by decide, by decide⟩ (v := x56) k57 dX12_mostAlike_73 ?_
                refine lv_iload_n hx hb dX12_mostAlike_74 rfl (lv_at hl 1 rfl) ?_
                refine lv_icmp_le (tgt := 88) hx hb dX12_mostAlike_75 (by decide) (fun c60 => ?_) (fun c60 => ?_)
                · have q61 : x56.toInt ≤ x10.toInt := ti_le c60
                  refine lv_iload_n hx hb dX12_mostAlike_88 rfl (lv_at hl 1 rfl) ?_
                  refine lv_istore_n (lv' := [(3, .int x10), (5, .int x47), (4, .int x11), (0, .ref (base + a0)), (1, .int a1), (2, .int a2)]) hx hb dX12_mostAlike_89 rfl hl (by decide) rfl (fun ls hl => ?_)
                  refine tw_iinc (lv' := fun x64 => [(4, .int x64), (3, .int x10), (5, .int x47), (0, .ref (base + a0)), (1, .int a1), (2, .int a2)]) (lo := 1) (hi := 2147483647) hx hb dX12_mostAlike_90 hl (k := 2) rfl h27 (by decide) ⟨by decide, by decide⟩ ⟨by decide, by decide⟩ (by decide) (fun _ => rfl) (fun x64 ls e63 h62 hl => ?_)
                  refine lv_goto (tgt := 26) hx hb dX12_mostAlike_93 (by decide) ?_
                  have hm65 : 2147483647 - x64.toInt < (n_12 : Int) := by
                    have := (h_a1).1; have := (h_a1).2; have := (h_a2).1; have := (h_a2).2; have := (h_e0).1; have := (h_e0).2; have := (h27).1; have := (h27).2; have := (h62).1; have := (h62).2; omega
                  exact ih_12 x10 x64 M59 R13 J43 H locs _ h_x10 (iv_mono h62 (by decide) (by decide)) hm65 hS (lv_sub hl [1, 0, 3, 4, 5] rfl)
                · have q66 : x10.toInt < x56.toInt := ti_nle c60
                  have h67 : iv 1 2147483647 x56 := iv_gtL (y := x10) h55 h_x10 q66 (by decide)
                  have h68 : iv 0 2147483646 x10 := iv_ltL (y := x56) h_x10 h55 q66 (by decide)
                  refine lv_aload_n hx hb dX12_mostAlike_78 rfl (lv_at hl 3 rfl) ?_
                  refine tw_getrk hx hb hW hown hK hS f_X12_106_11 hz_a0 hk_a0 (b := b50) k51 dX12_mostAlike_79 ?_
                  refine lv_iload hx hb dX12_mostAlike_82 (lv_at hl 0 rfl) ?_
                  refine tw_ialk hx hb hK hS hz_b50 hk_b50 (Or.inl rfl) hn_b50 h49 ⟨by decide, by decide⟩ (v := x56) k57 dX12_mostAlike_84 ?_
                  refine lv_goto (tgt := 89) hx hb dX12_mostAlike_85 (by decide) ?_
                  refine lv_istore_n (lv' := [(3, .int x56), (5, .int x47), (4, .int x11), (0, .ref (base + a0)), (1, .int a1), (2, .int a2)]) hx hb dX12_mostAlike_89 rfl hl (by decide) rfl (fun ls hl => ?_)
                  refine tw_iinc (lv' := fun x71 => [(4, .int x71), (3, .int x56), (5, .int x47), (0, .ref (base + a0)), (1, .int a1), (2, .int a2)]) (lo := 1) (hi := 2147483647) hx hb dX12_mostAlike_90 hl (k := 2) rfl h27 (by decide) ⟨by decide, by decide⟩ ⟨by decide, by decide⟩ (by decide) (fun _ => rfl) (fun x71 ls e70 h69 hl => ?_)
                  refine lv_goto (tgt := 26) hx hb dX12_mostAlike_93 (by decide) ?_
                  have hm72 : 2147483647 - x71.toInt < (n_12 : Int) := by
                    have := (h_a1).1; have := (h_a1).2; have := (h_a2).1; have := (h_a2).2; have := (h_e0).1; have := (h_e0).2; have := (h27).1; have := (h27).2; have := (h69).1; have := (h69).2; omega
                  exact ih_12 x56 x71 M59 R13 J43 H locs _ (iv_mono h67 (by decide) (by decide)) (iv_mono h69 (by decide) (by decide)) hm72 hS (lv_sub hl [1, 0, 3, 4, 5] rfl)
              · have q73 : x35.toInt = 0 := ti_eq c36
                have h74 : iv 0 0 x35 := ⟨by have := (h_x35).1; have := ((iv_c (c := 0) (n := 0) (by decide))).1; omega, by have := (h_x35).2; have := ((iv_c (c := 0) (n := 0) (by decide))).2; omega⟩
                refine lv_goto (tgt := 90) hx hb dX12_mostAlike_46 (by decide) ?_
                refine tw_iinc (lv' := fun x77 => [(4, .int x77), (3, .int x10), (0, .ref (base + a0)), (1, .int a1), (2, .int a2)]) (lo := 1) (hi := 2147483647) hx hb dX12_mostAlike_90 hl (k := 1) rfl h27 (by decide) ⟨by decide, by decide⟩ ⟨by decide, by decide⟩ (by decide) (fun _ => rfl) (fun x77 ls e76 h75 hl => ?_)
                refine lv_goto (tgt := 26) hx hb dX12_mostAlike_93 (by decide) ?_
                have hm78 : 2147483647 - x77.toInt < (n_12 : Int) := by
                  have := (h_a1).1; have := (h_a1).2; have := (h_a2).1; have := (h_a2).2; have := (h_e0).1; have := (h_e0).2; have := (h27).1; have := (h27).2; have := (h75).1; have := (h75).2; omega
                exact ih_12 x10 x77 M32 R13 J31 H locs _ h_x10 (iv_mono h75 (by decide) (by decide)) hm78 hS (lv_sub hl [1, 0, 2, 3, 4] rfl)
        have hm79 : 2147483647 - (0 : Int32).toInt < (((2147483648 : Nat) : Int) : Int) := by
          have := (h_a1).1; have := (h_a1).2; have := (h_a2).1; have := (h_a2).2; have := (h_e0).1; have := (h_e0).2; have : (0 : Int32).toInt = 0 := (by decide); omega
        exact W26_12 2147483648 0 0 M2 R3 J4 H locs _ (iv_mono (iv_c (c := 0) (n := 0) (by decide)) (by decide) (by decide)) (iv_mono (iv_c (c := 0) (n := 0) (by decide)) (by decide) (by decide)) hm79 hS (lv_sub hl [1, 0, 2, 3, 4] rfl)
      · have q80 : x1.toInt < 50001 := ti_nle c7
        have h81 : iv 0 50000 x1 := iv_ltL (y := 50001) h_x1 (iv_c (c := 50001) (n := 50001) (by decide)) q80 (by decide)
        refine lv_aload_n hx hb dX12_mostAlike_8 rfl (lv_at hl 1 rfl) ?_
        refine tw_getr hx hb hW hown hK hS f_X12_106_11 hz_a0 hk_a0 (t := 14) (n := 50001) rfl dX12_mostAlike_9 (fun b82 k83 hz_b82 hk_b82 hn_b82 => ?_)
        have hn_b82 := hn_b82 (by decide)
        refine lv_iload_n hx hb dX12_mostAlike_12 rfl (lv_at hl 0 rfl) ?_
        refine lv_iconst (v := 0) hx hb dX12_mostAlike_13 (by decide) ?_
        refine tw_iast hx hb hK hS hz_b82 hk_b82 (Or.inl rfl) hn_b82 h81 ⟨by decide, by decide⟩ (iv_c (c := 0) (n := 0) (by decide)) (rg_s14 ⟨by decide, by decide⟩) (jl := 0) (jh := 1999999) ⟨by decide, by decide⟩ rfl dX12_mostAlike_14 (fun H locs M86 hS k84 f85 => ?_)
        refine tw_iinc (lv' := fun x89 => [(3, .int x89), (0, .ref (base + a0)), (1, .int a1), (2, .int a2)]) (lo := 1) (hi := 50001) hx hb dX12_mostAlike_15 hl (k := 0) rfl h81 (by decide) ⟨by decide, by decide⟩ ⟨by decide, by decide⟩ (by decide) (fun _ => rfl) (fun x89 ls e88 h87 hl => ?_)
        refine lv_goto (tgt := 2) hx hb dX12_mostAlike_18 (by decide) ?_
        have hm90 : 50001 - x89.toInt < (n_2 : Int) := by
          have := (h_a1).1; have := (h_a1).2; have := (h_a2).1; have := (h_a2).2; have := (h_e0).1; have := (h_e0).2; have := (h81).1; have := (h81).2; have := (h87).1; have := (h87).2; omega
        exact ih_2 x89 M86 R3 J4 H locs _ (iv_mono h87 (by decide) (by decide)) hm90 hS hl
  have hm91 : 50001 - (0 : Int32).toInt < (((50002 : Nat) : Int) : Int) := by
    have := (h_a1).1; have := (h_a1).2; have := (h_a2).1; have := (h_a2).2; have := (h_e0).1; have := (h_e0).2; have : (0 : Int32).toInt = 0 := (by decide); omega
  exact W2_2 50002 0 Ma Ra Ja s.heap [] _ (iv_mono (iv_c (c := 0) (n := 0) (by decide)) (by decide) (by decide)) hm91 hS hl
def Lt_X12_passesEvenly : WL := [(12, 23, 24), (12, 28, 29), (12, 31, 33), (12, 35, 37), (30, 0, 2000000)]
def LRt_X12_passesEvenly : WL := []
set_option maxRecDepth 100000 in
set_option maxHeartbeats 4000000 in
theorem t_X12_passesEvenly (l : Launch) (D : va_G) (cy : Nat → ClassId) (tx : (Nat → Nat) × (Nat → Nat)) (base Z : Nat) (K N : Nat → Nat) (Ma : MT) (Ra : RT) (Ja : JT) (hTy : Ty Z K N Ma Ra) (a0 : Nat) (hz_a0 : a0 < Z) (hk_a0 : K a0 = 12) (a1 : Int32) (h_a1 : iv 0 9 a1) (co_a0 : Codes Ma Ra a0) : Met l yX12_passesEvenly [Cond.code yX12_passesEvenly cX12_passesEvenly 4 none] (md_rm 5 0 0) (va_Pc [.ref (base + a0), .int a1] (md_U D cy tx base Z K N Ma Ra Ja)) (mQv D cy tx base (fun u => TP Z K N Lt_X12_passesEvenly LRt_X12_passesEvenly Ma Ra u ∧ (True))) 0 0 (fun q => base ≤ q) := by
  refine tw_ofW (L := Lt_X12_passesEvenly) (LR := LRt_X12_passesEvenly) (by decide) (Nat.le_of_ble_eq_true rfl) hTy ?_
  intro p e s m args below meth c Q ls hx hb hr hlocks hown hml hW hK hT hS hQ hl
  have hl : lv_has ls 4 [(0, .ref (base + a0)), (1, .int a1)] := hl
  refine lv_iconst (v := 0) hx hb dX12_passesEvenly_0 (by decide) ?_
  refine lv_istore_n (lv' := [(2, .int 0), (0, .ref (base + a0)), (1, .int a1)]) hx hb dX12_passesEvenly_1 rfl hl (by decide) rfl (fun ls hl => ?_)
  have W2_2 : ∀ (n_2 : Nat) (x1 : Int32) (M2 : MT) (R3 : RT) (J4 : JT) (H : Heap) (locs : List Loc) (ls : Array Slot) (h_x1 : iv 0 8 x1) (hm_2 : 8 - x1.toInt < (n_2 : Int)) (hS : SB D cy base Z K N Lt_X12_passesEvenly LRt_X12_passesEvenly Ma Ra M2 R3 J4 s H locs) (hl : lv_has ls 4 [(2, .int x1), (0, .ref (base + a0)), (1, .int a1)]), W p l e (md_rm 5 0 0) s m args below meth c H locs 0 0 Q (F0 m 2 ls []) := by
    intro n_2
    induction n_2 with
    | zero =>
      intro x1 M2 R3 J4 H locs ls h_x1 hm_2 hS hl
      exfalso
      have := (h_a1).1; have := (h_a1).2; have := (h_x1).1; have := (h_x1).2; omega
    | succ n_2 ih_2 =>
      intro x1 M2 R3 J4 H locs ls h_x1 hm_2 hS hl
      have f5 := hS.2.2.1
      have g6 := hS.2.2.2
      refine lv_iload_n hx hb dX12_passesEvenly_2 rfl (lv_at hl 0 rfl) ?_
      refine lv_aload_n hx hb dX12_passesEvenly_3 rfl (lv_at hl 1 rfl) ?_
      refine tw_geti hx hb hW hown hK hS f_X12_351_11 hz_a0 hk_a0 (lo := 0) (hi := 8) rfl dX12_passesEvenly_4 (fun x9 k8 h7 => ?_)
      refine lv_icmp_ge (tgt := 73) hx hb dX12_passesEvenly_7 (by decide) (fun c10 => ?_) (fun c10 => ?_)
      · have q11 : x9.toInt ≤ x1.toInt := ti_le c10
        exact tw_endv hx hb hr hlocks hK hT hS hQ (trivial) dX12_passesEvenly_73
      · have q12 : x1.toInt < x9.toInt := ti_nle c10
        have h13 : iv 0 7 x1 := iv_ltL (y := x9) h_x1 h7 q12 (by decide)
        have h14 : iv 1 8 x9 := iv_gtL (y := x1) h7 h_x1 q12 (by decide)
        refine lv_iconst (v := 0) hx hb dX12_passesEvenly_10 (by decide) ?_
        refine lv_istore_n (lv' := [(3, .int 0), (2, .int x1), (0, .ref (base + a0)), (1, .int a1)]) hx hb dX12_passesEvenly_11 rfl hl (by decide) rfl (fun ls hl => ?_)
        have W12_16 : ∀ (n_16 : Nat) (x15 : Int32) (M16 : MT) (R17 : RT) (J18 : JT) (H : Heap) (locs : List Loc) (ls : Array Slot) (h_x15 : iv 0 10 x15) (hm_16 : 10 - x15.toInt < (n_16 : Int)) (hS : SB D cy base Z K N Lt_X12_passesEvenly LRt_X12_passesEvenly Ma Ra M16 R17 J18 s H locs) (hl : lv_has ls 4 [(3, .int x15), (2, .int x1), (0, .ref (base + a0)), (1, .int a1)]), W p l e (md_rm 5 0 0) s m args below meth c H locs 0 0 Q (F0 m 12 ls []) := by
          intro n_16
          induction n_16 with
          | zero =>
            intro x15 M16 R17 J18 H locs ls h_x15 hm_16 hS hl
            exfalso
            have := (h_a1).1; have := (h_a1).2; have := (h_x15).1; have := (h_x15).2; omega
          | succ n_16 ih_16 =>
            intro x15 M16 R17 J18 H locs ls h_x15 hm_16 hS hl
            have f19 := hS.2.2.1
            have g20 := hS.2.2.2
            refine lv_iload_n hx hb dX12_passesEvenly_12 rfl (lv_at hl 0 rfl) ?_
            refine lv_bipush (v := 10) hx hb dX12_passesEvenly_13 (by decide) ?_
            refine lv_icmp_ge (tgt := 31) hx hb dX12_passesEvenly_15 (by decide) (fun c21 => ?_) (fun c21 => ?_)
            · have q22 : 10 ≤ x15.toInt := ti_le c21
              have h23 : iv 10 10 x15 := iv_geL (y := 10) h_x15 (iv_c (c := 10) (n := 10) (by decide)) q22 (by decide)
              refine lv_aload_n hx hb dX12_passesEvenly_31 rfl (lv_at hl 2 rfl) ?_
              refine lv_aload_n hx hb dX12_passesEvenly_32 rfl (lv_at hl 2 rfl) ?_
              refine tw_getr hx hb hW hown hK hS f_X12_54_11 hz_a0 hk_a0 (t := 31) (n := 8) rfl dX12_passesEvenly_33 (fun b24 k25 hz_b24 hk_b24 hn_b24 => ?_)
              have hn_b24 := hn_b24 (by decide)
              refine lv_iload_n hx hb dX12_passesEvenly_36 rfl (lv_at hl 1 rfl) ?_
              refine tw_iald hx hb hK hS hz_b24 hk_b24 (Or.inr (by decide)) hn_b24 (lo := 0) (hi := 11) h13 ⟨by decide, by decide⟩ rg_u31 dX12_passesEvenly_37 (fun x28 k27 h26 => ?_)
              refine lv_iload_n hx hb dX12_passesEvenly_38 rfl (lv_at hl 1 rfl) ?_
              refine tw_gov hS (md_runV (As := [.int x28, .int x1]) (rest := []) hx hb hml hown hW hK hT hS.1 (t_X12_asks l D cy tx base Z K N M16 R17 J18 hS.2.1 a0 hz_a0 hk_a0 x28 h26 x1 (iv_mono h13 (by decide) (by decide)) (Codes.fr co_a0 hTy hz_a0 hk_a0 hS.2.2.1 hS.2.2.2 rfl)) s_X12_396 ⟨rfl, rfl, ⟨Nat.le_of_ble_eq_true rfl, Nat.le_of_ble_eq_true rfl⟩, ⟨Nat.le_of_ble_eq_true rfl, Nat.le_of_ble_eq_true rfl⟩⟩ hz_a0 hk_a0 (by decide) rfl rfl hl.1 rfl (Nat.le_of_ble_eq_true rfl) dX12_passesEvenly_39) rfl rfl (fun H locs M32 R33 J31 hS f29 g30 E34 => ?_)
              have eR33 := Fr.nil g30 rfl
              subst eR33
              refine lv_aload_n hx hb dX12_passesEvenly_42 rfl (lv_at hl 2 rfl) ?_
              refine lv_iload_n hx hb dX12_passesEvenly_43 rfl (lv_at hl 3 rfl) ?_
              refine lv_aload_n hx hb dX12_passesEvenly_44 rfl (lv_at hl 2 rfl) ?_
              refine tw_getrk hx hb hW hown hK hS f_X12_54_11 hz_a0 hk_a0 (b := b24) k25 dX12_passesEvenly_45 ?_
              refine lv_iload_n hx hb dX12_passesEvenly_48 rfl (lv_at hl 1 rfl) ?_
              have k35 : M32 b24 x1.toNatClampNeg = x28 := (Fr.kpa f29 hk_b24 rfl x1.toNatClampNeg).trans k27
              refine tw_ialk hx hb hK hS hz_b24 hk_b24 (Or.inr (by decide)) hn_b24 h13 ⟨by decide, by decide⟩ (v := x28) k35 dX12_passesEvenly_49 ?_
              refine lv_aload_n hx hb dX12_passesEvenly_50 rfl (lv_at hl 2 rfl) ?_
              refine tw_goi hS (md_runV (As := []) (rest := [.int x28, .int a1, .ref (base + a0)]) hx hb hml hown hW hK hT hS.1 (t_X12_result l D cy tx base Z K N M32 R17 J31 hS.2.1 a0 hz_a0 hk_a0) s_X12_383 ⟨rfl, rfl, ⟨Nat.le_of_ble_eq_true rfl, Nat.le_of_ble_eq_true rfl⟩, ⟨Nat.le_of_ble_eq_true rfl, Nat.le_of_ble_eq_true rfl⟩⟩ hz_a0 hk_a0 (by decide) rfl rfl hl.1 rfl (Nat.le_of_ble_eq_true rfl) dX12_passesEvenly_51) rfl rfl (fun x42 H locs M39 R40 J38 hS f36 g37 E41 => ?_)
              have eM39 := Fr.nil f36 rfl
              subst eM39
              have eR40 := Fr.nil g37 rfl
              subst eR40
              have h_x42 := E41
              clear E41
              refine tw_gov hS (md_runV (As := [.int a1, .int x28, .int x42]) (rest := []) hx hb hml hown hW hK hT hS.1 (t_X12_counts l D cy tx base Z K N M32 R17 J38 hS.2.1 a0 hz_a0 hk_a0 a1 h_a1 x28 h26 x42 h_x42) s_X12_413 ⟨rfl, rfl, ⟨Nat.le_of_ble_eq_true rfl, Nat.le_of_ble_eq_true rfl⟩, ⟨Nat.le_of_ble_eq_true rfl, Nat.le_of_ble_eq_true rfl⟩⟩ hz_a0 hk_a0 (by decide) rfl rfl hl.1 rfl (Nat.le_of_ble_eq_true rfl) dX12_passesEvenly_54) rfl rfl (fun H locs M46 R47 J45 hS f43 g44 E48 => ?_)
              have eR47 := Fr.nil g44 rfl
              subst eR47
              refine lv_aload_n hx hb dX12_passesEvenly_57 rfl (lv_at hl 2 rfl) ?_
              refine lv_dup hx hb dX12_passesEvenly_58 rfl ?_
              refine tw_geti hx hb hW hown hK hS f_X12_348_11 hz_a0 hk_a0 (lo := (-2147483648)) (hi := 2147483647) rfl dX12_passesEvenly_59 (fun x51 k50 h49 => ?_)
              refine lv_iconst (v := 1) hx hb dX12_passesEvenly_62 (by decide) ?_
              refine lv_iadd hx hb dX12_passesEvenly_63 ?_
              refine tw_top (fun x53 => ?_)
              have h52 := iv_any x53
              refine tw_puti hx hb hW hown hK hS f_X12_348_11 hz_a0 hk_a0 rfl rfl (lo := (-2147483648)) (hi := 2147483647) rfl h52 rfl dX12_passesEvenly_64 (fun H locs M56 hS k54 f55 => ?_)
              refine tw_iinc (lv' := fun x59 => [(2, .int x59), (3, .int x15), (0, .ref (base + a0)), (1, .int a1)]) (lo := 1) (hi := 8) hx hb dX12_passesEvenly_67 hl (k := 1) rfl h13 (by decide) ⟨by decide, by decide⟩ ⟨by decide, by decide⟩ (by decide) (fun _ => rfl) (fun x59 ls e58 h57 hl => ?_)
              refine lv_goto (tgt := 2) hx hb dX12_passesEvenly_70 (by decide) ?_
              have hm60 : 8 - x59.toInt < (n_2 : Int) := by
                have := (h_a1).1; have := (h_a1).2; have := (h13).1; have := (h13).2; have := (h57).1; have := (h57).2; omega
              exact ih_2 x59 M56 R17 J45 H locs _ (iv_mono h57 (by decide) (by decide)) hm60 hS (lv_sub hl [0, 2, 3] rfl)
            · have q61 : x15.toInt < 10 := ti_nle c21
              have h62 : iv 0 9 x15 := iv_ltL (y := 10) h_x15 (iv_c (c := 10) (n := 10) (by decide)) q61 (by decide)
              refine lv_aload_n hx hb dX12_passesEvenly_18 rfl (lv_at hl 2 rfl) ?_
              refine tw_getr hx hb hW hown hK hS f_X12_51_11 hz_a0 hk_a0 (t := 30) (n := 10) rfl dX12_passesEvenly_19 (fun b63 k64 hz_b63 hk_b63 hn_b63 => ?_)
              have hn_b63 := hn_b63 (by decide)
              refine lv_iload_n hx hb dX12_passesEvenly_22 rfl (lv_at hl 0 rfl) ?_
              refine lv_iconst (v := 1) hx hb dX12_passesEvenly_23 (by decide) ?_
              refine tw_iast hx hb hK hS hz_b63 hk_b63 (Or.inr (by decide)) hn_b63 h62 ⟨by decide, by decide⟩ (iv_c (c := 1) (n := 1) (by decide)) (rg_s30 ⟨by decide, by decide⟩) (jl := 0) (jh := 1999999) ⟨by decide, by decide⟩ rfl dX12_passesEvenly_24 (fun H locs M67 hS k65 f66 => ?_)
              refine tw_iinc (lv' := fun x70 => [(3, .int x70), (2, .int x1), (0, .ref (base + a0)), (1, .int a1)]) (lo := 1) (hi := 10) hx hb dX12_passesEvenly_25 hl (k := 0) rfl h62 (by decide) ⟨by decide, by decide⟩ ⟨by decide, by decide⟩ (by decide) (fun _ => rfl) (fun x70 ls e69 h68 hl => ?_)
              refine lv_goto (tgt := 12) hx hb dX12_passesEvenly_28 (by decide) ?_
              have hm71 : 10 - x70.toInt < (n_16 : Int) := by
                have := (h_a1).1; have := (h_a1).2; have := (h62).1; have := (h62).2; have := (h68).1; have := (h68).2; omega
              exact ih_16 x70 M67 R17 J18 H locs _ (iv_mono h68 (by decide) (by decide)) hm71 hS hl
        have hm72 : 10 - (0 : Int32).toInt < (((11 : Nat) : Int) : Int) := by
          have := (h_a1).1; have := (h_a1).2; have : (0 : Int32).toInt = 0 := (by decide); omega
        exact W12_16 11 0 M2 R3 J4 H locs _ (iv_mono (iv_c (c := 0) (n := 0) (by decide)) (by decide) (by decide)) hm72 hS hl
  have hm73 : 8 - (0 : Int32).toInt < (((9 : Nat) : Int) : Int) := by
    have := (h_a1).1; have := (h_a1).2; have : (0 : Int32).toInt = 0 := (by decide); omega
  exact W2_2 9 0 Ma Ra Ja s.heap [] _ (iv_mono (iv_c (c := 0) (n := 0) (by decide)) (by decide) (by decide)) hm73 hS hl
