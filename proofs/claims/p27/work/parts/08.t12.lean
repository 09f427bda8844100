def Lt_X12_goes : WL := [(12, 23, 24), (12, 28, 29), (12, 30, 33), (14, 0, 2000000), (30, 0, 2000000), (31, 0, 2000000)]
def LRt_X12_goes : WL := []
set_option maxRecDepth 100000 in
set_option maxHeartbeats 4000000 in
theorem t_X12_goes (l : Launch) (D : va_G) (cy : Nat → ClassId) (tx : (Nat → Nat) × (Nat → Nat)) (base Z : Nat) (K N : Nat → Nat) (Ma : MT) (Ra : RT) (Ja : JT) (hTy : Ty Z K N Ma Ra) (a0 : Nat) (hz_a0 : a0 < Z) (hk_a0 : K a0 = 12) (a1 : Int32) (h_a1 : iv (-2147483648) 2147483647 a1) (a2 : Int32) (h_a2 : iv (-2147483648) 2147483647 a2) (a3 : Int32) (h_a3 : iv 0 6561 a3) (a4 : Int32) (h_a4 : iv 1 6561 a4) (co_a0 : Codes Ma Ra a0) (sd : Nat) (k_sd : Ra a0 25 = some sd) (e4 : Int32) (k_e4 : Ma sd (4 : Int32).toNatClampNeg = e4) (h_e4 : iv 1 4 e4) (hpw : (e4.toInt = 0 ∧ a4.toInt = 1) ∨ (e4.toInt = 1 ∧ a4.toInt = 9) ∨ (e4.toInt = 2 ∧ a4.toInt = 81) ∨ (e4.toInt = 3 ∧ a4.toInt = 729) ∨ (e4.toInt = 4 ∧ a4.toInt = 6561)) : Met l yX12_goes [Cond.code yX12_goes cX12_goes 9 (some .int)] (md_rm 5 0 0) (va_Pc [.ref (base + a0), .int a1, .int a2, .int a3, .int a4] (md_U D cy tx base Z K N Ma Ra Ja)) (mQi D cy tx base (fun r u => TP Z K N Lt_X12_goes LRt_X12_goes Ma Ra u ∧ (iv (-2147483648) 2147483647 r))) 0 0 (fun q => base ≤ q) := by
  refine tw_ofW (L := Lt_X12_goes) (LR := LRt_X12_goes) (by decide) (Nat.le_of_ble_eq_true rfl) hTy ?_
  intro p e s m args below meth c Q ls hx hb hr hlocks hown hml hW hK hT hS hQ hl
  have hl : lv_has ls 9 [(0, .ref (base + a0)), (1, .int a1), (2, .int a2), (3, .int a3), (4, .int a4)] := hl
  obtain ⟨hz_sd, hk_sd, hn_sd⟩ := hTy.refn hz_a0 hk_a0 (show rtR 12 25 = (23, 226, 0) from rfl) k_sd
  have hn_sd := hn_sd (by decide)
  refine lv_aload_n hx hb dX12_goes_0 rfl (lv_at hl 0 rfl) ?_
  refine tw_gov hS (md_runV (As := []) (rest := []) hx hb hml hown hW hK hT hS.1 (t_X12_begins l D cy tx base Z K N Ma Ra Ja hS.2.1 a0 hz_a0 hk_a0 sd k_sd e4 k_e4 (iv_mono h_e4 (by decide) (by decide))) s_X12_393 ⟨rfl, rfl, ⟨Nat.le_of_ble_eq_true rfl, Nat.le_of_ble_eq_true rfl⟩, ⟨Nat.le_of_ble_eq_true rfl, Nat.le_of_ble_eq_true rfl⟩⟩ hz_a0 hk_a0 (by decide) rfl rfl hl.1 rfl (Nat.le_of_ble_eq_true rfl) dX12_goes_1) rfl rfl (fun H locs M4 R5 J3 hS f1 g2 E6 => ?_)
  have eR5 := Fr.nil g2 rfl
  subst eR5
  have p7 := E6
  clear E6
  have k8 : M4 a0 30 = e4 := p7
  refine lv_iconst (v := 0) hx hb dX12_goes_4 (by decide) ?_
  refine lv_istore (lv' := [(5, .int 0), (0, .ref (base + a0)), (1, .int a1), (2, .int a2), (3, .int a3), (4, .int a4)]) hx hb dX12_goes_5 hl (by decide) rfl (fun ls hl => ?_)
  refine lv_iload hx hb dX12_goes_7 (lv_at hl 5 rfl) ?_
  refine lv_bipush (v := 9) hx hb dX12_goes_9 (by decide) ?_
  refine tw_idiv (lo := 0) (hi := 729) hx hb h_a4 (iv_c (c := 9) (n := 9) (by decide)) ⟨by decide, by decide⟩ ⟨by decide, by decide⟩ dX12_goes_11 (fun x11 e10 h9 => ?_)
  have e10 : x11.toInt = a4.toInt / 9 := e10
  refine lv_istore (lv' := [(6, .int x11), (5, .int 0), (0, .ref (base + a0)), (1, .int a1), (2, .int a2), (3, .int a3), (4, .int a4)]) hx hb dX12_goes_12 hl (by decide) rfl (fun ls hl => ?_)
  refine lv_iconst (v := 0) hx hb dX12_goes_14 (by decide) ?_
  refine lv_istore (lv' := [(7, .int 0), (6, .int x11), (5, .int 0), (0, .ref (base + a0)), (1, .int a1), (2, .int a2), (3, .int a3), (4, .int a4)]) hx hb dX12_goes_15 hl (by decide) rfl (fun ls hl => ?_)
  have W17_15 : ∀ (n_15 : Nat) (x12 : Int32) (x13 : Int32) (x14 : Int32) (x20 : Int32) (M15 : MT) (R16 : RT) (J17 : JT) (H : Heap) (locs : List Loc) (ls : Array Slot) (h_x12 : iv (-2147483648) 2147483647 x12) (h_x13 : iv 0 729 x13) (h_x14 : iv 0 4 x14) (h_x20 : iv 1 4 x20) (k21 : M15 a0 30 = x20) (w0_15 : x20.toInt = e4.toInt) (w1_15 : (e4.toInt - x14.toInt = 0 ∧ x13.toInt = 0) ∨ (e4.toInt - x14.toInt = 1 ∧ x13.toInt = 1) ∨ (e4.toInt - x14.toInt = 2 ∧ x13.toInt = 9) ∨ (e4.toInt - x14.toInt = 3 ∧ x13.toInt = 81) ∨ (e4.toInt - x14.toInt = 4 ∧ x13.toInt = 729)) (hm_15 : 4 - x14.toInt < (n_15 : Int)) (hS : SB D cy base Z K N Lt_X12_goes LRt_X12_goes Ma Ra M15 R16 J17 s H locs) (hl : lv_has ls 9 [(5, .int x12), (6, .int x13), (7, .int x14), (0, .ref (base + a0)), (1, .int a1), (2, .int a2), (3, .int a3), (4, .int a4)]), W p l e (md_rm 5 0 0) s m args below meth c H locs 0 0 Q (F0 m 17 ls []) := by
    intro n_15
    induction n_15 with
    | zero =>
      intro x12 x13 x14 x20 M15 R16 J17 H locs ls h_x12 h_x13 h_x14 h_x20 k21 w0_15 w1_15 hm_15 hS hl
      exfalso
      have := (h_a1).1; have := (h_a1).2; have := (h_a2).1; have := (h_a2).2; have := (h_a3).1; have := (h_a3).2; have := (h_a4).1; have := (h_a4).2; have := (h_e4).1; have := (h_e4).2; have := (h_x13).1; have := (h_x13).2; have := (h_x14).1; have := (h_x14).2; have := (h_x20).1; have := (h_x20).2; omega
    | succ n_15 ih_15 =>
      intro x12 x13 x14 x20 M15 R16 J17 H locs ls h_x12 h_x13 h_x14 h_x20 k21 w0_15 w1_15 hm_15 hS hl
      have f18 := hS.2.2.1
      have g19 := hS.2.2.2
      refine lv_iload hx hb dX12_goes_17 (lv_at hl 2 rfl) ?_
      refine lv_aload_n hx hb dX12_goes_19 rfl (lv_at hl 3 rfl) ?_
      refine tw_getk hx hb hW hown hK hS f_X12_351_11 hz_a0 hk_a0 (v := x20) k21 dX12_goes_20 ?_
      refine lv_icmp_ge (tgt := 121) hx hb dX12_goes_23 (by decide) (fun c22 => ?_) (fun c22 => ?_)
      · have q23 : x20.toInt ≤ x14.toInt := ti_le c22
        have h24 : iv 1 4 x14 := iv_geL (y := x20) h_x14 h_x20 q23 (by decide)
        refine lv_iload hx hb dX12_goes_121 (lv_at hl 0 rfl) ?_
        exact tw_endi hx hb hr hlocks hK hT hS hQ (h_x12) dX12_goes_123
      · have q25 : x14.toInt < x20.toInt := ti_nle c22
        have h26 : iv 0 3 x14 := iv_ltL (y := x20) h_x14 h_x20 q25 (by decide)
        refine lv_aload_n hx hb dX12_goes_26 rfl (lv_at hl 3 rfl) ?_
        refine lv_aload_n hx hb dX12_goes_27 rfl (lv_at hl 3 rfl) ?_
        refine tw_getr hx hb hW hown hK hS f_X12_54_11 hz_a0 hk_a0 (t := 31) (n := 8) rfl dX12_goes_28 (fun b27 k28 hz_b27 hk_b27 hn_b27 => ?_)
        have hn_b27 := hn_b27 (by decide)
        refine lv_iload hx hb dX12_goes_31 (lv_at hl 2 rfl) ?_
        refine tw_iald hx hb hK hS hz_b27 hk_b27 (Or.inr (by decide)) hn_b27 (lo := 0) (hi := 11) h26 ⟨by decide, by decide⟩ rg_u31 dX12_goes_33 (fun x31 k30 h29 => ?_)
        refine lv_iload hx hb dX12_goes_34 (lv_at hl 2 rfl) ?_
        refine tw_gov hS (md_runV (As := [.int x31, .int x14]) (rest := []) hx hb hml hown hW hK hT hS.1 (t_X12_asks l D cy tx base Z K N M15 R16 J17 hS.2.1 a0 hz_a0 hk_a0 x31 h29 x14 (iv_mono h26 (by decide) (by decide)) (Codes.fr co_a0 hTy hz_a0 hk_a0 hS.2.2.1 hS.2.2.2 rfl)) s_X12_396 ⟨rfl, rfl, ⟨Nat.le_of_ble_eq_true rfl, Nat.le_of_ble_eq_true rfl⟩, ⟨Nat.le_of_ble_eq_true rfl, Nat.le_of_ble_eq_true rfl⟩⟩ hz_a0 hk_a0 (by decide) rfl rfl hl.1 rfl (Nat.le_of_ble_eq_true rfl) dX12_goes_36) rfl rfl (fun H locs M35 R36 J34 hS f32 g33 E37 => ?_)
        have eR36 := Fr.nil g33 rfl
        subst eR36
        have h38 : iv 1 729 x13 := by
          have := (h_a1).1; have := (h_a1).2; have := (h_a2).1; have := (h_a2).2; have := (h_a3).1; have := (h_a3).2; have := (h_a4).1; have := (h_a4).2; have := (h_e4).1; have := (h_e4).2; have := (h_x13).1; have := (h_x13).2; have := (h26).1; have := (h26).2; have := (h_x20).1; have := (h_x20).2; exact ⟨by omega, by omega⟩
        refine lv_iload_n hx hb dX12_goes_39 rfl (lv_at hl 6 rfl) ?_
        refine lv_iload hx hb dX12_goes_40 (lv_at hl 1 rfl) ?_
        refine tw_idiv (lo := 0) (hi := 6561) hx hb h_a3 h38 ⟨by decide, by decide⟩ ⟨by decide, by decide⟩ dX12_goes_42 (fun x41 e40 h39 => ?_)
        refine lv_bipush (v := 9) hx hb dX12_goes_43 (by decide) ?_
        refine tw_irem (lo := 0) (hi := 8) hx hb h39 (iv_c (c := 9) (n := 9) (by decide)) ⟨by decide, by decide⟩ ⟨by decide, by decide⟩ dX12_goes_45 (fun x44 e43 h42 => ?_)
        have e43 : x44.toInt = x41.toInt % 9 := e43
        refine lv_istore (lv' := [(8, .int x44), (5, .int x12), (6, .int x13), (7, .int x14), (0, .ref (base + a0)), (1, .int a1), (2, .int a2), (3, .int a3), (4, .int a4)]) hx hb dX12_goes_46 hl (by decide) rfl (fun ls hl => ?_)
        refine lv_aload_n hx hb dX12_goes_48 rfl (lv_at hl 4 rfl) ?_
        refine lv_iload_n hx hb dX12_goes_49 rfl (lv_at hl 5 rfl) ?_
        refine lv_iload hx hb dX12_goes_50 (lv_at hl 0 rfl) ?_
        refine lv_iconst (v := 3) hx hb dX12_goes_52 (by decide) ?_
        refine tw_idiv (lo := 0) (hi := 2) hx hb h42 (iv_c (c := 3) (n := 3) (by decide)) ⟨by decide, by decide⟩ ⟨by decide, by decide⟩ dX12_goes_53 (fun x47 e46 h45 => ?_)
        have e46 : x47.toInt = x44.toInt / 3 := e46
        refine tw_gov hS (md_runV (As := [.int a1, .int x47]) (rest := []) hx hb hml hown hW hK hT hS.1 (t_X12_putsSide l D cy tx base Z K N M35 R16 J34 hS.2.1 a0 hz_a0 hk_a0 a1 h_a1 x47 h45) s_X12_456 ⟨rfl, rfl, ⟨Nat.le_of_ble_eq_true rfl, Nat.le_of_ble_eq_true rfl⟩, ⟨Nat.le_of_ble_eq_true rfl, Nat.le_of_ble_eq_true rfl⟩⟩ hz_a0 hk_a0 (by decide) rfl rfl hl.1 rfl (Nat.le_of_ble_eq_true rfl) dX12_goes_54) rfl rfl (fun H locs M51 R52 J50 hS f48 g49 E53 => ?_)
        have eR52 := Fr.nil g49 rfl
        subst eR52
        refine lv_aload_n hx hb dX12_goes_57 rfl (lv_at hl 4 rfl) ?_
        refine lv_iload_n hx hb dX12_goes_58 rfl (lv_at hl 6 rfl) ?_
        refine lv_iload hx hb dX12_goes_59 (lv_at hl 0 rfl) ?_
        refine lv_iconst (v := 3) hx hb dX12_goes_61 (by decide) ?_
        refine tw_irem (lo := 0) (hi := 2) hx hb h42 (iv_c (c := 3) (n := 3) (by decide)) ⟨by decide, by decide⟩ ⟨by decide, by decide⟩ dX12_goes_62 (fun x56 e55 h54 => ?_)
        have e55 : x56.toInt = x44.toInt % 3 := e55
        refine tw_gov hS (md_runV (As := [.int a2, .int x56]) (rest := []) hx hb hml hown hW hK hT hS.1 (t_X12_putsSide l D cy tx base Z K N M51 R16 J50 hS.2.1 a0 hz_a0 hk_a0 a2 h_a2 x56 h54) s_X12_456 ⟨rfl, rfl, ⟨Nat.le_of_ble_eq_true rfl, Nat.le_of_ble_eq_true rfl⟩, ⟨Nat.le_of_ble_eq_true rfl, Nat.le_of_ble_eq_true rfl⟩⟩ hz_a0 hk_a0 (by decide) rfl rfl hl.1 rfl (Nat.le_of_ble_eq_true rfl) dX12_goes_63) rfl rfl (fun H locs M60 R61 J59 hS f57 g58 E62 => ?_)
        have eR61 := Fr.nil g58 rfl
        subst eR61
        refine lv_iload hx hb dX12_goes_66 (lv_at hl 1 rfl) ?_
        refine lv_aload_n hx hb dX12_goes_68 rfl (lv_at hl 4 rfl) ?_
        refine tw_goi hS (md_runV (As := []) (rest := [.int x12]) hx hb hml hown hW hK hT hS.1 (t_X12_settles_ l D cy tx base Z K N M60 R16 J59 hS.2.1 a0 hz_a0 hk_a0) s_X12_399 ⟨rfl, rfl, ⟨Nat.le_of_ble_eq_true rfl, Nat.le_of_ble_eq_true rfl⟩, ⟨Nat.le_of_ble_eq_true rfl, Nat.le_of_ble_eq_true rfl⟩⟩ hz_a0 hk_a0 (by decide) rfl rfl hl.1 rfl (Nat.le_of_ble_eq_true rfl) dX12_goes_69) rfl rfl (fun x69 H locs M66 R67 J65 hS f63 g64 E68 => ?_)
        have eR67 := Fr.nil g64 rfl
        subst eR67
        have h_x69 := E68
        clear E68
        refine lv_iconst (v := 1) hx hb dX12_goes_72 (by decide) ?_
        refine lv_icmp_ne (tgt := 104) hx hb dX12_goes_73 (by decide) (fun c70 => ?_) (fun c70 => ?_)
        · have q71 : ¬ x69.toInt = 1 := ti_ne c70
          refine lv_iconst (v := 0) hx hb dX12_goes_104 (by decide) ?_
          refine tw_iadd (lo := (-2147483648)) (hi := 2147483647) hx hb h_x12 (iv_c (c := 0) (n := 0) (by decide)) ⟨by decide, by decide⟩ ⟨by decide, by decide⟩ dX12_goes_105 (fun x74 e73 h72 => ?_)
          have e73 : x74.toInt = x12.toInt + 0 := e73
          refine lv_istore (lv' := [(5, .int x74), (8, .int x44), (6, .int x13), (7, .int x14), (0, .ref (base + a0)), (1, .int a1), (2, .int a2), (3, .int a3), (4, .int a4)]) hx hb dX12_goes_106 hl (by decide) rfl (fun ls hl => ?_)
          refine lv_iload hx hb dX12_goes_108 (lv_at hl 2 rfl) ?_
          refine lv_bipush (v := 9) hx hb dX12_goes_110 (by decide) ?_
          refine tw_idiv (lo := 0) (hi := 81) hx hb h38 (iv_c (c := 9) (n := 9) (by decide)) ⟨by decide, by decide⟩ ⟨by decide, by decide⟩ dX12_goes_112 (fun x77 e76 h75 => ?_)
          have e76 : x77.toInt = x13.toInt / 9 := e76
          refine lv_istore (lv' := [(6, .int x77), (5, .int x74), (8, .int x44), (7, .int x14), (0, .ref (base + a0)), (1, .int a1), (2, .int a2), (3, .int a3), (4, .int a4)]) hx hb dX12_goes_113 hl (by decide) rfl (fun ls hl => ?_)
          refine tw_iinc (lv' := fun x80 => [(7, .int x80), (6, .int x77), (5, .int x74), (8, .int x44), (0, .ref (base + a0)), (1, .int a1), (2, .int a2), (3, .int a3), (4, .int a4)]) (lo := 1) (hi := 4) hx hb dX12_goes_115 hl (k := 3) rfl h26 (by decide) ⟨by decide, by decide⟩ ⟨by decide, by decide⟩ (by decide) (fun _ => rfl) (fun x80 ls e79 h78 hl => ?_)
          refine lv_goto (tgt := 17) hx hb dX12_goes_118 (by decide) ?_
          have k81 : M66 a0 30 = x20 := ((Fr.kp (k := 30) f63 hk_a0 rfl).trans ((Fr.kp (k := 30) f57 hk_a0 rfl).trans ((Fr.kp (k := 30) f48 hk_a0 rfl).trans (Fr.kp (k := 30) f32 hk_a0 rfl)))).trans k21
          have w82 : x20.toInt = e4.toInt := by
            have := (h_a1).1; have := (h_a1).2; have := (h_a2).1; have := (h_a2).2; have := (h_a3).1; have := (h_a3).2; have := (h_a4).1; have := (h_a4).2; have := (h_e4).1; have := (h_e4).2; have := (h38).1; have := (h38).2; have := (h26).1; have := (h26).2; have := (h_x20).1; have := (h_x20).2; have := (h39).1; have := (h39).2; have := (h75).1; have := (h75).2; have := (h78).1; have := (h78).2; omega
          have w83 : (e4.toInt - x80.toInt = 0 ∧ x77.toInt = 0) ∨ (e4.toInt - x80.toInt = 1 ∧ x77.toInt = 1) ∨ (e4.toInt - x80.toInt = 2 ∧ x77.toInt = 9) ∨ (e4.toInt - x80.toInt = 3 ∧ x77.toInt = 81) ∨ (e4.toInt - x80.toInt = 4 ∧ x77.toInt = 729) := by
            have := (h_a1).1; have := (h_a1).2; have := (h_a2).1; have := (h_a2).2; have := (h_a3).1; have := (h_a3).2; have := (h_a4).1; have := (h_a4).2; have := (h_e4).1; have := (h_e4).2; have := (h38).1; have := (h38).2; have := (h26).1; have := (h26).2; have := (h_x20).1; have := (h_x20).2; have := (h39).1; have := (h39).2; have := (h75).1; have := (h75).2; have := (h78).1; have := (h78).2; omega
          have hm84 : 4 - x80.toInt < (n_15 : Int) := by
            have := (h_a1).1; have := (h_a1).2; have := (h_a2).1; have := (h_a2).2; have := (h_a3).1; have := (h_a3).2; have := (h_a4).1; have := (h_a4).2; have := (h_e4).1; have := (h_e4).2; have := (h38).1; have := (h38).2; have := (h26).1; have := (h26).2; have := (h_x20).1; have := (h_x20).2; have := (h39).1; have := (h39).2; have := (h75).1; have := (h75).2; have := (h78).1; have := (h78).2; omega
          exact ih_15 x74 x77 x80 x20 M66 R16 J65 H locs _ h72 (iv_mono h75 (by decide) (by decide)) (iv_mono h78 (by decide) (by decide)) h_x20 k81 w82 w83 hm84 hS (lv_sub hl [2, 1, 0, 4, 5, 6, 7, 8] rfl)
        · have q85 : x69.toInt = 1 := ti_eq c70
          have h86 : iv 1 1 x69 := ⟨by have := (h_x69).1; have := ((iv_c (c := 1) (n := 1) (by decide))).1; omega, by have := (h_x69).2; have := ((iv_c (c := 1) (n := 1) (by decide))).2; omega⟩
          refine lv_aload_n hx hb dX12_goes_76 rfl (lv_at hl 4 rfl) ?_
          refine lv_iload_n hx hb dX12_goes_77 rfl (lv_at hl 5 rfl) ?_
          refine lv_aload_n hx hb dX12_goes_78 rfl (lv_at hl 4 rfl) ?_
          refine tw_getrk hx hb hW hown hK hS f_X12_54_11 hz_a0 hk_a0 (b := b27) k28 dX12_goes_79 ?_
          refine lv_iload hx hb dX12_goes_82 (lv_at hl 3 rfl) ?_
          have k87 : M66 b27 x14.toNatClampNeg = x31 := ((Fr.kpa f63 hk_b27 rfl x14.toNatClampNeg).trans ((Fr.kpa f57 hk_b27 rfl x14.toNatClampNeg).trans ((Fr.kpa f48 hk_b27 rfl x14.toNatClampNeg).trans (Fr.kpa f32 hk_b27 rfl x14.toNatClampNeg)))).trans k30
          refine tw_ialk hx hb hK hS hz_b27 hk_b27 (Or.inr (by decide)) hn_b27 h26 ⟨by decide, by decide⟩ (v := x31) k87 dX12_goes_84 ?_
          refine tw_goi hS (md_runV (As := [.int a1, .int x31]) (rest := [.int x12]) hx hb hml hown hW hK hT hS.1 (t_X12_gainOf l D cy tx base Z K N M66 R16 J65 hS.2.1 a0 hz_a0 hk_a0 a1 h_a1 x31 h29) s_X12_459 ⟨rfl, rfl, ⟨Nat.le_of_ble_eq_true rfl, Nat.le_of_ble_eq_true rfl⟩, ⟨Nat.le_of_ble_eq_true rfl, Nat.le_of_ble_eq_true rfl⟩⟩ hz_a0 hk_a0 (by decide) rfl rfl hl.1 rfl (Nat.le_of_ble_eq_true rfl) dX12_goes_85) rfl rfl (fun x94 H locs M91 R92 J90 hS f88 g89 E93 => ?_)
          have eM91 := Fr.nil f88 rfl
          subst eM91
          have eR92 := Fr.nil g89 rfl
          subst eR92
          have h_x94 := E93
          clear E93
          refine lv_aload_n hx hb dX12_goes_88 rfl (lv_at hl 4 rfl) ?_
          refine lv_iload_n hx hb dX12_goes_89 rfl (lv_at hl 6 rfl) ?_
          refine lv_aload_n hx hb dX12_goes_90 rfl (lv_at hl 4 rfl) ?_
          refine tw_getrk hx hb hW hown hK hS f_X12_54_11 hz_a0 hk_a0 (b := b27) k28 dX12_goes_91 ?_
          refine lv_iload hx hb dX12_goes_94 (lv_at hl 3 rfl) ?_
          refine tw_ialk hx hb hK hS hz_b27 hk_b27 (Or.inr (by decide)) hn_b27 h26 ⟨by decide, by decide⟩ (v := x31) k87 dX12_goes_96 ?_
          refine tw_goi hS (md_runV (As := [.int a2, .int x31]) (rest := [.int x94, .int x12]) hx hb hml hown hW hK hT hS.1 (t_X12_gainOf l D cy tx base Z K N M66 R16 J90 hS.2.1 a0 hz_a0 hk_a0 a2 h_a2 x31 h29) s_X12_459 ⟨rfl, rfl, ⟨Nat.le_of_ble_eq_true rfl, Nat.le_of_ble_eq_true rfl⟩, ⟨Nat.le_of_ble_eq_true rfl, Nat.le_of_ble_eq_true rfl⟩⟩ hz_a0 hk_a0 (by decide) rfl rfl hl.1 rfl (Nat.le_of_ble_eq_true rfl) dX12_goes_97) rfl rfl (fun x101 H locs M98 R99 J97 hS f95 g96 E100 => ?_)
          have eM98 := Fr.nil f95 rfl
          subst eM98
          have eR99 := Fr.nil g96 rfl
          subst eR99
          have h_x101 := E100
          clear E100
          refine lv_isub hx hb dX12_goes_100 ?_
          refine tw_top (fun x103 => ?_)
          have h102 := iv_any x103
          refine lv_goto (tgt := 105) hx hb dX12_goes_101 (by decide) ?_
          refine lv_iadd hx hb dX12_goes_105 ?_
          refine tw_top (fun x105 => ?_)
          have h104 := iv_any x105
          refine lv_istore (lv' := [(5, .int x105), (8, .int x44), (6, .int x13), (7, .int x14), (0, .ref (base + a0)), (1, .int a1), (2, .int a2), (3, .int a3), (4, .int a4)]) hx hb dX12_goes_106 hl (by decide) rfl (fun ls hl => ?_)
          refine lv_iload hx hb dX12_goes_108 (lv_at hl 2 rfl) ?_
          refine lv_bipush (v := 9) hx hb dX12_goes_110 (by decide) ?_
          refine tw_idiv (lo := 0) (hi := 81) hx hb h38 (iv_c (c := 9) (n := 9) (by decide)) ⟨by decide, by decide⟩ ⟨by decide, by decide⟩ dX12_goes_112 (fun x108 e107 h106 => ?_)
          have e107 : x108.toInt = x13.toInt / 9 := e107
          refine lv_istore (lv' := [(6, .int x108), (5, .int x105), (8, .int x44), (7, .int x14), (0, .ref (base + a0)), (1, .int a1), (2, .int a2), (3, .int a3), (4, .int a4)]) hx hb dX12_goes_113 hl (by decide) rfl (fun ls hl => ?_)
          refine tw_iinc (lv' := fun x111 => [(7, .int x111), (6, .int x108), (5, .int x105), (8, .int x44), (0, .ref (base + a0)), (1, .int a1), (2, .int a2), (3, .int a3), (4, .int a4)]) (lo := 1) (hi := 4) hx hb dX12_goes_115 hl (k := 3) rfl h26 (by decide) ⟨by decide, by decide⟩ ⟨by decide, by decide⟩ (by decide) (fun _ => rfl) (fun x111 ls e110 h109 hl => ?_)
          refine lv_goto (tgt := 17) hx hb dX12_goes_118 (by decide) ?_
          have k112 : M66 a0 30 = x20 := ((Fr.kp (k := 30) f63 hk_a0 rfl).trans ((Fr.kp (k := 30) f57 hk_a0 rfl).trans ((Fr.kp (k := 30) f48 hk_a0 rfl).trans (Fr.kp (k := 30) f32 hk_a0 rfl)))).trans k21
          have w113 : x20.toInt = e4.toInt := by
            have := (h_a1).1; have := (h_a1).2; have := (h_a2).1; have := (h_a2).2; have := (h_a3).1; have := (h_a3).2; have := (h_a4).1; have := (h_a4).2; have := (h_e4).1; have := (h_e4).2; have := (h106).1; have := (h106).2; have := (h109).1; have := (h109).2; have := (h38).1; have := (h38).2; have := (h26).1; have := (h26).2; have := (h_x20).1; have := (h_x20).2; have := (h39).1; have := (h39).2; omega
          have w114 : (e4.toInt - x111.toInt = 0 ∧ x108.toInt = 0) ∨ (e4.toInt - x111.toInt = 1 ∧ x108.toInt = 1) ∨ (e4.toInt - x111.toInt = 2 ∧ x108.toInt = 9) ∨ (e4.toInt - x111.toInt = 3 ∧ x108.toInt = 81) ∨ (e4.toInt - x111.toInt = 4 ∧ x108.toInt = 729) := by
            have := (h_a1).1; have := (h_a1).2; have := (h_a2).1; have := (h_a2).2; have := (h_a3).1; have := (h_a3).2; have := (h_a4).1; have := (h_a4).2; have := (h_e4).1; have := (h_e4).2; have := (h106).1; have := (h106).2; have := (h109).1; have := (h109).2; have := (h38).1; have := (h38).2; have := (h26).1; have := (h26).2; have := (h_x20).1; have := (h_x20).2; have := (h39).1; have := (h39).2; omega
          have hm115 : 4 - x111.toInt < (n_15 : Int) := by
            have := (h_a1).1; have := (h_a1).2; have := (h_a2).1; have := (h_a2).2; have := (h_a3).1; have := (h_a3).2; have := (h_a4).1; have := (h_a4).2; have := (h_e4).1; have := (h_e4).2; have := (h106).1; have := (h106).2; have := (h109).1; have := (h109).2; have := (h38).1; have := (h38).2; have := (h26).1; have := (h26).2; have := (h_x20).1; have := (h_x20).2; have := (h39).1; have := (h39).2; omega
          exact ih_15 x105 x108 x111 x20 M66 R16 J97 H locs _ h104 (iv_mono h106 (by decide) (by decide)) (iv_mono h109 (by decide) (by decide)) h_x20 k112 w113 w114 hm115 hS (lv_sub hl [2, 1, 0, 4, 5, 6, 7, 8] rfl)
  have w116 : e4.toInt = e4.toInt := by
    have := (h_a1).1; have := (h_a1).2; have := (h_a2).1; have := (h_a2).2; have := (h_a3).1; have := (h_a3).2; have := (h_a4).1; have := (h_a4).2; have := (h_e4).1; have := (h_e4).2; omega
  have w117 : (e4.toInt - (0 : Int32).toInt = 0 ∧ x11.toInt = 0) ∨ (e4.toInt - (0 : Int32).toInt = 1 ∧ x11.toInt = 1) ∨ (e4.toInt - (0 : Int32).toInt = 2 ∧ x11.toInt = 9) ∨ (e4.toInt - (0 : Int32).toInt = 3 ∧ x11.toInt = 81) ∨ (e4.toInt - (0 : Int32).toInt = 4 ∧ x11.toInt = 729) := by
    have := (h_a1).1; have := (h_a1).2; have := (h_a2).1; have := (h_a2).2; have := (h_a3).1; have := (h_a3).2; have := (h_a4).1; have := (h_a4).2; have := (h_e4).1; have := (h_e4).2; have := (h9).1; have := (h9).2; have : (0 : Int32).toInt = 0 := (by decide); omega
  have hm118 : 4 - (0 : Int32).toInt < (((5 : Nat) : Int) : Int) := by
    have := (h_a1).1; have := (h_a1).2; have := (h_a2).1; have := (h_a2).2; have := (h_a3).1; have := (h_a3).2; have := (h_a4).1; have := (h_a4).2; have := (h_e4).1; have := (h_e4).2; have : (0 : Int32).toInt = 0 := (by decide); omega
  exact W17_15 5 0 x11 0 e4 M4 Ra J3 H locs _ (iv_mono (iv_c (c := 0) (n := 0) (by decide)) (by decide) (by decide)) h9 (iv_mono (iv_c (c := 0) (n := 0) (by decide)) (by decide) (by decide)) h_e4 k8 w116 w117 hm118 hS (lv_sub hl [2, 1, 0, 3, 4, 5, 6, 7] rfl)
def Lt_X12_isAgain : WL := []
def LRt_X12_isAgain : WL := []
set_option maxRecDepth 100000 in
set_option maxHeartbeats 4000000 in
theorem t_X12_isAgain (l : Launch) (D : va_G) (cy : Nat → ClassId) (tx : (Nat → Nat) × (Nat → Nat)) (base Z : Nat) (K N : Nat → Nat) (Ma : MT) (Ra : RT) (Ja : JT) (hTy : Ty Z K N Ma Ra) (a0 : Nat) (hz_a0 : a0 < Z) (hk_a0 : K a0 = 12) (a1 : Int32) (h_a1 : iv 1 300 a1) (a2 : Int32) (h_a2 : iv 0 300 a2) : Met l yX12_isAgain [Cond.code yX12_isAgain cX12_isAgain 4 (some .boolean)] (md_rm 1 0 0) (va_Pc [.ref (base + a0), .int a1, .int a2] (md_U D cy tx base Z K N Ma Ra Ja)) (mQi D cy tx base (fun r u => TP Z K N Lt_X12_isAgain LRt_X12_isAgain Ma Ra u ∧ (iv 0 1 r))) 0 0 (fun q => base ≤ q) := by
  refine tw_ofW (L := Lt_X12_isAgain) (LR := LRt_X12_isAgain) (by decide) (Nat.le_of_ble_eq_true rfl) hTy ?_
  intro p e s m args below meth c Q ls hx hb hr hlocks hown hml hW hK hT hS hQ hl
  have hl : lv_has ls 4 [(0, .ref (base + a0)), (1, .int a1), (2, .int a2)] := hl
  refine lv_iconst (v := 0) hx hb dX12_isAgain_0 (by decide) ?_
  refine lv_istore_n (lv' := [(3, .int 0), (0, .ref (base + a0)), (1, .int a1), (2, .int a2)]) hx hb dX12_isAgain_1 rfl hl (by decide) rfl (fun ls hl => ?_)
  have W2_2 : ∀ (n_2 : Nat) (x1 : Int32) (M2 : MT) (R3 : RT) (J4 : JT) (H : Heap) (locs : List Loc) (ls : Array Slot) (h_x1 : iv 0 10 x1) (hm_2 : 10 - x1.toInt < (n_2 : Int)) (hS : SB D cy base Z K N Lt_X12_isAgain LRt_X12_isAgain Ma Ra M2 R3 J4 s H locs) (hl : lv_has ls 4 [(3, .int x1), (0, .ref (base + a0)), (1, .int a1), (2, .int a2)]), W p l e (md_rm 1 0 0) s m args below meth c H locs 0 0 Q (F0 m 2 ls []) := by
    intro n_2
    induction n_2 with
    | zero =>
      intro x1 M2 R3 J4 H locs ls h_x1 hm_2 hS hl
      exfalso
      have := (h_a1).1; have := (h_a1).2; have := (h_a2).1; have := (h_a2).2; have := (h_x1).1; have := (h_x1).2; omega
    | succ n_2 ih_2 =>
      intro x1 M2 R3 J4 H locs ls h_x1 hm_2 hS hl
      have f5 := hS.2.2.1
      have g6 := hS.2.2.2
      refine lv_iload_n hx hb dX12_isAgain_2 rfl (lv_at hl 0 rfl) ?_
      refine lv_bipush (v := 10) hx hb dX12_isAgain_3 (by decide) ?_
      refine lv_icmp_ge (tgt := 41) hx hb dX12_isAgain_5 (by decide) (fun c7 => ?_) (fun c7 => ?_)
      · have q8 : 10 ≤ x1.toInt := ti_le c7
        have h9 : iv 10 10 x1 := iv_geL (y := 10) h_x1 (iv_c (c := 10) (n := 10) (by decide)) q8 (by decide)
        refine lv_iconst (v := 1) hx hb dX12_isAgain_41 (by decide) ?_
        exact tw_endz hx hb hr hlocks hK hT hS hQ rfl ((iv_mono (iv_c (c := 1) (n := 1) (by decide)) (by decide) (by decide))) dX12_isAgain_42
      · have q10 : x1.toInt < 10 := ti_nle c7
        have h11 : iv 0 9 x1 := iv_ltL (y := 10) h_x1 (iv_c (c := 10) (n := 10) (by decide)) q10 (by decide)
        refine lv_aload_n hx hb dX12_isAgain_8 rfl (lv_at hl 1 rfl) ?_
        refine tw_getr hx hb hW hown hK hS f_X12_93_11 hz_a0 hk_a0 (t := 14) (n := 3010) rfl dX12_isAgain_9 (fun b12 k13 hz_b12 hk_b12 hn_b12 => ?_)
        have hn_b12 := hn_b12 (by decide)
        refine lv_bipush (v := 10) hx hb dX12_isAgain_12 (by decide) ?_
        refine lv_iload_n hx hb dX12_isAgain_14 rfl (lv_at hl 2 rfl) ?_
        refine tw_icmul (k := 10) (lo := 10) (hi := 3000) hx hb (by decide) h_a1 (by decide) ⟨by decide, by decide⟩ ⟨by decide, by decide⟩ dX12_isAgain_15 (fun x16 e15 h14 => ?_)
        refine lv_iload_n hx hb dX12_isAgain_16 rfl (lv_at hl 0 rfl) ?_
        refine tw_iadd (lo := 10) (hi := 3009) hx hb h14 h11 ⟨by decide, by decide⟩ ⟨by decide, by decide⟩ dX12_isAgain_17 (fun x19 e18 h17 => ?_)
        refine tw_iald hx hb hK hS hz_b12 hk_b12 (Or.inl rfl) hn_b12 (lo := (-2147483648)) (hi := 2147483647) h17 ⟨by decide, by decide⟩ rg_u14 dX12_isAgain_18 (fun x22 k21 h20 => ?_)
        refine lv_aload_n hx hb dX12_isAgain_19 rfl (lv_at hl 1 rfl) ?_
        refine tw_getrk hx hb hW hown hK hS f_X12_93_11 hz_a0 hk_a0 (b := b12) k13 dX12_isAgain_20 ?_
        refine lv_bipush (v := 10) hx hb dX12_isAgain_23 (by decide) ?_
        refine lv_iload_n hx hb dX12_isAgain_25 rfl (lv_at hl 3 rfl) ?_
        refine tw_icmul (k := 10) (lo := 0) (hi := 3000) hx hb (by decide) h_a2 (by decide) ⟨by decide, by decide⟩ ⟨by decide, by decide⟩ dX12_isAgain_26 (fun x25 e24 h23 => ?_)
        refine lv_iload_n hx hb dX12_isAgain_27 rfl (lv_at hl 0 rfl) ?_
        refine tw_iadd (lo := 0) (hi := 3009) hx hb h23 h11 ⟨by decide, by decide⟩ ⟨by decide, by decide⟩ dX12_isAgain_28 (fun x28 e27 h26 => ?_)
        refine tw_iald hx hb hK hS hz_b12 hk_b12 (Or.inl rfl) hn_b12 (lo := (-2147483648)) (hi := 2147483647) h26 ⟨by decide, by decide⟩ rg_u14 dX12_isAgain_29 (fun x31 k30 h29 => ?_)
        refine lv_icmp_eq (tgt := 35) hx hb dX12_isAgain_30 (by decide) (fun c32 => ?_) (fun c32 => ?_)
        · have q33 : x22.toInt = x31.toInt := ti_eq c32
          refine tw_iinc (lv' := fun x36 => [(3, .int x36), (0, .ref (base + a0)), (1, .int a1), (2, .int a2)]) (lo := 1) (hi := 10) hx hb dX12_isAgain_35 hl (k := 0) rfl h11 (by decide) ⟨by decide, by decide⟩ ⟨by decide, by decide⟩ (by decide) (fun _ => rfl) (fun x36 ls e35 h34 hl => ?_)
          refine lv_goto (tgt := 2) hx hb dX12_isAgain_38 (by decide) ?_
          have hm37 : 10 - x36.toInt < (n_2 : Int) := by
            have := (h_a1).1; have := (h_a1).2; have := (h_a2).1; have := (h_a2).2; have := (h11).1; have := (h11).2; have := (h17).1; have := (h17).2; have := (h26).1; have := (h26).2; have := (h34).1; have := (h34).2; omega
          exact ih_2 x36 M2 R3 J4 H locs _ (iv_mono h34 (by decide) (by decide)) hm37 hS hl
        · have q38 : ¬ x22.toInt = x31.toInt := ti_ne c32
          refine lv_iconst (v := 0) hx hb dX12_isAgain_33 (by decide) ?_
          exact tw_endz hx hb hr hlocks hK hT hS hQ rfl ((iv_mono (iv_c (c := 0) (n := 0) (by decide)) (by decide) (by decide))) dX12_isAgain_34
  have hm39 : 10 - (0 : Int32).toInt < (((11 : Nat) : Int) : Int) := by
    have := (h_a1).1; have := (h_a1).2; have := (h_a2).1; have := (h_a2).2; have : (0 : Int32).toInt = 0 := (by decide); omega
  exact W2_2 11 0 Ma Ra Ja s.heap [] _ (iv_mono (iv_c (c := 0) (n := 0) (by decide)) (by decide) (by decide)) hm39 hS hl
def Lt_X12_isPoint : WL := []
def LRt_X12_isPoint : WL := []
set_option maxRecDepth 100000 in
set_option maxHeartbeats 4000000 in
theorem t_X12_isPoint (l : Launch) (D : va_G) (cy : Nat → ClassId) (tx : (Nat → Nat) × (Nat → Nat)) (base Z : Nat) (K N : Nat → Nat) (Ma : MT) (Ra : RT) (Ja : JT) (hTy : Ty Z K N Ma Ra) (a0 : Nat) (hz_a0 : a0 < Z) (hk_a0 : K a0 = 12) (a1 : Int32) (h_a1 : iv (-2147483648) 2147483647 a1) : Met l yX12_isPoint [Cond.code yX12_isPoint cX12_isPoint 2 (some .boolean)] (md_rm 1 0 0) (va_Pc [.ref (base + a0), .int a1] (md_U D cy tx base Z K N Ma Ra Ja)) (mQi D cy tx base (fun r u => TP Z K N Lt_X12_isPoint LRt_X12_isPoint Ma Ra u ∧ (iv 0 1 r ∧ (¬ r = 0 → iv 0 11 a1)))) 0 0 (fun q => base ≤ q) := by
  refine tw_ofW (L := Lt_X12_isPoint) (LR := LRt_X12_isPoint) (by decide) (Nat.le_of_ble_eq_true rfl) hTy ?_
  intro p e s m args below meth c Q ls hx hb hr hlocks hown hml hW hK hT hS hQ hl
  have hl : lv_has ls 2 [(0, .ref (base + a0)), (1, .int a1)] := hl
  refine lv_iload_n hx hb dX12_isPoint_0 rfl (lv_at hl 1 rfl) ?_
  refine lv_if_lt (tgt := 18) hx hb dX12_isPoint_1 (by decide) (fun c1 => ?_) (fun c1 => ?_)
  · have q2 : a1.toInt < 0 := ti_lt c1
    have h3 : iv (-2147483648) (-1) a1 := iv_ltL (y := 0) h_a1 (iv_c (c := 0) (n := 0) (by decide)) q2 (by decide)
    refine lv_iconst (v := 0) hx hb dX12_isPoint_18 (by decide) ?_
    exact tw_endz hx hb hr hlocks hK hT hS hQ rfl (⟨(iv_mono (iv_c (c := 0) (n := 0) (by decide)) (by decide) (by decide)), (fun h => absurd rfl h)⟩) dX12_isPoint_19
  · have q4 : 0 ≤ a1.toInt := ti_nlt c1
    have h5 : iv 0 2147483647 a1 := iv_geL (y := 0) h_a1 (iv_c (c := 0) (n := 0) (by decide)) q4 (by decide)
    refine lv_iload_n hx hb dX12_isPoint_4 rfl (lv_at hl 1 rfl) ?_
    refine lv_aload_n hx hb dX12_isPoint_5 rfl (lv_at hl 0 rfl) ?_
    refine tw_getr hx hb hW hown hK hS f_X12_45_11 hz_a0 hk_a0 (t := 23) (n := 226) rfl dX12_isPoint_6 (fun b6 k7 hz_b6 hk_b6 hn_b6 => ?_)
    have hn_b6 := hn_b6 (by decide)
    refine lv_iconst (v := 1) hx hb dX12_isPoint_9 (by decide) ?_
    refine tw_iald hx hb hK hS hz_b6 hk_b6 (Or.inr (by decide)) hn_b6 (lo := 0) (hi := 12) (iv_c (c := 1) (n := 1) (by decide)) ⟨by decide, by decide⟩ (rg_c (k0 := 1) rfl rfl rfl) dX12_isPoint_10 (fun x10 k9 h8 => ?_)
    refine lv_icmp_ge (tgt := 18) hx hb dX12_isPoint_11 (by decide) (fun c11 => ?_) (fun c11 => ?_)
    · have q12 : x10.toInt ≤ a1.toInt := ti_le c11
      refine lv_iconst (v := 0) hx hb dX12_isPoint_18 (by decide) ?_
      exact tw_endz hx hb hr hlocks hK hT hS hQ rfl (⟨(iv_mono (iv_c (c := 0) (n := 0) (by decide)) (by decide) (by decide)), (fun h => absurd rfl h)⟩) dX12_isPoint_19
    · have q13 : a1.toInt < x10.toInt := ti_nle c11
      have h14 : iv 0 11 a1 := iv_ltL (y := x10) h5 h8 q13 (by decide)
      have h15 : iv 1 12 x10 := iv_gtL (y := a1) h8 h5 q13 (by decide)
      refine lv_iconst (v := 1) hx hb dX12_isPoint_14 (by decide) ?_
      refine lv_goto (tgt := 19) hx hb dX12_isPoint_15 (by decide) ?_
      exact tw_endz hx hb hr hlocks hK hT hS hQ rfl (⟨(iv_mono (iv_c (c := 1) (n := 1) (by decide)) (by decide) (by decide)), (fun _ => h14)⟩) dX12_isPoint_19
def Lt_X12_isPresent : WL := []
def LRt_X12_isPresent : WL := []
set_option maxRecDepth 100000 in
set_option maxHeartbeats 4000000 in
theorem t_X12_isPresent (l : Launch) (D : va_G) (cy : Nat → ClassId) (tx : (Nat → Nat) × (Nat → Nat)) (base Z : Nat) (K N : Nat → Nat) (Ma : MT) (Ra : RT) (Ja : JT) (hTy : Ty Z K N Ma Ra) (a0 : Nat) (hz_a0 : a0 < Z) (hk_a0 : K a0 = 12) (a1 : Int32) (h_a1 : iv (-2147483648) 2147483647 a1) : Met l yX12_isPresent [Cond.code yX12_isPresent cX12_isPresent 2 (some .boolean)] (md_rm 2 0 0) (va_Pc [.ref (base + a0), .int a1] (md_U D cy tx base Z K N Ma Ra Ja)) (mQi D cy tx base (fun r u => TP Z K N Lt_X12_isPresent LRt_X12_isPresent Ma Ra u ∧ (iv 0 1 r ∧ (¬ r = 0 → iv 0 9 a1)))) 0 0 (fun q => base ≤ q) := by
  refine tw_ofW (L := Lt_X12_isPresent) (LR := LRt_X12_isPresent) (by decide) (Nat.le_of_ble_eq_true rfl) hTy ?_
  intro p e s m args below meth c Q ls hx hb hr hlocks hown hml hW hK hT hS hQ hl
  have hl : lv_has ls 2 [(0, .ref (base + a0)), (1, .int a1)] := hl
  refine lv_aload_n hx hb dX12_isPresent_0 rfl (lv_at hl 0 rfl) ?_
  refine lv_iload_n hx hb dX12_isPresent_1 rfl (lv_at hl 1 rfl) ?_
  refine tw_goi hS (md_runV (As := [.int a1]) (rest := []) hx hb hml hown hW hK hT hS.1 (t_X12_isMember l D cy tx base Z K N Ma Ra Ja hS.2.1 a0 hz_a0 hk_a0 a1 h_a1) s_X12_319 ⟨rfl, rfl, ⟨Nat.le_of_ble_eq_true rfl, Nat.le_of_ble_eq_true rfl⟩, ⟨Nat.le_of_ble_eq_true rfl, Nat.le_of_ble_eq_true rfl⟩⟩ hz_a0 hk_a0 (by decide) rfl rfl hl.1 rfl (Nat.le_of_ble_eq_true rfl) dX12_isPresent_2) rfl rfl (fun x7 H locs M4 R5 J3 hS f1 g2 E6 => ?_)
  have eM4 := Fr.nil f1 rfl
  subst eM4
  have eR5 := Fr.nil g2 rfl
  subst eR5
  obtain ⟨h_x7, p8⟩ := E6
  refine lv_if_eq (tgt := 25) hx hb dX12_isPresent_5 (by decide) (fun c9 => ?_) (fun c9 => ?_)
  · have q10 : x7.toInt = 0 := ti_eq c9
    have h11 : iv 0 0 x7 := ⟨by have := (h_x7).1; have := ((iv_c (c := 0) (n := 0) (by decide))).1; omega, by have := (h_x7).2; have := ((iv_c (c := 0) (n := 0) (by decide))).2; omega⟩
    refine lv_iconst (v := 0) hx hb dX12_isPresent_25 (by decide) ?_
    exact tw_endz hx hb hr hlocks hK hT hS hQ rfl (⟨(iv_mono (iv_c (c := 0) (n := 0) (by decide)) (by decide) (by decide)), (fun h => absurd rfl h)⟩) dX12_isPresent_26
  · have q12 : ¬ x7.toInt = 0 := ti_ne c9
    have h13 : iv 1 1 x7 := ⟨by have := (h_x7).1; have := ((iv_c (c := 0) (n := 0) (by decide))).1; have := ((iv_c (c := 0) (n := 0) (by decide))).2; omega, by have := (h_x7).2; have := ((iv_c (c := 0) (n := 0) (by decide))).1; have := ((iv_c (c := 0) (n := 0) (by decide))).2; omega⟩
    have h14 : iv 0 9 a1 := ⟨by have := (p8 c9).1; have := (h_a1).1; omega, by have := (p8 c9).2; have := (h_a1).2; omega⟩
    refine lv_aload_n hx hb dX12_isPresent_8 rfl (lv_at hl 0 rfl) ?_
    refine tw_getr hx hb hW hown hK hS f_X12_45_11 hz_a0 hk_a0 (t := 23) (n := 226) rfl dX12_isPresent_9 (fun b15 k16 hz_b15 hk_b15 hn_b15 => ?_)
    have hn_b15 := hn_b15 (by decide)
    refine lv_iconst (v := 2) hx hb dX12_isPresent_12 (by decide) ?_
    refine tw_iald hx hb hK hS hz_b15 hk_b15 (Or.inr (by decide)) hn_b15 (lo := (-2147483648)) (hi := 2147483647) (iv_c (c := 2) (n := 2) (by decide)) ⟨by decide, by decide⟩ (rg_c (k0 := 2) rfl rfl rfl) dX12_isPresent_13 (fun x19 k18 h17 => ?_)
    refine lv_iload_n hx hb dX12_isPresent_14 rfl (lv_at hl 1 rfl) ?_
    refine tw_goi hS (md_runS (As := [.int x19, .int a1]) (rest := []) hx hb hml hown hW hK hT hS.1 (t_X12_isOf l D cy tx base Z K N Ma Ra J3 hS.2.1 x19 h17 a1 h14) s_X12_322 ⟨rfl, rfl, ⟨Nat.le_of_ble_eq_true rfl, Nat.le_of_ble_eq_true rfl⟩, ⟨Nat.le_of_ble_eq_true rfl, Nat.le_of_ble_eq_true rfl⟩⟩ rfl hl.1 rfl (Nat.le_of_ble_eq_true rfl) dX12_isPresent_15) rfl rfl (fun x26 H locs M23 R24 J22 hS f20 g21 E25 => ?_)
    have eM23 := Fr.nil f20 rfl
    subst eM23
    have eR24 := Fr.nil g21 rfl
    subst eR24
    have h_x26 := E25
    clear E25
    refine lv_if_eq (tgt := 25) hx hb dX12_isPresent_18 (by decide) (fun c27 => ?_) (fun c27 => ?_)
    · have q28 : x26.toInt = 0 := ti_eq c27
      have h29 : iv 0 0 x26 := ⟨by have := (h_x26).1; have := ((iv_c (c := 0) (n := 0) (by decide))).1; omega, by have := (h_x26).2; have := ((iv_c (c := 0) (n := 0) (by decide))).2; omega⟩
      refine lv_iconst (v := 0) hx hb dX12_isPresent_25 (by decide) ?_
      exact tw_endz hx hb hr hlocks hK hT hS hQ rfl (⟨(iv_mono (iv_c (c := 0) (n := 0) (by decide)) (by decide) (by decide)), (fun h => absurd rfl h)⟩) dX12_isPresent_26
    · have q30 : ¬ x26.toInt = 0 := ti_ne c27
      have h31 : iv 1 1 x26 := ⟨by have := (h_x26).1; have := ((iv_c (c := 0) (n := 0) (by decide))).1; have := ((iv_c (c := 0) (n := 0) (by decide))).2; omega, by have := (h_x26).2; have := ((iv_c (c := 0) (n := 0) (by decide))).1; have := ((iv_c (c := 0) (n := 0) (by decide))).2; omega⟩
      refine lv_iconst (v := 1) hx hb dX12_isPresent_21 (by decide) ?_
      refine lv_goto (tgt := 26) hx hb dX12_isPresent_22 (by decide) ?_
      exact tw_endz hx hb hr hlocks hK hT hS hQ rfl (⟨(iv_mono (iv_c (c := 1) (n := 1) (by decide)) (by decide) (by decide)), (fun _ => h14)⟩) dX12_isPresent_26
def Lt_X12_keepsDay : WL := [(14, 0, 2000000)]
def LRt_X12_keepsDay : WL := []
set_option maxRecDepth 100000 in
set_option maxHeartbeats 4000000 in
theorem t_X12_keepsDay (l : Launch) (D : va_G) (cy : Nat → ClassId) (tx : (Nat → Nat) × (Nat → Nat)) (base Z : Nat) (K N : Nat → Nat) (Ma : MT) (Ra : RT) (Ja : JT) (hTy : Ty Z K N Ma Ra) (a0 : Nat) (hz_a0 : a0 < Z) (hk_a0 : K a0 = 12) (a1 : Int32) (h_a1 : iv 0 300 a1) : Met l yX12_keepsDay [Cond.code yX12_keepsDay cX12_keepsDay 3 none] (md_rm 1 0 0) (va_Pc [.ref (base + a0), .int a1] (md_U D cy tx base Z K N Ma Ra Ja)) (mQv D cy tx base (fun u => TP Z K N Lt_X12_keepsDay LRt_X12_keepsDay Ma Ra u ∧ (True))) 0 0 (fun q => base ≤ q) := by
  refine tw_ofW (L := Lt_X12_keepsDay) (LR := LRt_X12_keepsDay) (by decide) (Nat.le_of_ble_eq_true rfl) hTy ?_
  intro p e s m args below meth c Q ls hx hb hr hlocks hown hml hW hK hT hS hQ hl
  have hl : lv_has ls 3 [(0, .ref (base + a0)), (1, .int a1)] := hl
  refine lv_iconst (v := 0) hx hb dX12_keepsDay_0 (by decide) ?_
  refine lv_istore_n (lv' := [(2, .int 0), (0, .ref (base + a0)), (1, .int a1)]) hx hb dX12_keepsDay_1 rfl hl (by decide) rfl (fun ls hl => ?_)
  have W2_2 : ∀ (n_2 : Nat) (x1 : Int32) (M2 : MT) (R3 : RT) (J4 : JT) (H : Heap) (locs : List Loc) (ls : Array Slot) (h_x1 : iv 0 10 x1) (hm_2 : 10 - x1.toInt < (n_2 : Int)) (hS : SB D cy base Z K N Lt_X12_keepsDay LRt_X12_keepsDay Ma Ra M2 R3 J4 s H locs) (hl : lv_has ls 3 [(2, .int x1), (0, .ref (base + a0)), (1, .int a1)]), W p l e (md_rm 1 0 0) s m args below meth c H locs 0 0 Q (F0 m 2 ls []) := by
    intro n_2
    induction n_2 with
    | zero =>
      intro x1 M2 R3 J4 H locs ls h_x1 hm_2 hS hl
      exfalso
      have := (h_a1).1; have := (h_a1).2; have := (h_x1).1; have := (h_x1).2; omega
    | succ n_2 ih_2 =>
      intro x1 M2 R3 J4 H locs ls h_x1 hm_2 hS hl
      have f5 := hS.2.2.1
      have g6 := hS.2.2.2
      refine lv_iload_n hx hb dX12_keepsDay_2 rfl (lv_at hl 0 rfl) ?_
      refine lv_bipush (v := 10) hx hb dX12_keepsDay_3 (by decide) ?_
      refine lv_icmp_ge (tgt := 48) hx hb dX12_keepsDay_5 (by decide) (fun c7 => ?_) (fun c7 => ?_)
      · have q8 : 10 ≤ x1.toInt := ti_le c7
        have h9 : iv 10 10 x1 := iv_geL (y := 10) h_x1 (iv_c (c := 10) (n := 10) (by decide)) q8 (by decide)
        refine lv_aload_n hx hb dX12_keepsDay_48 rfl (lv_at hl 1 rfl) ?_
        refine tw_getr hx hb hW hown hK hS f_X12_99_11 hz_a0 hk_a0 (t := 14) (n := 301) rfl dX12_keepsDay_49 (fun b10 k11 hz_b10 hk_b10 hn_b10 => ?_)
        have hn_b10 := hn_b10 (by decide)
        refine lv_iload_n hx hb dX12_keepsDay_52 rfl (lv_at hl 2 rfl) ?_
        refine lv_aload_n hx hb dX12_keepsDay_53 rfl (lv_at hl 1 rfl) ?_
        refine tw_geti hx hb hW hown hK hS f_X12_407_11 hz_a0 hk_a0 (lo := (-2147483648)) (hi := 2147483647) rfl dX12_keepsDay_54 (fun x14 k13 h12 => ?_)
        refine tw_iast hx hb hK hS hz_b10 hk_b10 (Or.inl rfl) hn_b10 h_a1 ⟨by decide, by decide⟩ h12 (rg_s14 ⟨by decide, by decide⟩) (jl := 0) (jh := 1999999) ⟨by decide, by decide⟩ rfl dX12_keepsDay_57 (fun H locs M17 hS k15 f16 => ?_)
        exact tw_endv hx hb hr hlocks hK hT hS hQ (trivial) dX12_keepsDay_58
      · have q18 : x1.toInt < 10 := ti_nle c7
        have h19 : iv 0 9 x1 := iv_ltL (y := 10) h_x1 (iv_c (c := 10) (n := 10) (by decide)) q18 (by decide)
        refine lv_aload_n hx hb dX12_keepsDay_8 rfl (lv_at hl 1 rfl) ?_
        refine tw_getr hx hb hW hown hK hS f_X12_93_11 hz_a0 hk_a0 (t := 14) (n := 3010) rfl dX12_keepsDay_9 (fun b20 k21 hz_b20 hk_b20 hn_b20 => ?_)
        have hn_b20 := hn_b20 (by decide)
        refine lv_bipush (v := 10) hx hb dX12_keepsDay_12 (by decide) ?_
        refine lv_iload_n hx hb dX12_keepsDay_14 rfl (lv_at hl 2 rfl) ?_
        refine tw_icmul (k := 10) (lo := 0) (hi := 3000) hx hb (by decide) h_a1 (by decide) ⟨by decide, by decide⟩ ⟨by decide, by decide⟩ dX12_keepsDay_15 (fun x24 e23 h22 => ?_)
        refine lv_iload_n hx hb dX12_keepsDay_16 rfl (lv_at hl 0 rfl) ?_
        refine tw_iadd (lo := 0) (hi := 3009) hx hb h22 h19 ⟨by decide, by decide⟩ ⟨by decide, by decide⟩ dX12_keepsDay_17 (fun x27 e26 h25 => ?_)
        refine lv_aload_n hx hb dX12_keepsDay_18 rfl (lv_at hl 1 rfl) ?_
        refine tw_getr hx hb hW hown hK hS f_X12_51_11 hz_a0 hk_a0 (t := 30) (n := 10) rfl dX12_keepsDay_19 (fun b28 k29 hz_b28 hk_b28 hn_b28 => ?_)
        have hn_b28 := hn_b28 (by decide)
        refine lv_iload_n hx hb dX12_keepsDay_22 rfl (lv_at hl 0 rfl) ?_
        refine tw_iald hx hb hK hS hz_b28 hk_b28 (Or.inr (by decide)) hn_b28 (lo := 0) (hi := 9999) h19 ⟨by decide, by decide⟩ rg_u30 dX12_keepsDay_23 (fun x32 k31 h30 => ?_)
        refine tw_iast hx hb hK hS hz_b20 hk_b20 (Or.inl rfl) hn_b20 h25 ⟨by decide, by decide⟩ h30 (rg_s14 ⟨by decide, by decide⟩) (jl := 0) (jh := 1999999) ⟨by decide, by decide⟩ rfl dX12_keepsDay_24 (fun H locs M35 hS k33 f34 => ?_)
        refine lv_aload_n hx hb dX12_keepsDay_25 rfl (lv_at hl 1 rfl) ?_
        refine tw_getr hx hb hW hown hK hS f_X12_96_11 hz_a0 hk_a0 (t := 14) (n := 3010) rfl dX12_keepsDay_26 (fun b36 k37 hz_b36 hk_b36 hn_b36 => ?_)
        have hn_b36 := hn_b36 (by decide)
        refine lv_bipush (v := 10) hx hb dX12_keepsDay_29 (by decide) ?_
        refine lv_iload_n hx hb dX12_keepsDay_31 rfl (lv_at hl 2 rfl) ?_
        refine tw_icmul (k := 10) (lo := 0) (hi := 3000) hx hb (by decide) h_a1 (by decide) ⟨by decide, by decide⟩ ⟨by decide, by decide⟩ dX12_keepsDay_32 (fun x40 e39 h38 => ?_)
        refine lv_iload_n hx hb dX12_keepsDay_33 rfl (lv_at hl 0 rfl) ?_
        refine tw_iadd (lo := 0) (hi := 3009) hx hb h38 h19 ⟨by decide, by decide⟩ ⟨by decide, by decide⟩ dX12_keepsDay_34 (fun x43 e42 h41 => ?_)
        refine lv_aload_n hx hb dX12_keepsDay_35 rfl (lv_at hl 1 rfl) ?_
        refine tw_getr hx hb hW hown hK hS f_X12_57_11 hz_a0 hk_a0 (t := 14) (n := 10) rfl dX12_keepsDay_36 (fun b44 k45 hz_b44 hk_b44 hn_b44 => ?_)
        have hn_b44 := hn_b44 (by decide)
        refine lv_iload_n hx hb dX12_keepsDay_39 rfl (lv_at hl 0 rfl) ?_
        refine tw_iald hx hb hK hS hz_b44 hk_b44 (Or.inl rfl) hn_b44 (lo := (-2147483648)) (hi := 2147483647) h19 ⟨by decide, by decide⟩ rg_u14 dX12_keepsDay_40 (fun x48 k47 h46 => ?_)
        refine tw_iast hx hb hK hS hz_b36 hk_b36 (Or.inl rfl) hn_b36 h41 ⟨by decide, by decide⟩ h46 (rg_s14 ⟨by decide, by decide⟩) (jl := 0) (jh := 1999999) ⟨by decide, by decide⟩ rfl dX12_keepsDay_41 (fun H locs M51 hS k49 f50 => ?_)
        refine tw_iinc (lv' := fun x54 => [(2, .int x54), (0, .ref (base + a0)), (1, .int a1)]) (lo := 1) (hi := 10) hx hb dX12_keepsDay_42 hl (k := 0) rfl h19 (by decide) ⟨by decide, by decide⟩ ⟨by decide, by decide⟩ (by decide) (fun _ => rfl) (fun x54 ls e53 h52 hl => ?_)
        refine lv_goto (tgt := 2) hx hb dX12_keepsDay_45 (by decide) ?_
        have hm55 : 10 - x54.toInt < (n_2 : Int) := by
          have := (h_a1).1; have := (h_a1).2; have := (h19).1; have := (h19).2; have := (h25).1; have := (h25).2; have := (h41).1; have := (h41).2; have := (h52).1; have := (h52).2; omega
        exact ih_2 x54 M51 R3 J4 H locs _ (iv_mono h52 (by decide) (by decide)) hm55 hS hl
  have hm56 : 10 - (0 : Int32).toInt < (((11 : Nat) : Int) : Int) := by
    have := (h_a1).1; have := (h_a1).2; have : (0 : Int32).toInt = 0 := (by decide); omega
  exact W2_2 11 0 Ma Ra Ja s.heap [] _ (iv_mono (iv_c (c := 0) (n := 0) (by decide)) (by decide) (by decide)) hm56 hS hl
def Lt_X12_mostAlike : WL := [(12, 28, 29), (12, 31, 33), (14, 0, 2000000), (30, 0, 2000000)]
def LRt_X12_mostAlike : WL := []
set_option maxRecDepth 100000 in
set_option maxHeartbeats 4000000 in
theorem t_X12_mostAlike (l : Launch) (D : va_G) (cy : Nat → ClassId) (tx : (Nat → Nat) × (Nat → Nat)) (base Z : Nat) (K N : Nat → Nat) (Ma : MT) (Ra : RT) (Ja : JT) (hTy : Ty Z K N Ma Ra) (a0 : Nat) (hz_a0 : a0 < Z) (hk_a0 : K a0 = 12) (a1 : Int32) (h_a1 : iv 1 2147483647 a1) (a2 : Int32) (h_a2 : iv 1 6 a2) (sd : Nat) (k_sd : Ra a0 25 = some sd) (e0 : Int32) (k_e0 : Ma sd (0 : Int32).toNatClampNeg = e0) (h_e0 : iv 1 5 e0) : Met l yX12_mostAlike [Cond.code yX12_mostAlike cX12_mostAlike 6 (some .int)] (md_rm 6 0 0) (va_Pc [.ref (base + a0), .int a1, .int a2] (md_U D cy tx base Z K N Ma Ra Ja)) (mQi D cy tx base (fun r u => TP Z K N Lt_X12_mostAlike LRt_X12_mostAlike Ma Ra u ∧ (iv 0 2147483647 r))) 0 0 (fun q => base ≤ q) := by
  refine tw_ofW (L := Lt_X12_mostAlike) (LR := LRt_X12_mostAlike) (by decide) (Nat.le_of_ble_eq_true rfl) hTy ?_
  intro p e s m args below meth c Q ls hx hb hr hlocks hown hml hW hK hT hS hQ hl
  have hl : lv_has ls 6 [(0, .ref (base + a0)), (1, .int a1), (2, .int a2)] := hl
  obtain ⟨hz_sd, hk_sd, hn_sd⟩ := hTy.refn hz_a0 hk_a0 (show rtR 12 25 = (23, 226, 0) from rfl) k_sd
  have hn_sd := hn_sd (by decide)
  refine lv_iconst (v := 0) hx hb dX12_mostAlike_0 (by decide) ?_
  refine lv_istore_n (lv' := [(3, .int 0), (0, .ref (base + a0)), (1, .int a1), (2, .int a2)]) hx hb dX12_mostAlike_1 rfl hl (by decide) rfl (fun ls hl => ?_)
  have W2_2 : ∀ (n_2 : Nat) (x1 : Int32) (M2 : MT) (R3 : RT) (J4 : JT) (H : Heap) (locs : List Loc) (ls : Array Slot) (h_x1 : iv 0 50001 x1) (hm_2 : 50001 - x1.toInt < (n_2 : Int)) (hS : SB D cy base Z K N Lt_X12_mostAlike LRt_X12_mostAlike Ma Ra M2 R3 J4 s H locs) (hl : lv_has ls 6 [(3, .int x1), (0, .ref (base + a0)), (1, .int a1), (2, .int a2)]), W p l e (md_rm 6 0 0) s m args below meth c H locs 0 0 Q (F0 m 2 ls []) := by
    intro n_2
    induction n_2 with
    | zero =>
      intro x1 M2 R3 J4 H locs ls h_x1 hm_2 hS hl
      exfalso
      have := (h_a1).1; have := (h_a1).2; have := (h_a2).1; have := (h_a2).2; have := (h_e0).1; have := (h_e0).2; have := (h_x1).1; have := (h_x1).2; omega
    | succ n_2 ih_2 =>
      intro x1 M2 R3 J4 H locs ls h_x1 hm_2 hS hl
      have f5 := hS.2.2.1
      have g6 := hS.2.2.2
      refine lv_iload_n hx hb dX12_mostAlike_2 rfl (lv_at hl 0 rfl) ?_
      refine lv_ldc hx hb hown (hW _ w_6_39 rfl) dX12_mostAlike_3 ?_
      refine lv_icmp_ge (tgt := 21) hx hb dX12_mostAlike_5 (by decide) (fun c7 => ?_) (fun c7 => ?_)
      · have q8 : 50001 ≤ x1.toInt := ti_le c7
        have h9 : iv 50001 50001 x1 := iv_geL (y := 50001) h_x1 (iv_c (c := 50001) (n := 50001) (by decide)) q8 (by decide)
        refine lv_iconst (v := 0) hx hb dX12_mostAlike_21 (by decide) ?_
        refine lv_istore_n (lv' := [(3, .int 0), (0, .ref (base + a0)), (1, .int a1), (2, .int a2)]) hx hb dX12_mostAlike_22 rfl hl (by decide) rfl (fun ls hl => ?_)
        refine lv_iconst (v := 0) hx hb dX12_mostAlike_23 (by decide) ?_
        refine lv_istore (lv' := [(4, .int 0), (3, .int 0), (0, .ref (base + a0)), (1, .int a1), (2, .int a2)]) hx hb dX12_mostAlike_24 hl (by decide) rfl (fun ls hl => ?_)
        have W26_12 : ∀ (n_12 : Nat) (x10 : Int32) (x11 : Int32) (M12 : MT) (R13 : RT) (J14 : JT) (H : Heap) (locs : List Loc) (ls : Array Slot) (h_x10 : iv 0 2147483647 x10) (h_x11 : iv 0 2147483647 x11) (hm_12 : 2147483647 - x11.toInt < (n_12 : Int)) (hS : SB D cy base Z K N Lt_X12_mostAlike LRt_X12_mostAlike Ma Ra M12 R13 J14 s H locs) (hl : lv_has ls 6 [(3, .int x10), (4, .int x11), (0, .ref (base + a0)), (1, .int a1), (2, .int a2)]), W p l e (md_rm 6 0 0) s m args below meth c H locs 0 0 Q (F0 m 26 ls []) := by
          intro n_12
          induction n_12 with
          | zero =>
            intro x10 x11 M12 R13 J14 H locs ls h_x10 h_x11 hm_12 hS hl
            exfalso
            have := (h_a1).1; have := (h_a1).2; have := (h_a2).1; have := (h_a2).2; have := (h_e0).1; have := (h_e0).2; have := (h_x11).1; have := (h_x11).2; omega
          | succ n_12 ih_12 =>
            intro x10 x11 M12 R13 J14 H locs ls h_x10 h_x11 hm_12 hS hl
            have f15 := hS.2.2.1
            have g16 := hS.2.2.2
            refine lv_iload hx hb dX12_mostAlike_26 (lv_at hl 1 rfl) ?_
            refine lv_aload_n hx hb dX12_mostAlike_28 rfl (lv_at hl 2 rfl) ?_
            refine lv_iload_n hx hb dX12_mostAlike_29 rfl (lv_at hl 4 rfl) ?_
            refine tw_goi hS (md_runV (As := [.int a2]) (rest := [.int x11]) hx hb hml hown hW hK hT hS.1 (t_X12_waysOf l D cy tx base Z K N M12 R13 J14 hS.2.1 a0 hz_a0 hk_a0 a2 h_a2) s_X12_489 ⟨rfl, rfl, ⟨Nat.le_of_ble_eq_true rfl, Nat.le_of_ble_eq_true rfl⟩, ⟨Nat.le_of_ble_eq_true rfl, Nat.le_of_ble_eq_true rfl⟩⟩ hz_a0 hk_a0 (by decide) rfl rfl hl.1 rfl (Nat.le_of_ble_eq_true rfl) dX12_mostAlike_30) rfl rfl (fun x23 H locs M20 R21 J19 hS f17 g18 E22 => ?_)
            have eM20 := Fr.nil f17 rfl
            subst eM20
            have eR21 := Fr.nil g18 rfl
            subst eR21
            have h_x23 := E22
            clear E22
            refine lv_icmp_ge (tgt := 96) hx hb dX12_mostAlike_33 (by decide) (fun c24 => ?_) (fun c24 => ?_)
            · have q25 : x23.toInt ≤ x11.toInt := ti_le c24
              refine lv_iload_n hx hb dX12_mostAlike_96 rfl (lv_at hl 0 rfl) ?_
              exact tw_endi hx hb hr hlocks hK hT hS hQ (h_x10) dX12_mostAlike_97
            · have q26 : x11.toInt < x23.toInt := ti_nle c24
              have h27 : iv 0 2147483646 x11 := iv_ltL (y := x23) h_x11 h_x23 q26 (by decide)
              have h28 : iv 1 2147483647 x23 := iv_gtL (y := x11) h_x23 h_x11 q26 (by decide)
              refine lv_aload_n hx hb dX12_mostAlike_36 rfl (lv_at hl 2 rfl) ?_
              refine lv_iload hx hb dX12_mostAlike_37 (lv_at hl 1 rfl) ?_
              refine lv_iload_n hx hb dX12_mostAlike_39 rfl (lv_at hl 4 rfl) ?_
              refine tw_goi hS (md_runV (As := [.int x11, .int a2]) (rest := []) hx hb hml hown hW hK hT hS.1 (t_X12_holds l D cy tx base Z K N M12 R13 J19 hS.2.1 a0 hz_a0 hk_a0 x11 (iv_mono h27 (by decide) (by decide)) a2 h_a2) s_X12_492 ⟨rfl, rfl, ⟨Nat.le_of_ble_eq_true rfl, Nat.le_of_ble_eq_true rfl⟩, ⟨Nat.le_of_ble_eq_true rfl, Nat.le_of_ble_eq_true rfl⟩⟩ hz_a0 hk_a0 (by decide) rfl rfl hl.1 rfl (Nat.le_of_ble_eq_true rfl) dX12_mostAlike_40) rfl rfl (fun x35 H locs M32 R33 J31 hS f29 g30 E34 => ?_)
              have eR33 := Fr.nil g30 rfl
              subst eR33
              have h_x35 := E34
              clear E34
              refine lv_if_ne (tgt := 49) hx hb dX12_mostAlike_43 (by decide) (fun c36 => ?_) (fun c36 => ?_)
              · have q37 : ¬ x35.toInt = 0 := ti_ne c36
                have h38 : iv 1 1 x35 := ⟨by have := (h_x35).1; have := ((iv_c (c := 0) (n := 0) (by decide))).1; have := ((iv_c (c := 0) (n := 0) (by decide))).2; omega, by have := (h_x35).2; have := ((iv_c (c := 0) (n := 0) (by decide))).1; have := ((iv_c (c := 0) (n := 0) (by decide))).2; omega⟩
                refine lv_aload_n hx hb dX12_mostAlike_49 rfl (lv_at hl 2 rfl) ?_
                refine lv_iload_n hx hb dX12_mostAlike_50 rfl (lv_at hl 3 rfl) ?_
                have k39 : R13 a0 25 = some sd := (Fr.kp (k := 25) g16 hk_a0 rfl).trans k_sd
                have k40 : M32 sd (0 : Int32).toNatClampNeg = e0 := ((Fr.kp (k := (0 : Int32).toNatClampNeg) f29 hk_sd rfl).trans (Fr.kp (k := (0 : Int32).toNatClampNeg) f15 hk_sd rfl)).trans k_e0
                refine tw_goi hS (md_runV (As := [.int a1]) (rest := []) hx hb hml hown hW hK hT hS.1 (t_X12_voicesOf l D cy tx base Z K N M32 R13 J31 hS.2.1 a0 hz_a0 hk_a0 a1 (iv_mono h_a1 (by decide) (by decide)) sd k39 e0 k40 (iv_mono h_e0 (by decide) (by decide))) s_X12_380 ⟨rfl, rfl, ⟨Nat.le_of_ble_eq_true rfl, Nat.le_of_ble_eq_true rfl⟩, ⟨Nat.le_of_ble_eq_true rfl, Nat.le_of_ble_eq_true rfl⟩⟩ hz_a0 hk_a0 (by decide) rfl rfl hl.1 rfl (Nat.le_of_ble_eq_true rfl) dX12_mostAlike_51) rfl rfl (fun x47 H locs M44 R45 J43 hS f41 g42 E46 => ?_)
                have eM44 := Fr.nil f41 rfl
                subst eM44
                have eR45 := Fr.nil g42 rfl
                subst eR45
                obtain ⟨h_x47, p48⟩ := E46
                have h49 : iv 0 49995 x47 := ⟨(h_x47).1, by have := (h_e0).2; omega⟩
                refine lv_istore (lv' := [(5, .int x47), (3, .int x10), (4, .int x11), (0, .ref (base + a0)), (1, .int a1), (2, .int a2)]) hx hb dX12_mostAlike_54 hl (by decide) rfl (fun ls hl => ?_)
                refine lv_aload_n hx hb dX12_mostAlike_56 rfl (lv_at hl 3 rfl) ?_
                refine tw_getr hx hb hW hown hK hS f_X12_106_11 hz_a0 hk_a0 (t := 14) (n := 50001) rfl dX12_mostAlike_57 (fun b50 k51 hz_b50 hk_b50 hn_b50 => ?_)
                have hn_b50 := hn_b50 (by decide)
                refine lv_iload hx hb dX12_mostAlike_60 (lv_at hl 0 rfl) ?_
                refine lv_dup2_11 hx hb dX12_mostAlike_62 rfl rfl ?_
                refine tw_iald hx hb hK hS hz_b50 hk_b50 (Or.inl rfl) hn_b50 (lo := (-2147483648)) (hi := 2147483647) h49 ⟨by decide, by decide⟩ rg_u14 dX12_mostAlike_63 (fun x54 k53 h52 => ?_)
                refine lv_iconst (v := 1) hx hb dX12_mostAlike_64 (by decide) ?_
                refine lv_iadd hx hb dX12_mostAlike_65 ?_
                refine tw_top (fun x56 => ?_)
                have h55 := iv_any x56
                refine tw_iast hx hb hK hS hz_b50 hk_b50 (Or.inl rfl) hn_b50 h49 ⟨by decide, by decide⟩ h55 (rg_s14 ⟨by decide, by decide⟩) (jl := 0) (jh := 1999999) ⟨by decide, by decide⟩ rfl dX12_mostAlike_66 (fun H locs M59 hS k57 f58 => ?_)
                refine lv_aload_n hx hb dX12_mostAlike_67 rfl (lv_at hl 3 rfl) ?_
                refine tw_getrk hx hb hW hown hK hS f_X12_106_11 hz_a0 hk_a0 (b := b50) k51 dX12_mostAlike_68 ?_
                refine lv_iload hx hb dX12_mostAlike_71 (lv_at hl 0 rfl) ?_
                refine tw_ialk hx hb hK hS hz_b50 hk_b50 (Or.inl rfl) hn_b50 h49 ⟨by decide, by decide⟩ (v := x56) k57 dX12_mostAlike_73 ?_
                refine lv_iload_n hx hb dX12_mostAlike_74 rfl (lv_at hl 1 rfl) ?_
                refine lv_icmp_le (tgt := 88) hx hb dX12_mostAlike_75 (by decide) (fun c60 => ?_) (fun c60 => ?_)
                · have q61 : x56.toInt ≤ x10.toInt := ti_le c60
                  refine lv_iload_n hx hb dX12_mostAlike_88 rfl (lv_at hl 1 rfl) ?_
                  refine lv_istore_n (lv' := [(3, .int x10), (5, .int x47), (4, .int x11), (0, .ref (base + a0)), (1, .int a1), (2, .int a2)]) hx hb dX12_mostAlike_89 rfl hl (by decide) rfl (fun ls hl => ?_)
                  refine tw_iinc (lv' := fun x64 => [(4, .int x64), (3, .int x10), (5, .int x47), (0, .ref (base + a0)), (1, .int a1), (2, .int a2)]) (lo := 1) (hi := 2147483647) hx hb dX12_mostAlike_90 hl (k := 2) rfl h27 (by decide) ⟨by decide, by decide⟩ ⟨by decide, by decide⟩ (by decide) (fun _ => rfl) (fun x64 ls e63 h62 hl => ?_)
                  refine lv_goto (tgt := 26) hx hb dX12_mostAlike_93 (by decide) ?_
                  have hm65 : 2147483647 - x64.toInt < (n_12 : Int) := by
                    have := (h_a1).1; have := (h_a1).2; have := (h_a2).1; have := (h_a2).2; have := (h_e0).1; have := (h_e0).2; have := (h27).1; have := (h27).2; have := (h62).1; have := (h62).2; omega
                  exact ih_12 x10 x64 M59 R13 J43 H locs _ h_x10 (iv_mono h62 (by decide) (by decide)) hm65 hS (lv_sub hl [1, 0, 3, 4, 5] rfl)
                · have q66 : x10.toInt < x56.toInt := ti_nle c60
                  have h67 : iv 1 2147483647 x56 := iv_gtL (y := x10) h55 h_x10 q66 (by decide)
                  have h68 : iv 0 2147483646 x10 := iv_ltL (y := x56) h_x10 h55 q66 (by decide)
                  refine lv_aload_n hx hb dX12_mostAlike_78 rfl (lv_at hl 3 rfl) ?_
                  refine tw_getrk hx hb hW hown hK hS f_X12_106_11 hz_a0 hk_a0 (b := b50) k51 dX12_mostAlike_79 ?_
                  refine lv_iload hx hb dX12_mostAlike_82 (lv_at hl 0 rfl) ?_
                  refine tw_ialk hx hb hK hS hz_b50 hk_b50 (Or.inl rfl) hn_b50 h49 ⟨by decide, by decide⟩ (v := x56) k57 dX12_mostAlike_84 ?_
                  refine lv_goto (tgt := 89) hx hb dX12_mostAlike_85 (by decide) ?_
                  refine lv_istore_n (lv' := [(3, .int x56), (5, .int x47), (4, .int x11), (0, .ref (base + a0)), (1, .int a1), (2, .int a2)]) hx hb dX12_mostAlike_89 rfl hl (by decide) rfl (fun ls hl => ?_)
                  refine tw_iinc (lv' := fun x71 => [(4, .int x71), (3, .int x56), (5, .int x47), (0, .ref (base + a0)), (1, .int a1), (2, .int a2)]) (lo := 1) (hi := 2147483647) hx hb dX12_mostAlike_90 hl (k := 2) rfl h27 (by decide) ⟨by decide, by decide⟩ ⟨by decide, by decide⟩ (by decide) (fun _ => rfl) (fun x71 ls e70 h69 hl => ?_)
                  refine lv_goto (tgt := 26) hx hb dX12_mostAlike_93 (by decide) ?_
                  have hm72 : 2147483647 - x71.toInt < (n_12 : Int) := by
                    have := (h_a1).1; have := (h_a1).2; have := (h_a2).1; have := (h_a2).2; have := (h_e0).1; have := (h_e0).2; have := (h27).1; have := (h27).2; have := (h69).1; have := (h69).2; omega
                  exact ih_12 x56 x71 M59 R13 J43 H locs _ (iv_mono h67 (by decide) (by decide)) (iv_mono h69 (by decide) (by decide)) hm72 hS (lv_sub hl [1, 0, 3, 4, 5] rfl)
              · have q73 : x35.toInt = 0 := ti_eq c36
                have h74 : iv 0 0 x35 := ⟨by have := (h_x35).1; have := ((iv_c (c := 0) (n := 0) (by decide))).1; omega, by have := (h_x35).2; have := ((iv_c (c := 0) (n := 0) (by decide))).2; omega⟩
                refine lv_goto (tgt := 90) hx hb dX12_mostAlike_46 (by decide) ?_
                refine tw_iinc (lv' := fun x77 => [(4, .int x77), (3, .int x10), (0, .ref (base + a0)), (1, .int a1), (2, .int a2)]) (lo := 1) (hi := 2147483647) hx hb dX12_mostAlike_90 hl (k := 1) rfl h27 (by decide) ⟨by decide, by decide⟩ ⟨by decide, by decide⟩ (by decide) (fun _ => rfl) (fun x77 ls e76 h75 hl => ?_)
                refine lv_goto (tgt := 26) hx hb dX12_mostAlike_93 (by decide) ?_
                have hm78 : 2147483647 - x77.toInt < (n_12 : Int) := by
                  have := (h_a1).1; have := (h_a1).2; have := (h_a2).1; have := (h_a2).2; have := (h_e0).1; have := (h_e0).2; have := (h27).1; have := (h27).2; have := (h75).1; have := (h75).2; omega
                exact ih_12 x10 x77 M32 R13 J31 H locs _ h_x10 (iv_mono h75 (by decide) (by decide)) hm78 hS (lv_sub hl [1, 0, 2, 3, 4] rfl)
        have hm79 : 2147483647 - (0 : Int32).toInt < (((2147483648 : Nat) : Int) : Int) := by
          have := (h_a1).1; have := (h_a1).2; have := (h_a2).1; have := (h_a2).2; have := (h_e0).1; have := (h_e0).2; have : (0 : Int32).toInt = 0 := (by decide); omega
        exact W26_12 2147483648 0 0 M2 R3 J4 H locs _ (iv_mono (iv_c (c := 0) (n := 0) (by decide)) (by decide) (by decide)) (iv_mono (iv_c (c := 0) (n := 0) (by decide)) (by decide) (by decide)) hm79 hS (lv_sub hl [1, 0, 2, 3, 4] rfl)
      · have q80 : x1.toInt < 50001 := ti_nle c7
        have h81 : iv 0 50000 x1 := iv_ltL (y := 50001) h_x1 (iv_c (c := 50001) (n := 50001) (by decide)) q80 (by decide)
        refine lv_aload_n hx hb dX12_mostAlike_8 rfl (lv_at hl 1 rfl) ?_
        refine tw_getr hx hb hW hown hK hS f_X12_106_11 hz_a0 hk_a0 (t := 14) (n := 50001) rfl dX12_mostAlike_9 (fun b82 k83 hz_b82 hk_b82 hn_b82 => ?_)
        have hn_b82 := hn_b82 (by decide)
        refine lv_iload_n hx hb dX12_mostAlike_12 rfl (lv_at hl 0 rfl) ?_
        refine lv_iconst (v := 0) hx hb dX12_mostAlike_13 (by decide) ?_
        refine tw_iast hx hb hK hS hz_b82 hk_b82 (Or.inl rfl) hn_b82 h81 ⟨by decide, by decide⟩ (iv_c (c := 0) (n := 0) (by decide)) (rg_s14 ⟨by decide, by decide⟩) (jl := 0) (jh := 1999999) ⟨by decide, by decide⟩ rfl dX12_mostAlike_14 (fun H locs M86 hS k84 f85 => ?_)
        refine tw_iinc (lv' := fun x89 => [(3, .int x89), (0, .ref (base + a0)), (1, .int a1), (2, .int a2)]) (lo := 1) (hi := 50001) hx hb dX12_mostAlike_15 hl (k := 0) rfl h81 (by decide) ⟨by decide, by decide⟩ ⟨by decide, by decide⟩ (by decide) (fun _ => rfl) (fun x89 ls e88 h87 hl => ?_)
        refine lv_goto (tgt := 2) hx hb dX12_mostAlike_18 (by decide) ?_
        have hm90 : 50001 - x89.toInt < (n_2 : Int) := by
          have := (h_a1).1; have := (h_a1).2; have := (h_a2).1; have := (h_a2).2; have := (h_e0).1; have := (h_e0).2; have := (h81).1; have := (h81).2; have := (h87).1; have := (h87).2; omega
        exact ih_2 x89 M86 R3 J4 H locs _ (iv_mono h87 (by decide) (by decide)) hm90 hS hl
  have hm91 : 50001 - (0 : Int32).toInt < (((50002 : Nat) : Int) : Int) := by
    have := (h_a1).1; have := (h_a1).2; have := (h_a2).1; have := (h_a2).2; have := (h_e0).1; have := (h_e0).2; have : (0 : Int32).toInt = 0 := (by decide); omega
  exact W2_2 50002 0 Ma Ra Ja s.heap [] _ (iv_mono (iv_c (c := 0) (n := 0) (by decide)) (by decide) (by decide)) hm91 hS hl
def Lt_X12_passesEvenly : WL := [(12, 23, 24), (12, 28, 29), (12, 31, 33), (12, 35, 37), (30, 0, 2000000)]
def LRt_X12_passesEvenly : WL := []
set_option maxRecDepth 100000 in
set_option maxHeartbeats 4000000 in
theorem t_X12_passesEvenly (l : Launch) (D : va_G) (cy : Nat → ClassId) (tx : (Nat → Nat) × (Nat → Nat)) (base Z : Nat) (K N : Nat → Nat) (Ma : MT) (Ra : RT) (Ja : JT) (hTy : Ty Z K N Ma Ra) (a0 : Nat) (hz_a0 : a0 < Z) (hk_a0 : K a0 = 12) (a1 : Int32) (h_a1 : iv 0 9 a1) (co_a0 : Codes Ma Ra a0) : Met l yX12_passesEvenly [Cond.code yX12_passesEvenly cX12_passesEvenly 4 none] (md_rm 5 0 0) (va_Pc [.ref (base + a0), .int a1] (md_U D cy tx base Z K N Ma Ra Ja)) (mQv D cy tx base (fun u => TP Z K N Lt_X12_passesEvenly LRt_X12_passesEvenly Ma Ra u ∧ (True))) 0 0 (fun q => base ≤ q) := by
  refine tw_ofW (L := Lt_X12_passesEvenly) (LR := LRt_X12_passesEvenly) (by decide) (Nat.le_of_ble_eq_true rfl) hTy ?_
  intro p e s m args below meth c Q ls hx hb hr hlocks hown hml hW hK hT hS hQ hl
  have hl : lv_has ls 4 [(0, .ref (base + a0)), (1, .int a1)] := hl
  refine lv_iconst (v := 0) hx hb dX12_passesEvenly_0 (by decide) ?_
  refine lv_istore_n (lv' := [(2, .int 0), (0, .ref (base + a0)), (1, .int a1)]) hx hb dX12_passesEvenly_1 rfl hl (by decide) rfl (fun ls hl => ?_)
  have W2_2 : ∀ (n_2 : Nat) (x1 : Int32) (M2 : MT) (R3 : RT) (J4 : JT) (H : Heap) (locs : List Loc) (ls : Array Slot) (h_x1 : iv 0 8 x1) (hm_2 : 8 - x1.toInt < (n_2 : Int)) (hS : SB D cy base Z K N Lt_X12_passesEvenly LRt_X12_passesEvenly Ma Ra M2 R3 J4 s H locs) (hl : lv_has ls 4 [(2, .int x1), (0, .ref (base + a0)), (1, .int a1)]), W p l e (md_rm 5 0 0) s m args below meth c H locs 0 0 Q (F0 m 2 ls []) := by
    intro n_2
    induction n_2 with
    | zero =>
      intro x1 M2 R3 J4 H locs ls h_x1 hm_2 hS hl
      exfalso
      have := (h_a1).1; have := (h_a1).2; have := (h_x1).1; have := (h_x1).2; omega
    | succ n_2 ih_2 =>
      intro x1 M2 R3 J4 H locs ls h_x1 hm_2 hS hl
      have f5 := hS.2.2.1
      have g6 := hS.2.2.2
      refine lv_iload_n hx hb dX12_passesEvenly_2 rfl (lv_at hl 0 rfl) ?_
      refine lv_aload_n hx hb dX12_passesEvenly_3 rfl (lv_at hl 1 rfl) ?_
      refine tw_geti hx hb hW hown hK hS f_X12_351_11 hz_a0 hk_a0 (lo := 0) (hi := 8) rfl dX12_passesEvenly_4 (fun x9 k8 h7 => ?_)
      refine lv_icmp_ge (tgt := 73) hx hb dX12_passesEvenly_7 (by decide) (fun c10 => ?_) (fun c10 => ?_)
      · have q11 : x9.toInt ≤ x1.toInt := ti_le c10
        exact tw_endv hx hb hr hlocks hK hT hS hQ (trivial) dX12_passesEvenly_73
      · have q12 : x1.toInt < x9.toInt := ti_nle c10
        have h13 : iv 0 7 x1 := iv_ltL (y := x9) h_x1 h7 q12 (by decide)
        have h14 : iv 1 8 x9 := iv_gtL (y := x1) h7 h_x1 q12 (by decide)
        refine lv_iconst (v := 0) hx hb dX12_passesEvenly_10 (by decide) ?_
        refine lv_istore_n (lv' := [(3, .int 0), (2, .int x1), (0, .ref (base + a0)), (1, .int a1)]) hx hb dX12_passesEvenly_11 rfl hl (by decide) rfl (fun ls hl => ?_)
        have W12_16 : ∀ (n_16 : Nat) (x15 : Int32) (M16 : MT) (R17 : RT) (J18 : JT) (H : Heap) (locs : List Loc) (ls : Array Slot) (h_x15 : iv 0 10 x15) (hm_16 : 10 - x15.toInt < (n_16 : Int)) (hS : SB D cy base Z K N Lt_X12_passesEvenly LRt_X12_passesEvenly Ma Ra M16 R17 J18 s H locs) (hl : lv_has ls 4 [(3, .int x15), (2, .int x1), (0, .ref (base + a0)), (1, .int a1)]), W p l e (md_rm 5 0 0) s m args below meth c H locs 0 0 Q (F0 m 12 ls []) := by
          intro n_16
          induction n_16 with
          | zero =>
            intro x15 M16 R17 J18 H locs ls h_x15 hm_16 hS hl
            exfalso
            have := (h_a1).1; have := (h_a1).2; have := (h_x15).1; have := (h_x15).2; omega
          | succ n_16 ih_16 =>
            intro x15 M16 R17 J18 H locs ls h_x15 hm_16 hS hl
            have f19 := hS.2.2.1
            have g20 := hS.2.2.2
            refine lv_iload_n hx hb dX12_passesEvenly_12 rfl (lv_at hl 0 rfl) ?_
            refine lv_bipush (v := 10) hx hb dX12_passesEvenly_13 (by decide) ?_
            refine lv_icmp_ge (tgt := 31) hx hb dX12_passesEvenly_15 (by decide) (fun c21 => ?_) (fun c21 => ?_)
            · have q22 : 10 ≤ x15.toInt := ti_le c21
              have h23 : iv 10 10 x15 := iv_geL (y := 10) h_x15 (iv_c (c := 10) (n := 10) (by decide)) q22 (by decide)
              refine lv_aload_n hx hb dX12_passesEvenly_31 rfl (lv_at hl 2 rfl) ?_
              refine lv_aload_n hx hb dX12_passesEvenly_32 rfl (lv_at hl 2 rfl) ?_
              refine tw_getr hx hb hW hown hK hS f_X12_54_11 hz_a0 hk_a0 (t := 31) (n := 8) rfl dX12_passesEvenly_33 (fun b24 k25 hz_b24 hk_b24 hn_b24 => ?_)
              have hn_b24 := hn_b24 (by decide)
              refine lv_iload_n hx hb dX12_passesEvenly_36 rfl (lv_at hl 1 rfl) ?_
              refine tw_iald hx hb hK hS hz_b24 hk_b24 (Or.inr (by decide)) hn_b24 (lo := 0) (hi := 11) h13 ⟨by decide, by decide⟩ rg_u31 dX12_passesEvenly_37 (fun x28 k27 h26 => ?_)
              refine lv_iload_n hx hb dX12_passesEvenly_38 rfl (lv_at hl 1 rfl) ?_
              refine tw_gov hS (md_runV (As := [.int x28, .int x1]) (rest := []) hx hb hml hown hW hK hT hS.1 (t_X12_asks l D cy tx base Z K N M16 R17 J18 hS.2.1 a0 hz_a0 hk_a0 x28 h26 x1 (iv_mono h13 (by decide) (by decide)) (Codes.fr co_a0 hTy hz_a0 hk_a0 hS.2.2.1 hS.2.2.2 rfl)) s_X12_396 ⟨rfl, rfl, ⟨Nat.le_of_ble_eq_true rfl, Nat.le_of_ble_eq_true rfl⟩, ⟨Nat.le_of_ble_eq_true rfl, Nat.le_of_ble_eq_true rfl⟩⟩ hz_a0 hk_a0 (by decide) rfl rfl hl.1 rfl (Nat.le_of_ble_eq_true rfl) dX12_passesEvenly_39) rfl rfl (fun H locs M32 R33 J31 hS f29 g30 E34 => ?_)
              have eR33 := Fr.nil g30 rfl
              subst eR33
              refine lv_aload_n hx hb dX12_passesEvenly_42 rfl (lv_at hl 2 rfl) ?_
              refine lv_iload_n hx hb dX12_passesEvenly_43 rfl (lv_at hl 3 rfl) ?_
              refine lv_aload_n hx hb dX12_passesEvenly_44 rfl (lv_at hl 2 rfl) ?_
              refine tw_getrk hx hb hW hown hK hS f_X12_54_11 hz_a0 hk_a0 (b := b24) k25 dX12_passesEvenly_45 ?_
              refine lv_iload_n hx hb dX12_passesEvenly_48 rfl (lv_at hl 1 rfl) ?_
              have k35 : M32 b24 x1.toNatClampNeg = x28 := (Fr.kpa f29 hk_b24 rfl x1.toNatClampNeg).trans k27
              refine tw_ialk hx hb hK hS hz_b24 hk_b24 (Or.inr (by decide)) hn_b24 h13 ⟨by decide, by decide⟩ (v := x28) k35 dX12_passesEvenly_49 ?_
              refine lv_aload_n hx hb dX12_passesEvenly_50 rfl (lv_at hl 2 rfl) ?_
              refine tw_goi hS (md_runV (As := []) (rest := [.int x28, .int a1, .ref (base + a0)]) hx hb hml hown hW hK hT hS.1 (t_X12_result l D cy tx base Z K N M32 R17 J31 hS.2.1 a0 hz_a0 hk_a0) s_X12_383 ⟨rfl, rfl, ⟨Nat.le_of_ble_eq_true rfl, Nat.le_of_ble_eq_true rfl⟩, ⟨Nat.le_of_ble_eq_true rfl, Nat.le_of_ble_eq_true rfl⟩⟩ hz_a0 hk_a0 (by decide) rfl rfl hl.1 rfl (Nat.le_of_ble_eq_true rfl) dX12_passesEvenly_51) rfl rfl (fun x42 H locs M39 R40 J38 hS f36 g37 E41 => ?_)
              have eM39 := Fr.nil f36 rfl
              subst eM39
              have eR40 := Fr.nil g37 rfl
              subst eR40
              have h_x42 := E41
              clear E41
              refine tw_gov hS (md_runV (As := [.int a1, .int x28, .int x42]) (rest := []) hx hb hml hown hW hK hT hS.1 (t_X12_counts l D cy tx base Z K N M32 R17 J38 hS.2.1 a0 hz_a0 hk_a0 a1 h_a1 x28 h26 x42 h_x42) s_X12_413 ⟨rfl, rfl, ⟨Nat.le_of_ble_eq_true rfl, Nat.le_of_ble_eq_true rfl⟩, ⟨Nat.le_of_ble_eq_true rfl, Nat.le_of_ble_eq_true rfl⟩⟩ hz_a0 hk_a0 (by decide) rfl rfl hl.1 rfl (Nat.le_of_ble_eq_true rfl) dX12_passesEvenly_54) rfl rfl (fun H locs M46 R47 J45 hS f43 g44 E48 => ?_)
              have eR47 := Fr.nil g44 rfl
              subst eR47
              refine lv_aload_n hx hb dX12_passesEvenly_57 rfl (lv_at hl 2 rfl) ?_
              refine lv_dup hx hb dX12_passesEvenly_58 rfl ?_
              refine tw_geti hx hb hW hown hK hS f_X12_348_11 hz_a0 hk_a0 (lo := (-2147483648)) (hi := 2147483647) rfl dX12_passesEvenly_59 (fun x51 k50 h49 => ?_)
              refine lv_iconst (v := 1) hx hb dX12_passesEvenly_62 (by decide) ?_
              refine lv_iadd hx hb dX12_passesEvenly_63 ?_
              refine tw_top (fun x53 => ?_)
              have h52 := iv_any x53
              refine tw_puti hx hb hW hown hK hS f_X12_348_11 hz_a0 hk_a0 rfl rfl (lo := (-2147483648)) (hi := 2147483647) rfl h52 rfl dX12_passesEvenly_64 (fun H locs M56 hS k54 f55 => ?_)
              refine tw_iinc (lv' := fun x59 => [(2, .int x59), (3, .int x15), (0, .ref (base + a0)), (1, .int a1)]) (lo := 1) (hi := 8) hx hb dX12_passesEvenly_67 hl (k := 1) rfl h13 (by decide) ⟨by decide, by decide⟩ ⟨by decide, by decide⟩ (by decide) (fun _ => rfl) (fun x59 ls e58 h57 hl => ?_)
              refine lv_goto (tgt := 2) hx hb dX12_passesEvenly_70 (by decide) ?_
              have hm60 : 8 - x59.toInt < (n_2 : Int) := by
                have := (h_a1).1; have := (h_a1).2; have := (h13).1; have := (h13).2; have := (h57).1; have := (h57).2; omega
              exact ih_2 x59 M56 R17 J45 H locs _ (iv_mono h57 (by decide) (by decide)) hm60 hS (lv_sub hl [0, 2, 3] rfl)
            · have q61 : x15.toInt < 10 := ti_nle c21
              have h62 : iv 0 9 x15 := iv_ltL (y := 10) h_x15 (iv_c (c := 10) (n := 10) (by decide)) q61 (by decide)
              refine lv_aload_n hx hb dX12_passesEvenly_18 rfl (lv_at hl 2 rfl) ?_
              refine tw_getr hx hb hW hown hK hS f_X12_51_11 hz_a0 hk_a0 (t := 30) (n := 10) rfl dX12_passesEvenly_19 (fun b63 k64 hz_b63 hk_b63 hn_b63 => ?_)
              have hn_b63 := hn_b63 (by decide)
              refine lv_iload_n hx hb dX12_passesEvenly_22 rfl (lv_at hl 0 rfl) ?_
              refine lv_iconst (v := 1) hx hb dX12_passesEvenly_23 (by decide) ?_
              refine tw_iast hx hb hK hS hz_b63 hk_b63 (Or.inr (by decide)) hn_b63 h62 ⟨by decide, by decide⟩ (iv_c (c := 1) (n := 1) (by decide)) (rg_s30 ⟨by decide, by decide⟩) (jl := 0) (jh := 1999999) ⟨by decide, by decide⟩ rfl dX12_passesEvenly_24 (fun H locs M67 hS k65 f66 => ?_)
              refine tw_iinc (lv' := fun x70 => [(3, .int x70), (2, .int x1), (0, .ref (base + a0)), (1, .int a1)]) (lo := 1) (hi := 10) hx hb dX12_passesEvenly_25 hl (k := 0) rfl h62 (by decide) ⟨by decide, by decide⟩ ⟨by decide, by decide⟩ (by decide) (fun _ => rfl) (fun x70 ls e69 h68 hl => ?_)
              refine lv_goto (tgt := 12) hx hb dX12_passesEvenly_28 (by decide) ?_
              have hm71 : 10 - x70.toInt < (n_16 : Int) := by
                have := (h_a1).1; have := (h_a1).2; have := (h62).1; have := (h62).2; have := (h68).1; have := (h68).2; omega
              exact ih_16 x70 M67 R17 J18 H locs _ (iv_mono h68 (by decide) (by decide)) hm71 hS hl
        have hm72 : 10 - (0 : Int32).toInt < (((11 : Nat) : Int) : Int) := by
          have := (h_a1).1; have := (h_a1).2; have : (0 : Int32).toInt = 0 := (by decide); omega
        exact W12_16 11 0 M2 R3 J4 H locs _ (iv_mono (iv_c (c := 0) (n := 0) (by decide)) (by decide) (by decide)) hm72 hS hl
  have hm73 : 8 - (0 : Int32).toInt < (((9 : Nat) : Int) : Int) := by
    have := (h_a1).1; have := (h_a1).2; have : (0 : Int32).toInt = 0 := (by decide); omega
  exact W2_2 9 0 Ma Ra Ja s.heap [] _ (iv_mono (iv_c (c := 0) (n := 0) (by decide)) (by decide) (by decide)) hm73 hS hl
def Lt_X12_order : WL := [(14, 0, 2000000), (23, 4, 5), (23, 170, 178)]
def LRt_X12_order : WL := []
set_option maxRecDepth 100000 in
set_option maxHeartbeats 4000000 in
theorem t_X12_order (l : Launch) (D : va_G) (cy : Nat → ClassId) (tx : (Nat → Nat) × (Nat → Nat)) (base Z : Nat) (K N : Nat → Nat) (Ma : MT) (Ra : RT) (Ja : JT) (hTy : Ty Z K N Ma Ra) (a0 : Nat) (hz_a0 : a0 < Z) (hk_a0 : K a0 = 12) (a1 : Int32) (h_a1 : iv (-2147483648) 2147483647 a1) : Met l yX12_order [Cond.code yX12_order cX12_order 2 (some .int)] (md_rm 2 0 0) (va_Pc [.ref (base + a0), .int a1] (md_U D cy tx base Z K N Ma Ra Ja)) (mQi D cy tx base (fun r u => TP Z K N Lt_X12_order LRt_X12_order Ma Ra u ∧ (iv (-2) 8 r))) 0 0 (fun q => base ≤ q) := by
  refine tw_ofW (L := Lt_X12_order) (LR := LRt_X12_order) (by decide) (Nat.le_of_ble_eq_true rfl) hTy ?_
  intro p e s m args below meth c Q ls hx hb hr hlocks hown hml hW hK hT hS hQ hl
  have hl : lv_has ls 2 [(0, .ref (base + a0)), (1, .int a1)] := hl
  refine lv_iload_n hx hb dX12_order_0 rfl (lv_at hl 1 rfl) ?_
  refine lv_iconst (v := (-1)) hx hb dX12_order_1 (by decide) ?_
  refine lv_icmp_ne (tgt := 14) hx hb dX12_order_2 (by decide) (fun c1 => ?_) (fun c1 => ?_)
  · have q2 : ¬ a1.toInt = (-1) := ti_ne c1
    refine lv_aload_n hx hb dX12_order_14 rfl (lv_at hl 0 rfl) ?_
    refine lv_iload_n hx hb dX12_order_15 rfl (lv_at hl 1 rfl) ?_
    refine tw_goi hS (md_runV (As := [.int a1]) (rest := []) hx hb hml hown hW hK hT hS.1 (t_X12_isPoint l D cy tx base Z K N Ma Ra Ja hS.2.1 a0 hz_a0 hk_a0 a1 h_a1) s_X12_327 ⟨rfl, rfl, ⟨Nat.le_of_ble_eq_true rfl, Nat.le_of_ble_eq_true rfl⟩, ⟨Nat.le_of_ble_eq_true rfl, Nat.le_of_ble_eq_true rfl⟩⟩ hz_a0 hk_a0 (by decide) rfl rfl hl.1 rfl (Nat.le_of_ble_eq_true rfl) dX12_order_16) rfl rfl (fun x9 H locs M6 R7 J5 hS f3 g4 E8 => ?_)
    have eM6 := Fr.nil f3 rfl
    subst eM6
    have eR7 := Fr.nil g4 rfl
    subst eR7
    obtain ⟨h_x9, p10⟩ := E8
    refine lv_if_ne (tgt := 28) hx hb dX12_order_19 (by decide) (fun c11 => ?_) (fun c11 => ?_)
    · have q12 : ¬ x9.toInt = 0 := ti_ne c11
      have h13 : iv 1 1 x9 := ⟨by have := (h_x9).1; have := ((iv_c (c := 0) (n := 0) (by decide))).1; have := ((iv_c (c := 0) (n := 0) (by decide))).2; omega, by have := (h_x9).2; have := ((iv_c (c := 0) (n := 0) (by decide))).1; have := ((iv_c (c := 0) (n := 0) (by decide))).2; omega⟩
      have h14 : iv 0 11 a1 := ⟨by have := (p10 c11).1; have := (h_a1).1; omega, by have := (p10 c11).2; have := (h_a1).2; omega⟩
      refine lv_aload_n hx hb dX12_order_28 rfl (lv_at hl 0 rfl) ?_
      refine tw_getr hx hb hW hown hK hS f_X12_45_11 hz_a0 hk_a0 (t := 23) (n := 226) rfl dX12_order_29 (fun b15 k16 hz_b15 hk_b15 hn_b15 => ?_)
      have hn_b15 := hn_b15 (by decide)
      refine lv_iconst (v := 4) hx hb dX12_order_32 (by decide) ?_
      refine tw_iald hx hb hK hS hz_b15 hk_b15 (Or.inr (by decide)) hn_b15 (lo := 0) (hi := 8) (iv_c (c := 4) (n := 4) (by decide)) ⟨by decide, by decide⟩ (rg_c (k0 := 4) rfl rfl rfl) dX12_order_33 (fun x19 k18 h17 => ?_)
      refine lv_bipush (v := 8) hx hb dX12_order_34 (by decide) ?_
      refine lv_icmp_ne (tgt := 45) hx hb dX12_order_36 (by decide) (fun c20 => ?_) (fun c20 => ?_)
      · have q21 : ¬ x19.toInt = 8 := ti_ne c20
        have h22 : iv 0 7 x19 := ⟨by have := (h17).1; have := ((iv_c (c := 8) (n := 8) (by decide))).1; have := ((iv_c (c := 8) (n := 8) (by decide))).2; omega, by have := (h17).2; have := ((iv_c (c := 8) (n := 8) (by decide))).1; have := ((iv_c (c := 8) (n := 8) (by decide))).2; omega⟩
        refine lv_aload_n hx hb dX12_order_45 rfl (lv_at hl 0 rfl) ?_
        refine tw_getrk hx hb hW hown hK hS f_X12_45_11 hz_a0 hk_a0 (b := b15) k16 dX12_order_46 ?_
        refine lv_sipush (v := 170) hx hb dX12_order_49 (by decide) ?_
        refine lv_aload_n hx hb dX12_order_52 rfl (lv_at hl 0 rfl) ?_
        refine tw_getrk hx hb hW hown hK hS f_X12_45_11 hz_a0 hk_a0 (b := b15) k16 dX12_order_53 ?_
        refine lv_iconst (v := 4) hx hb dX12_order_56 (by decide) ?_
        refine tw_ialk hx hb hK hS hz_b15 hk_b15 (Or.inr (by decide)) hn_b15 (iv_c (c := 4) (n := 4) (by decide)) ⟨by decide, by decide⟩ (v := x19) k18 dX12_order_57 ?_
        refine tw_iadd (lo := 170) (hi := 177) hx hb (iv_c (c := 170) (n := 170) (by decide)) h22 ⟨by decide, by decide⟩ ⟨by decide, by decide⟩ dX12_order_58 (fun x25 e24 h23 => ?_)
        have e24 : x25.toInt = 170 + x19.toInt := e24
        refine lv_iload_n hx hb dX12_order_59 rfl (lv_at hl 1 rfl) ?_
        refine tw_iast hx hb hK hS hz_b15 hk_b15 (Or.inr (by decide)) hn_b15 h23 ⟨by decide, by decide⟩ h14 (rg_sos ⟨by decide, by decide⟩ ⟨by decide, by decide⟩) (jl := 170) (jh := 177) ⟨by decide, by decide⟩ rfl dX12_order_60 (fun H locs M28 hS k26 f27 => ?_)
        refine lv_aload_n hx hb dX12_order_61 rfl (lv_at hl 0 rfl) ?_
        refine tw_getrk hx hb hW hown hK hS f_X12_45_11 hz_a0 hk_a0 (b := b15) k16 dX12_order_62 ?_
        refine lv_iconst (v := 4) hx hb dX12_order_65 (by decide) ?_
        refine lv_dup2_11 hx hb dX12_order_66 rfl rfl ?_
        have k29 : M28 b15 (4 : Int32).toNatClampNeg = x19 := (Fr.kp (k := (4 : Int32).toNatClampNeg) f27 hk_b15 rfl).trans k18
        refine tw_ialk hx hb hK hS hz_b15 hk_b15 (Or.inr (by decide)) hn_b15 (iv_c (c := 4) (n := 4) (by decide)) ⟨by decide, by decide⟩ (v := x19) k29 dX12_order_67 ?_
        refine lv_iconst (v := 1) hx hb dX12_order_68 (by decide) ?_
        refine tw_iadd (lo := 1) (hi := 8) hx hb h22 (iv_c (c := 1) (n := 1) (by decide)) ⟨by decide, by decide⟩ ⟨by decide, by decide⟩ dX12_order_69 (fun x32 e31 h30 => ?_)
        have e31 : x32.toInt = x19.toInt + 1 := e31
        refine tw_iast hx hb hK hS hz_b15 hk_b15 (Or.inr (by decide)) hn_b15 (iv_c (c := 4) (n := 4) (by decide)) ⟨by decide, by decide⟩ h30 (rg_cs (k0 := 4) rfl rfl rfl ⟨by decide, by decide⟩) (jl := 4) (jh := 4) ⟨by decide, by decide⟩ rfl dX12_order_70 (fun H locs M35 hS k33 f34 => ?_)
        refine lv_aload_n hx hb dX12_order_71 rfl (lv_at hl 0 rfl) ?_
        refine tw_getrk hx hb hW hown hK hS f_X12_45_11 hz_a0 hk_a0 (b := b15) k16 dX12_order_72 ?_
        refine lv_iconst (v := 4) hx hb dX12_order_75 (by decide) ?_
        refine tw_ialk hx hb hK hS hz_b15 hk_b15 (Or.inr (by decide)) hn_b15 (iv_c (c := 4) (n := 4) (by decide)) ⟨by decide, by decide⟩ (v := x32) k33 dX12_order_76 ?_
        exact tw_endi hx hb hr hlocks hK hT hS hQ ((iv_mono h30 (by decide) (by decide))) dX12_order_77
      · have q36 : x19.toInt = 8 := ti_eq c20
        have h37 : iv 8 8 x19 := ⟨by have := (h17).1; have := ((iv_c (c := 8) (n := 8) (by decide))).1; omega, by have := (h17).2; have := ((iv_c (c := 8) (n := 8) (by decide))).2; omega⟩
        refine lv_aload_n hx hb dX12_order_39 rfl (lv_at hl 0 rfl) ?_
        refine lv_iconst (v := 1) hx hb dX12_order_40 (by decide) ?_
        refine tw_goi hS (md_runV (As := [.int 1]) (rest := []) hx hb hml hown hW hK hT hS.1 (t_X12_refuses l D cy tx base Z K N Ma Ra J5 hS.2.1 a0 hz_a0 hk_a0 1 (iv_mono (iv_c (c := 1) (n := 1) (by decide)) (by decide) (by decide))) s_X12_338 ⟨rfl, rfl, ⟨Nat.le_of_ble_eq_true rfl, Nat.le_of_ble_eq_true rfl⟩, ⟨Nat.le_of_ble_eq_true rfl, Nat.le_of_ble_eq_true rfl⟩⟩ hz_a0 hk_a0 (by decide) rfl rfl hl.1 rfl (Nat.le_of_ble_eq_true rfl) dX12_order_41) rfl rfl (fun x44 H locs M41 R42 J40 hS f38 g39 E43 => ?_)
        have eR42 := Fr.nil g39 rfl
        subst eR42
        have h_x44 := E43
        clear E43
        exact tw_endi hx hb hr hlocks hK hT hS hQ ((iv_mono h_x44 (by decide) (by decide))) dX12_order_44
    · have q45 : x9.toInt = 0 := ti_eq c11
      have h46 : iv 0 0 x9 := ⟨by have := (h_x9).1; have := ((iv_c (c := 0) (n := 0) (by decide))).1; omega, by have := (h_x9).2; have := ((iv_c (c := 0) (n := 0) (by decide))).2; omega⟩
      refine lv_aload_n hx hb dX12_order_22 rfl (lv_at hl 0 rfl) ?_
      refine lv_iconst (v := 0) hx hb dX12_order_23 (by decide) ?_
      refine tw_goi hS (md_runV (As := [.int 0]) (rest := []) hx hb hml hown hW hK hT hS.1 (t_X12_refuses l D cy tx base Z K N Ma Ra J5 hS.2.1 a0 hz_a0 hk_a0 0 (iv_mono (iv_c (c := 0) (n := 0) (by decide)) (by decide) (by decide))) s_X12_338 ⟨rfl, rfl, ⟨Nat.le_of_ble_eq_true rfl, Nat.le_of_ble_eq_true rfl⟩, ⟨Nat.le_of_ble_eq_true rfl, Nat.le_of_ble_eq_true rfl⟩⟩ hz_a0 hk_a0 (by decide) rfl rfl hl.1 rfl (Nat.le_of_ble_eq_true rfl) dX12_order_24) rfl rfl (fun x53 H locs M50 R51 J49 hS f47 g48 E52 => ?_)
      have eR51 := Fr.nil g48 rfl
      subst eR51
      have h_x53 := E52
      clear E52
      exact tw_endi hx hb hr hlocks hK hT hS hQ ((iv_mono h_x53 (by decide) (by decide))) dX12_order_27
  · have q54 : a1.toInt = (-1) := ti_eq c1
    have h55 : iv (-1) (-1) a1 := ⟨by have := (h_a1).1; have := ((iv_c (c := (-1)) (n := (-1)) (by decide))).1; omega, by have := (h_a1).2; have := ((iv_c (c := (-1)) (n := (-1)) (by decide))).2; omega⟩
    refine lv_aload_n hx hb dX12_order_5 rfl (lv_at hl 0 rfl) ?_
    refine tw_getr hx hb hW hown hK hS f_X12_45_11 hz_a0 hk_a0 (t := 23) (n := 226) rfl dX12_order_6 (fun b56 k57 hz_b56 hk_b56 hn_b56 => ?_)
    have hn_b56 := hn_b56 (by decide)
    refine lv_iconst (v := 4) hx hb dX12_order_9 (by decide) ?_
    refine lv_iconst (v := 0) hx hb dX12_order_10 (by decide) ?_
    refine tw_iast hx hb hK hS hz_b56 hk_b56 (Or.inr (by decide)) hn_b56 (iv_c (c := 4) (n := 4) (by decide)) ⟨by decide, by decide⟩ (iv_c (c := 0) (n := 0) (by decide)) (rg_0 ⟨rfl, rfl⟩) (jl := 4) (jh := 4) ⟨by decide, by decide⟩ rfl dX12_order_11 (fun H locs M60 hS k58 f59 => ?_)
    refine lv_iconst (v := 0) hx hb dX12_order_12 (by decide) ?_
    exact tw_endi hx hb hr hlocks hK hT hS hQ ((iv_mono (iv_c (c := 0) (n := 0) (by decide)) (by decide) (by decide))) dX12_order_13
def Lt_X12_ordered : WL := []
def LRt_X12_ordered : WL := []
set_option maxRecDepth 100000 in
set_option maxHeartbeats 4000000 in
theorem t_X12_ordered (l : Launch) (D : va_G) (cy : Nat → ClassId) (tx : (Nat → Nat) × (Nat → Nat)) (base Z : Nat) (K N : Nat → Nat) (Ma : MT) (Ra : RT) (Ja : JT) (hTy : Ty Z K N Ma Ra) (a0 : Nat) (hz_a0 : a0 < Z) (hk_a0 : K a0 = 12) (a1 : Int32) (h_a1 : iv (-2147483648) 2147483647 a1) : Met l yX12_ordered [Cond.code yX12_ordered cX12_ordered 2 (some .int)] (md_rm 1 0 0) (va_Pc [.ref (base + a0), .int a1] (md_U D cy tx base Z K N Ma Ra Ja)) (mQi D cy tx base (fun r u => TP Z K N Lt_X12_ordered LRt_X12_ordered Ma Ra u ∧ (iv (-1) 11 r))) 0 0 (fun q => base ≤ q) := by
  refine tw_ofW (L := Lt_X12_ordered) (LR := LRt_X12_ordered) (by decide) (Nat.le_of_ble_eq_true rfl) hTy ?_
  intro p e s m args below meth c Q ls hx hb hr hlocks hown hml hW hK hT hS hQ hl
  have hl : lv_has ls 2 [(0, .ref (base + a0)), (1, .int a1)] := hl
  refine lv_iload_n hx hb dX12_ordered_0 rfl (lv_at hl 1 rfl) ?_
  refine lv_if_lt (tgt := 27) hx hb dX12_ordered_1 (by decide) (fun c1 => ?_) (fun c1 => ?_)
  · have q2 : a1.toInt < 0 := ti_lt c1
    have h3 : iv (-2147483648) (-1) a1 := iv_ltL (y := 0) h_a1 (iv_c (c := 0) (n := 0) (by decide)) q2 (by decide)
    refine lv_iconst (v := (-1)) hx hb dX12_ordered_27 (by decide) ?_
    exact tw_endi hx hb hr hlocks hK hT hS hQ ((iv_mono (iv_c (c := (-1)) (n := (-1)) (by decide)) (by decide) (by decide))) dX12_ordered_28
  · have q4 : 0 ≤ a1.toInt := ti_nlt c1
    have h5 : iv 0 2147483647 a1 := iv_geL (y := 0) h_a1 (iv_c (c := 0) (n := 0) (by decide)) q4 (by decide)
    refine lv_iload_n hx hb dX12_ordered_4 rfl (lv_at hl 1 rfl) ?_
    refine lv_aload_n hx hb dX12_ordered_5 rfl (lv_at hl 0 rfl) ?_
    refine tw_getr hx hb hW hown hK hS f_X12_45_11 hz_a0 hk_a0 (t := 23) (n := 226) rfl dX12_ordered_6 (fun b6 k7 hz_b6 hk_b6 hn_b6 => ?_)
    have hn_b6 := hn_b6 (by decide)
    refine lv_iconst (v := 4) hx hb dX12_ordered_9 (by decide) ?_
    refine tw_iald hx hb hK hS hz_b6 hk_b6 (Or.inr (by decide)) hn_b6 (lo := 0) (hi := 8) (iv_c (c := 4) (n := 4) (by decide)) ⟨by decide, by decide⟩ (rg_c (k0 := 4) rfl rfl rfl) dX12_ordered_10 (fun x10 k9 h8 => ?_)
    refine lv_icmp_ge (tgt := 27) hx hb dX12_ordered_11 (by decide) (fun c11 => ?_) (fun c11 => ?_)
    · have q12 : x10.toInt ≤ a1.toInt := ti_le c11
      refine lv_iconst (v := (-1)) hx hb dX12_ordered_27 (by decide) ?_
      exact tw_endi hx hb hr hlocks hK hT hS hQ ((iv_mono (iv_c (c := (-1)) (n := (-1)) (by decide)) (by decide) (by decide))) dX12_ordered_28
    · have q13 : a1.toInt < x10.toInt := ti_nle c11
      have h14 : iv 0 7 a1 := iv_ltL (y := x10) h5 h8 q13 (by decide)
      have h15 : iv 1 8 x10 := iv_gtL (y := a1) h8 h5 q13 (by decide)
      refine lv_aload_n hx hb dX12_ordered_14 rfl (lv_at hl 0 rfl) ?_
      refine tw_getrk hx hb hW hown hK hS f_X12_45_11 hz_a0 hk_a0 (b := b6) k7 dX12_ordered_15 ?_
      refine lv_sipush (v := 170) hx hb dX12_ordered_18 (by decide) ?_
      refine lv_iload_n hx hb dX12_ordered_21 rfl (lv_at hl 1 rfl) ?_
      refine tw_iadd (lo := 170) (hi := 177) hx hb (iv_c (c := 170) (n := 170) (by decide)) h14 ⟨by decide, by decide⟩ ⟨by decide, by decide⟩ dX12_ordered_22 (fun x18 e17 h16 => ?_)
      have e17 : x18.toInt = 170 + a1.toInt := e17
      refine tw_iald hx hb hK hS hz_b6 hk_b6 (Or.inr (by decide)) hn_b6 (lo := 0) (hi := 11) h16 ⟨by decide, by decide⟩ (rg_so ⟨by decide, by decide⟩) dX12_ordered_23 (fun x21 k20 h19 => ?_)
      refine lv_goto (tgt := 28) hx hb dX12_ordered_24 (by decide) ?_
      exact tw_endi hx hb hr hlocks hK hT hS hQ ((iv_mono h19 (by decide) (by decide))) dX12_ordered_28
def Lt_X12_says : WL := [(12, 23, 24), (12, 28, 29), (12, 30, 31), (14, 0, 2000000), (30, 0, 2000000), (31, 0, 2000000)]
def LRt_X12_says : WL := []
set_option maxRecDepth 100000 in
set_option maxHeartbeats 4000000 in
theorem t_X12_says (l : Launch) (D : va_G) (cy : Nat → ClassId) (tx : (Nat → Nat) × (Nat → Nat)) (base Z : Nat) (K N : Nat → Nat) (Ma : MT) (Ra : RT) (Ja : JT) (hTy : Ty Z K N Ma Ra) (a0 : Nat) (hz_a0 : a0 < Z) (hk_a0 : K a0 = 12) (a1 : Int32) (h_a1 : iv (-2147483648) 2147483647 a1) (a2 : Int32) (h_a2 : iv (-2147483648) 2147483647 a2) (co_a0 : Codes Ma Ra a0) : Met l yX12_says [Cond.code yX12_says cX12_says 3 (some .int)] (md_rm 4 0 0) (va_Pc [.ref (base + a0), .int a1, .int a2] (md_U D cy tx base Z K N Ma Ra Ja)) (mQi D cy tx base (fun r u => TP Z K N Lt_X12_says LRt_X12_says Ma Ra u ∧ (iv (-2147483648) 2147483647 r))) 0 0 (fun q => base ≤ q) := by
  refine tw_ofW (L := Lt_X12_says) (LR := LRt_X12_says) (by decide) (Nat.le_of_ble_eq_true rfl) hTy ?_
  intro p e s m args below meth c Q ls hx hb hr hlocks hown hml hW hK hT hS hQ hl
  have hl : lv_has ls 3 [(0, .ref (base + a0)), (1, .int a1), (2, .int a2)] := hl
  refine lv_aload_n hx hb dX12_says_0 rfl (lv_at hl 0 rfl) ?_
  refine lv_iload_n hx hb dX12_says_1 rfl (lv_at hl 1 rfl) ?_
  refine tw_goi hS (md_runV (As := [.int a1]) (rest := []) hx hb hml hown hW hK hT hS.1 (t_X12_isPresent l D cy tx base Z K N Ma Ra Ja hS.2.1 a0 hz_a0 hk_a0 a1 h_a1) s_X12_390 ⟨rfl, rfl, ⟨Nat.le_of_ble_eq_true rfl, Nat.le_of_ble_eq_true rfl⟩, ⟨Nat.le_of_ble_eq_true rfl, Nat.le_of_ble_eq_true rfl⟩⟩ hz_a0 hk_a0 (by decide) rfl rfl hl.1 rfl (Nat.le_of_ble_eq_true rfl) dX12_says_2) rfl rfl (fun x7 H locs M4 R5 J3 hS f1 g2 E6 => ?_)
  have eM4 := Fr.nil f1 rfl
  subst eM4
  have eR5 := Fr.nil g2 rfl
  subst eR5
  obtain ⟨h_x7, p8⟩ := E6
  refine lv_if_eq (tgt := 16) hx hb dX12_says_5 (by decide) (fun c9 => ?_) (fun c9 => ?_)
  · have q10 : x7.toInt = 0 := ti_eq c9
    have h11 : iv 0 0 x7 := ⟨by have := (h_x7).1; have := ((iv_c (c := 0) (n := 0) (by decide))).1; omega, by have := (h_x7).2; have := ((iv_c (c := 0) (n := 0) (by decide))).2; omega⟩
    refine lv_iconst (v := (-1)) hx hb dX12_says_16 (by decide) ?_
    exact tw_endi hx hb hr hlocks hK hT hS hQ ((iv_mono (iv_c (c := (-1)) (n := (-1)) (by decide)) (by decide) (by decide))) dX12_says_17
  · have q12 : ¬ x7.toInt = 0 := ti_ne c9
    have h13 : iv 1 1 x7 := ⟨by have := (h_x7).1; have := ((iv_c (c := 0) (n := 0) (by decide))).1; have := ((iv_c (c := 0) (n := 0) (by decide))).2; omega, by have := (h_x7).2; have := ((iv_c (c := 0) (n := 0) (by decide))).1; have := ((iv_c (c := 0) (n := 0) (by decide))).2; omega⟩
    have h14 : iv 0 9 a1 := ⟨by have := (p8 c9).1; have := (h_a1).1; omega, by have := (p8 c9).2; have := (h_a1).2; omega⟩
    refine lv_aload_n hx hb dX12_says_8 rfl (lv_at hl 0 rfl) ?_
    refine lv_iload_n hx hb dX12_says_9 rfl (lv_at hl 2 rfl) ?_
    refine tw_goi hS (md_runV (As := [.int a2]) (rest := []) hx hb hml hown hW hK hT hS.1 (t_X12_isPoint l D cy tx base Z K N Ma Ra J3 hS.2.1 a0 hz_a0 hk_a0 a2 h_a2) s_X12_327 ⟨rfl, rfl, ⟨Nat.le_of_ble_eq_true rfl, Nat.le_of_ble_eq_true rfl⟩, ⟨Nat.le_of_ble_eq_true rfl, Nat.le_of_ble_eq_true rfl⟩⟩ hz_a0 hk_a0 (by decide) rfl rfl hl.1 rfl (Nat.le_of_ble_eq_true rfl) dX12_says_10) rfl rfl (fun x21 H locs M18 R19 J17 hS f15 g16 E20 => ?_)
    have eM18 := Fr.nil f15 rfl
    subst eM18
    have eR19 := Fr.nil g16 rfl
    subst eR19
    obtain ⟨h_x21, p22⟩ := E20
    refine lv_if_ne (tgt := 18) hx hb dX12_says_13 (by decide) (fun c23 => ?_) (fun c23 => ?_)
    · have q24 : ¬ x21.toInt = 0 := ti_ne c23
      have h25 : iv 1 1 x21 := ⟨by have := (h_x21).1; have := ((iv_c (c := 0) (n := 0) (by decide))).1; have := ((iv_c (c := 0) (n := 0) (by decide))).2; omega, by have := (h_x21).2; have := ((iv_c (c := 0) (n := 0) (by decide))).1; have := ((iv_c (c := 0) (n := 0) (by decide))).2; omega⟩
      have h26 : iv 0 11 a2 := ⟨by have := (p22 c23).1; have := (h_a2).1; omega, by have := (p22 c23).2; have := (h_a2).2; omega⟩
      refine lv_aload_n hx hb dX12_says_18 rfl (lv_at hl 0 rfl) ?_
      obtain ⟨b27, k28, hz_b27, hk_b27, hn_b27⟩ := hS.2.1.ref hz_a0 hk_a0 (show rtR 12 25 = (23, 226, 0) from rfl)
      have hn_b27 := hn_b27 (by decide)
      obtain ⟨x31, k29⟩ : ∃ x, Ma b27 (4 : Int32).toNatClampNeg = x := ⟨_, rfl⟩
      have h30 : iv 0 8 x31 := by rw [← k29]; exact hS.2.1.int hz_b27 hk_b27 (show rgI 23 (4 : Int32).toNatClampNeg = (0, 8) from rfl)
      refine tw_gov hS (md_runV (As := []) (rest := []) hx hb hml hown hW hK hT hS.1 (t_X12_begins l D cy tx base Z K N Ma Ra J17 hS.2.1 a0 hz_a0 hk_a0 b27 k28 x31 k29 (iv_mono h30 (by decide) (by decide))) s_X12_393 ⟨rfl, rfl, ⟨Nat.le_of_ble_eq_true rfl, Nat.le_of_ble_eq_true rfl⟩, ⟨Nat.le_of_ble_eq_true rfl, Nat.le_of_ble_eq_true rfl⟩⟩ hz_a0 hk_a0 (by decide) rfl rfl hl.1 rfl (Nat.le_of_ble_eq_true rfl) dX12_says_19) rfl rfl (fun H locs M35 R36 J34 hS f32 g33 E37 => ?_)
      have eR36 := Fr.nil g33 rfl
      subst eR36
      have p38 := E37
      clear E37
      have k39 : M35 a0 30 = x31 := p38
      refine lv_aload_n hx hb dX12_says_22 rfl (lv_at hl 0 rfl) ?_
      refine lv_iload_n hx hb dX12_says_23 rfl (lv_at hl 2 rfl) ?_
      refine lv_iconst (v := (-1)) hx hb dX12_says_24 (by decide) ?_
      refine tw_gov hS (md_runV (As := [.int a2, .int (-1)]) (rest := []) hx hb hml hown hW hK hT hS.1 (t_X12_wordsForAll l D cy tx base Z K N M35 Ra J34 hS.2.1 a0 hz_a0 hk_a0 a2 h26 (-1) (iv_mono (iv_c (c := (-1)) (n := (-1)) (by decide)) (by decide) (by decide))) s_X12_370 ⟨rfl, rfl, ⟨Nat.le_of_ble_eq_true rfl, Nat.le_of_ble_eq_true rfl⟩, ⟨Nat.le_of_ble_eq_true rfl, Nat.le_of_ble_eq_true rfl⟩⟩ hz_a0 hk_a0 (by decide) rfl rfl hl.1 rfl (Nat.le_of_ble_eq_true rfl) dX12_says_25) rfl rfl (fun H locs M43 R44 J42 hS f40 g41 E45 => ?_)
      have eM43 := Fr.nil f40 rfl
      subst eM43
      have eR44 := Fr.nil g41 rfl
      subst eR44
      refine lv_aload_n hx hb dX12_says_28 rfl (lv_at hl 0 rfl) ?_
      refine lv_iload_n hx hb dX12_says_29 rfl (lv_at hl 1 rfl) ?_
      refine lv_iload_n hx hb dX12_says_30 rfl (lv_at hl 2 rfl) ?_
      refine lv_iconst (v := (-1)) hx hb dX12_says_31 (by decide) ?_
      refine tw_goi hS (md_runV (As := [.int a1, .int a2, .int (-1)]) (rest := []) hx hb hml hown hW hK hT hS.1 (t_X12_saying l D cy tx base Z K N M35 Ra J42 hS.2.1 a0 hz_a0 hk_a0 a1 h14 a2 h26 (-1) (iv_mono (iv_c (c := (-1)) (n := (-1)) (by decide)) (by decide) (by decide)) (Codes.fr co_a0 hTy hz_a0 hk_a0 hS.2.2.1 hS.2.2.2 rfl)) s_X12_373 ⟨rfl, rfl, ⟨Nat.le_of_ble_eq_true rfl, Nat.le_of_ble_eq_true rfl⟩, ⟨Nat.le_of_ble_eq_true rfl, Nat.le_of_ble_eq_true rfl⟩⟩ hz_a0 hk_a0 (by decide) rfl rfl hl.1 rfl (Nat.le_of_ble_eq_true rfl) dX12_says_32) rfl rfl (fun x52 H locs M49 R50 J48 hS f46 g47 E51 => ?_)
      have eR50 := Fr.nil g47 rfl
      subst eR50
      have h_x52 := E51
      clear E51
      exact tw_endi hx hb hr hlocks hK hT hS hQ (h_x52) dX12_says_35
    · have q53 : x21.toInt = 0 := ti_eq c23
      have h54 : iv 0 0 x21 := ⟨by have := (h_x21).1; have := ((iv_c (c := 0) (n := 0) (by decide))).1; omega, by have := (h_x21).2; have := ((iv_c (c := 0) (n := 0) (by decide))).2; omega⟩
      refine lv_iconst (v := (-1)) hx hb dX12_says_16 (by decide) ?_
      exact tw_endi hx hb hr hlocks hK hT hS hQ ((iv_mono (iv_c (c := (-1)) (n := (-1)) (by decide)) (by decide) (by decide))) dX12_says_17
def Lt_X12_seed : WL := [(14, 0, 2000000), (23, 6, 7)]
def LRt_X12_seed : WL := []
set_option maxRecDepth 100000 in
set_option maxHeartbeats 4000000 in
theorem t_X12_seed (l : Launch) (D : va_G) (cy : Nat → ClassId) (tx : (Nat → Nat) × (Nat → Nat)) (base Z : Nat) (K N : Nat → Nat) (Ma : MT) (Ra : RT) (Ja : JT) (hTy : Ty Z K N Ma Ra) (a0 : Nat) (hz_a0 : a0 < Z) (hk_a0 : K a0 = 12) (a1 : Int32) (h_a1 : iv (-2147483648) 2147483647 a1) : Met l yX12_seed [Cond.code yX12_seed cX12_seed 3 (some .int)] (md_rm 2 0 0) (va_Pc [.ref (base + a0), .int a1] (md_U D cy tx base Z K N Ma Ra Ja)) (mQi D cy tx base (fun r u => TP Z K N Lt_X12_seed LRt_X12_seed Ma Ra u ∧ (iv (-2) 2147483647 r))) 0 0 (fun q => base ≤ q) := by
  refine tw_ofW (L := Lt_X12_seed) (LR := LRt_X12_seed) (by decide) (Nat.le_of_ble_eq_true rfl) hTy ?_
  intro p e s m args below meth c Q ls hx hb hr hlocks hown hml hW hK hT hS hQ hl
  have hl : lv_has ls 3 [(0, .ref (base + a0)), (1, .int a1)] := hl
  refine lv_iload_n hx hb dX12_seed_0 rfl (lv_at hl 1 rfl) ?_
  refine lv_if_ge (tgt := 10) hx hb dX12_seed_1 (by decide) (fun c1 => ?_) (fun c1 => ?_)
  · have q2 : 0 ≤ a1.toInt := ti_le c1
    have h3 : iv 0 2147483647 a1 := iv_geL (y := 0) h_a1 (iv_c (c := 0) (n := 0) (by decide)) q2 (by decide)
    refine lv_aload_n hx hb dX12_seed_10 rfl (lv_at hl 0 rfl) ?_
    refine tw_getr hx hb hW hown hK hS f_X12_45_11 hz_a0 hk_a0 (t := 23) (n := 226) rfl dX12_seed_11 (fun b4 k5 hz_b4 hk_b4 hn_b4 => ?_)
    have hn_b4 := hn_b4 (by decide)
    refine lv_bipush (v := 6) hx hb dX12_seed_14 (by decide) ?_
    refine tw_iald hx hb hK hS hz_b4 hk_b4 (Or.inr (by decide)) hn_b4 (lo := 0) (hi := 2147483647) (iv_c (c := 6) (n := 6) (by decide)) ⟨by decide, by decide⟩ (rg_c (k0 := 6) rfl rfl rfl) dX12_seed_16 (fun x8 k7 h6 => ?_)
    refine lv_istore_n (lv' := [(2, .int x8), (0, .ref (base + a0)), (1, .int a1)]) hx hb dX12_seed_17 rfl hl (by decide) rfl (fun ls hl => ?_)
    refine lv_aload_n hx hb dX12_seed_18 rfl (lv_at hl 1 rfl) ?_
    refine tw_getrk hx hb hW hown hK hS f_X12_45_11 hz_a0 hk_a0 (b := b4) k5 dX12_seed_19 ?_
    refine lv_bipush (v := 6) hx hb dX12_seed_22 (by decide) ?_
    refine lv_iload_n hx hb dX12_seed_24 rfl (lv_at hl 2 rfl) ?_
    refine tw_iast hx hb hK hS hz_b4 hk_b4 (Or.inr (by decide)) hn_b4 (iv_c (c := 6) (n := 6) (by decide)) ⟨by decide, by decide⟩ h3 (rg_cs (k0 := 6) rfl rfl rfl ⟨by decide, by decide⟩) (jl := 6) (jh := 6) ⟨by decide, by decide⟩ rfl dX12_seed_25 (fun H locs M11 hS k9 f10 => ?_)
    refine lv_iload_n hx hb dX12_seed_26 rfl (lv_at hl 0 rfl) ?_
    exact tw_endi hx hb hr hlocks hK hT hS hQ ((iv_mono h6 (by decide) (by decide))) dX12_seed_27
  · have q12 : a1.toInt < 0 := ti_nle c1
    have h13 : iv (-2147483648) (-1) a1 := iv_ltL (y := 0) h_a1 (iv_c (c := 0) (n := 0) (by decide)) q12 (by decide)
    refine lv_aload_n hx hb dX12_seed_4 rfl (lv_at hl 0 rfl) ?_
    refine lv_iconst (v := 0) hx hb dX12_seed_5 (by decide) ?_
    refine tw_goi hS (md_runV (As := [.int 0]) (rest := []) hx hb hml hown hW hK hT hS.1 (t_X12_refuses l D cy tx base Z K N Ma Ra Ja hS.2.1 a0 hz_a0 hk_a0 0 (iv_mono (iv_c (c := 0) (n := 0) (by decide)) (by decide) (by decide))) s_X12_338 ⟨rfl, rfl, ⟨Nat.le_of_ble_eq_true rfl, Nat.le_of_ble_eq_true rfl⟩, ⟨Nat.le_of_ble_eq_true rfl, Nat.le_of_ble_eq_true rfl⟩⟩ hz_a0 hk_a0 (by decide) rfl rfl hl.1 rfl (Nat.le_of_ble_eq_true rfl) dX12_seed_6) rfl rfl (fun x20 H locs M17 R18 J16 hS f14 g15 E19 => ?_)
    have eR18 := Fr.nil g15 rfl
    subst eR18
    have h_x20 := E19
    clear E19
    exact tw_endi hx hb hr hlocks hK hT hS hQ ((iv_mono h_x20 (by decide) (by decide))) dX12_seed_9
def Lt_X12_vote : WL := [(12, 23, 24), (12, 28, 29), (12, 30, 33), (14, 0, 2000000), (23, 3, 4), (23, 10, 20), (23, 30, 50), (30, 0, 2000000), (31, 0, 2000000)]
def LRt_X12_vote : WL := []
set_option maxRecDepth 100000 in
set_option maxHeartbeats 4000000 in
theorem t_X12_vote (l : Launch) (D : va_G) (cy : Nat → ClassId) (tx : (Nat → Nat) × (Nat → Nat)) (base Z : Nat) (K N : Nat → Nat) (Ma : MT) (Ra : RT) (Ja : JT) (hTy : Ty Z K N Ma Ra) (a0 : Nat) (hz_a0 : a0 < Z) (hk_a0 : K a0 = 12) (a1 : Int32) (h_a1 : iv (-2147483648) 2147483647 a1) (co_a0 : Codes Ma Ra a0) : Met l yX12_vote [Cond.code yX12_vote cX12_vote 3 (some .int)] (md_rm 5 0 0) (va_Pc [.ref (base + a0), .int a1] (md_U D cy tx base Z K N Ma Ra Ja)) (mQi D cy tx base (fun r u => TP Z K N Lt_X12_vote LRt_X12_vote Ma Ra u ∧ (iv (-2) 2 r))) 0 0 (fun q => base ≤ q) := by
  refine tw_ofW (L := Lt_X12_vote) (LR := LRt_X12_vote) (by decide) (Nat.le_of_ble_eq_true rfl) hTy ?_
  intro p e s m args below meth c Q ls hx hb hr hlocks hown hml hW hK hT hS hQ hl
  have hl : lv_has ls 3 [(0, .ref (base + a0)), (1, .int a1)] := hl
  refine lv_aload_n hx hb dX12_vote_0 rfl (lv_at hl 0 rfl) ?_
  refine lv_iload_n hx hb dX12_vote_1 rfl (lv_at hl 1 rfl) ?_
  refine tw_goi hS (md_runV (As := [.int a1]) (rest := []) hx hb hml hown hW hK hT hS.1 (t_X12_isPoint l D cy tx base Z K N Ma Ra Ja hS.2.1 a0 hz_a0 hk_a0 a1 h_a1) s_X12_327 ⟨rfl, rfl, ⟨Nat.le_of_ble_eq_true rfl, Nat.le_of_ble_eq_true rfl⟩, ⟨Nat.le_of_ble_eq_true rfl, Nat.le_of_ble_eq_true rfl⟩⟩ hz_a0 hk_a0 (by decide) rfl rfl hl.1 rfl (Nat.le_of_ble_eq_true rfl) dX12_vote_2) rfl rfl (fun x7 H locs M4 R5 J3 hS f1 g2 E6 => ?_)
  have eM4 := Fr.nil f1 rfl
  subst eM4
  have eR5 := Fr.nil g2 rfl
  subst eR5
  obtain ⟨h_x7, p8⟩ := E6
  refine lv_if_ne (tgt := 14) hx hb dX12_vote_5 (by decide) (fun c9 => ?_) (fun c9 => ?_)
  · have q10 : ¬ x7.toInt = 0 := ti_ne c9
    have h11 : iv 1 1 x7 := ⟨by have := (h_x7).1; have := ((iv_c (c := 0) (n := 0) (by decide))).1; have := ((iv_c (c := 0) (n := 0) (by decide))).2; omega, by have := (h_x7).2; have := ((iv_c (c := 0) (n := 0) (by decide))).1; have := ((iv_c (c := 0) (n := 0) (by decide))).2; omega⟩
    have h12 : iv 0 11 a1 := ⟨by have := (p8 c9).1; have := (h_a1).1; omega, by have := (p8 c9).2; have := (h_a1).2; omega⟩
    refine lv_aload_n hx hb dX12_vote_14 rfl (lv_at hl 0 rfl) ?_
    obtain ⟨b13, k14, hz_b13, hk_b13, hn_b13⟩ := hS.2.1.ref hz_a0 hk_a0 (show rtR 12 25 = (23, 226, 0) from rfl)
    have hn_b13 := hn_b13 (by decide)
    obtain ⟨x17, k15⟩ : ∃ x, Ma b13 (4 : Int32).toNatClampNeg = x := ⟨_, rfl⟩
    have h16 : iv 0 8 x17 := by rw [← k15]; exact hS.2.1.int hz_b13 hk_b13 (show rgI 23 (4 : Int32).toNatClampNeg = (0, 8) from rfl)
    refine tw_gov hS (md_runV (As := []) (rest := []) hx hb hml hown hW hK hT hS.1 (t_X12_begins l D cy tx base Z K N Ma Ra J3 hS.2.1 a0 hz_a0 hk_a0 b13 k14 x17 k15 (iv_mono h16 (by decide) (by decide))) s_X12_393 ⟨rfl, rfl, ⟨Nat.le_of_ble_eq_true rfl, Nat.le_of_ble_eq_true rfl⟩, ⟨Nat.le_of_ble_eq_true rfl, Nat.le_of_ble_eq_true rfl⟩⟩ hz_a0 hk_a0 (by decide) rfl rfl hl.1 rfl (Nat.le_of_ble_eq_true rfl) dX12_vote_15) rfl rfl (fun H locs M21 R22 J20 hS f18 g19 E23 => ?_)
    have eR22 := Fr.nil g19 rfl
    subst eR22
    have p24 := E23
    clear E23
    have k25 : M21 a0 30 = x17 := p24
    refine lv_aload_n hx hb dX12_vote_18 rfl (lv_at hl 0 rfl) ?_
    refine lv_iload_n hx hb dX12_vote_19 rfl (lv_at hl 1 rfl) ?_
    refine lv_iconst (v := (-1)) hx hb dX12_vote_20 (by decide) ?_
    refine tw_gov hS (md_runV (As := [.int a1, .int (-1)]) (rest := []) hx hb hml hown hW hK hT hS.1 (t_X12_asks l D cy tx base Z K N M21 Ra J20 hS.2.1 a0 hz_a0 hk_a0 a1 h12 (-1) (iv_mono (iv_c (c := (-1)) (n := (-1)) (by decide)) (by decide) (by decide)) (Codes.fr co_a0 hTy hz_a0 hk_a0 hS.2.2.1 hS.2.2.2 rfl)) s_X12_396 ⟨rfl, rfl, ⟨Nat.le_of_ble_eq_true rfl, Nat.le_of_ble_eq_true rfl⟩, ⟨Nat.le_of_ble_eq_true rfl, Nat.le_of_ble_eq_true rfl⟩⟩ hz_a0 hk_a0 (by decide) rfl rfl hl.1 rfl (Nat.le_of_ble_eq_true rfl) dX12_vote_21) rfl rfl (fun H locs M29 R30 J28 hS f26 g27 E31 => ?_)
    have eR30 := Fr.nil g27 rfl
    subst eR30
    refine lv_aload_n hx hb dX12_vote_24 rfl (lv_at hl 0 rfl) ?_
    refine tw_goi hS (md_runV (As := []) (rest := []) hx hb hml hown hW hK hT hS.1 (t_X12_settles_ l D cy tx base Z K N M29 Ra J28 hS.2.1 a0 hz_a0 hk_a0) s_X12_399 ⟨rfl, rfl, ⟨Nat.le_of_ble_eq_true rfl, Nat.le_of_ble_eq_true rfl⟩, ⟨Nat.le_of_ble_eq_true rfl, Nat.le_of_ble_eq_true rfl⟩⟩ hz_a0 hk_a0 (by decide) rfl rfl hl.1 rfl (Nat.le_of_ble_eq_true rfl) dX12_vote_25) rfl rfl (fun x38 H locs M35 R36 J34 hS f32 g33 E37 => ?_)
    have eR36 := Fr.nil g33 rfl
    subst eR36
    have h_x38 := E37
    clear E37
    refine lv_istore_n (lv' := [(2, .int x38), (0, .ref (base + a0)), (1, .int a1)]) hx hb dX12_vote_28 rfl hl (by decide) rfl (fun ls hl => ?_)
    refine lv_aload_n hx hb dX12_vote_29 rfl (lv_at hl 1 rfl) ?_
    refine tw_gov hS (md_runV (As := []) (rest := []) hx hb hml hown hW hK hT hS.1 (t_X12_stays l D cy tx base Z K N M35 Ra J34 hS.2.1 a0 hz_a0 hk_a0) s_X12_401 ⟨rfl, rfl, ⟨Nat.le_of_ble_eq_true rfl, Nat.le_of_ble_eq_true rfl⟩, ⟨Nat.le_of_ble_eq_true rfl, Nat.le_of_ble_eq_true rfl⟩⟩ hz_a0 hk_a0 (by decide) rfl rfl hl.1 rfl (Nat.le_of_ble_eq_true rfl) dX12_vote_30) rfl rfl (fun H locs M42 R43 J41 hS f39 g40 E44 => ?_)
    have eR43 := Fr.nil g40 rfl
    subst eR43
    refine lv_iload_n hx hb dX12_vote_33 rfl (lv_at hl 0 rfl) ?_
    exact tw_endi hx hb hr hlocks hK hT hS hQ ((iv_mono h_x38 (by decide) (by decide))) dX12_vote_34
  · have q45 : x7.toInt = 0 := ti_eq c9
    have h46 : iv 0 0 x7 := ⟨by have := (h_x7).1; have := ((iv_c (c := 0) (n := 0) (by decide))).1; omega, by have := (h_x7).2; have := ((iv_c (c := 0) (n := 0) (by decide))).2; omega⟩
    refine lv_aload_n hx hb dX12_vote_8 rfl (lv_at hl 0 rfl) ?_
    refine lv_iconst (v := 0) hx hb dX12_vote_9 (by decide) ?_
    refine tw_goi hS (md_runV (As := [.int 0]) (rest := []) hx hb hml hown hW hK hT hS.1 (t_X12_refuses l D cy tx base Z K N Ma Ra J3 hS.2.1 a0 hz_a0 hk_a0 0 (iv_mono (iv_c (c := 0) (n := 0) (by decide)) (by decide) (by decide))) s_X12_338 ⟨rfl, rfl, ⟨Nat.le_of_ble_eq_true rfl, Nat.le_of_ble_eq_true rfl⟩, ⟨Nat.le_of_ble_eq_true rfl, Nat.le_of_ble_eq_true rfl⟩⟩ hz_a0 hk_a0 (by decide) rfl rfl hl.1 rfl (Nat.le_of_ble_eq_true rfl) dX12_vote_10) rfl rfl (fun x53 H locs M50 R51 J49 hS f47 g48 E52 => ?_)
    have eR51 := Fr.nil g48 rfl
    subst eR51
    have h_x53 := E52
    clear E52
    exact tw_endi hx hb hr hlocks hK hT hS hQ ((iv_mono h_x53 (by decide) (by decide))) dX12_vote_13
def Lt_X12_worth : WL := []
def LRt_X12_worth : WL := []
set_option maxRecDepth 100000 in
set_option maxHeartbeats 4000000 in
theorem t_X12_worth (l : Launch) (D : va_G) (cy : Nat → ClassId) (tx : (Nat → Nat) × (Nat → Nat)) (base Z : Nat) (K N : Nat → Nat) (Ma : MT) (Ra : RT) (Ja : JT) (hTy : Ty Z K N Ma Ra) (a0 : Nat) (hz_a0 : a0 < Z) (hk_a0 : K a0 = 12) (a1 : Int32) (h_a1 : iv (-2147483648) 2147483647 a1) (a2 : Int32) (h_a2 : iv (-2147483648) 2147483647 a2) : Met l yX12_worth [Cond.code yX12_worth cX12_worth 3 (some .int)] (md_rm 2 0 0) (va_Pc [.ref (base + a0), .int a1, .int a2] (md_U D cy tx base Z K N Ma Ra Ja)) (mQi D cy tx base (fun r u => TP Z K N Lt_X12_worth LRt_X12_worth Ma Ra u ∧ (iv (-2147483648) 2147483647 r))) 0 0 (fun q => base ≤ q) := by
  refine tw_ofW (L := Lt_X12_worth) (LR := LRt_X12_worth) (by decide) (Nat.le_of_ble_eq_true rfl) hTy ?_
  intro p e s m args below meth c Q ls hx hb hr hlocks hown hml hW hK hT hS hQ hl
  have hl : lv_has ls 3 [(0, .ref (base + a0)), (1, .int a1), (2, .int a2)] := hl
  refine lv_aload_n hx hb dX12_worth_0 rfl (lv_at hl 0 rfl) ?_
  refine lv_iload_n hx hb dX12_worth_1 rfl (lv_at hl 1 rfl) ?_
  refine tw_goi hS (md_runV (As := [.int a1]) (rest := []) hx hb hml hown hW hK hT hS.1 (t_X12_isMember l D cy tx base Z K N Ma Ra Ja hS.2.1 a0 hz_a0 hk_a0 a1 h_a1) s_X12_319 ⟨rfl, rfl, ⟨Nat.le_of_ble_eq_true rfl, Nat.le_of_ble_eq_true rfl⟩, ⟨Nat.le_of_ble_eq_true rfl, Nat.le_of_ble_eq_true rfl⟩⟩ hz_a0 hk_a0 (by decide) rfl rfl hl.1 rfl (Nat.le_of_ble_eq_true rfl) dX12_worth_2) rfl rfl (fun x7 H locs M4 R5 J3 hS f1 g2 E6 => ?_)
  have eM4 := Fr.nil f1 rfl
  subst eM4
  have eR5 := Fr.nil g2 rfl
  subst eR5
  obtain ⟨h_x7, p8⟩ := E6
  refine lv_if_eq (tgt := 25) hx hb dX12_worth_5 (by decide) (fun c9 => ?_) (fun c9 => ?_)
  · have q10 : x7.toInt = 0 := ti_eq c9
    have h11 : iv 0 0 x7 := ⟨by have := (h_x7).1; have := ((iv_c (c := 0) (n := 0) (by decide))).1; omega, by have := (h_x7).2; have := ((iv_c (c := 0) (n := 0) (by decide))).2; omega⟩
    refine lv_sipush (v := (-1000)) hx hb dX12_worth_25 (by decide) ?_
    exact tw_endi hx hb hr hlocks hK hT hS hQ ((iv_mono (iv_c (c := (-1000)) (n := (-1000)) (by decide)) (by decide) (by decide))) dX12_worth_28
  · have q12 : ¬ x7.toInt = 0 := ti_ne c9
    have h13 : iv 1 1 x7 := ⟨by have := (h_x7).1; have := ((iv_c (c := 0) (n := 0) (by decide))).1; have := ((iv_c (c := 0) (n := 0) (by decide))).2; omega, by have := (h_x7).2; have := ((iv_c (c := 0) (n := 0) (by decide))).1; have := ((iv_c (c := 0) (n := 0) (by decide))).2; omega⟩
    have h14 : iv 0 9 a1 := ⟨by have := (p8 c9).1; have := (h_a1).1; omega, by have := (p8 c9).2; have := (h_a1).2; omega⟩
    refine lv_aload_n hx hb dX12_worth_8 rfl (lv_at hl 0 rfl) ?_
    refine lv_iload_n hx hb dX12_worth_9 rfl (lv_at hl 2 rfl) ?_
    refine tw_goi hS (md_runV (As := [.int a2]) (rest := []) hx hb hml hown hW hK hT hS.1 (t_X12_isPoint l D cy tx base Z K N Ma Ra J3 hS.2.1 a0 hz_a0 hk_a0 a2 h_a2) s_X12_327 ⟨rfl, rfl, ⟨Nat.le_of_ble_eq_true rfl, Nat.le_of_ble_eq_true rfl⟩, ⟨Nat.le_of_ble_eq_true rfl, Nat.le_of_ble_eq_true rfl⟩⟩ hz_a0 hk_a0 (by decide) rfl rfl hl.1 rfl (Nat.le_of_ble_eq_true rfl) dX12_worth_10) rfl rfl (fun x21 H locs M18 R19 J17 hS f15 g16 E20 => ?_)
    have eM18 := Fr.nil f15 rfl
    subst eM18
    have eR19 := Fr.nil g16 rfl
    subst eR19
    obtain ⟨h_x21, p22⟩ := E20
    refine lv_if_eq (tgt := 25) hx hb dX12_worth_13 (by decide) (fun c23 => ?_) (fun c23 => ?_)
    · have q24 : x21.toInt = 0 := ti_eq c23
      have h25 : iv 0 0 x21 := ⟨by have := (h_x21).1; have := ((iv_c (c := 0) (n := 0) (by decide))).1; omega, by have := (h_x21).2; have := ((iv_c (c := 0) (n := 0) (by decide))).2; omega⟩
      refine lv_sipush (v := (-1000)) hx hb dX12_worth_25 (by decide) ?_
      exact tw_endi hx hb hr hlocks hK hT hS hQ ((iv_mono (iv_c (c := (-1000)) (n := (-1000)) (by decide)) (by decide) (by decide))) dX12_worth_28
    · have q26 : ¬ x21.toInt = 0 := ti_ne c23
      have h27 : iv 1 1 x21 := ⟨by have := (h_x21).1; have := ((iv_c (c := 0) (n := 0) (by decide))).1; have := ((iv_c (c := 0) (n := 0) (by decide))).2; omega, by have := (h_x21).2; have := ((iv_c (c := 0) (n := 0) (by decide))).1; have := ((iv_c (c := 0) (n := 0) (by decide))).2; omega⟩
      have h28 : iv 0 11 a2 := ⟨by have := (p22 c23).1; have := (h_a2).1; omega, by have := (p22 c23).2; have := (h_a2).2; omega⟩
      refine lv_aload_n hx hb dX12_worth_16 rfl (lv_at hl 0 rfl) ?_
      refine lv_iload_n hx hb dX12_worth_17 rfl (lv_at hl 1 rfl) ?_
      refine lv_iload_n hx hb dX12_worth_18 rfl (lv_at hl 2 rfl) ?_
      refine tw_goi hS (md_runV (As := [.int a1, .int a2]) (rest := []) hx hb hml hown hW hK hT hS.1 (t_X12_worthOf l D cy tx base Z K N Ma Ra J17 hS.2.1 a0 hz_a0 hk_a0 a1 h14 a2 h28) s_X12_330 ⟨rfl, rfl, ⟨Nat.le_of_ble_eq_true rfl, Nat.le_of_ble_eq_true rfl⟩, ⟨Nat.le_of_ble_eq_true rfl, Nat.le_of_ble_eq_true rfl⟩⟩ hz_a0 hk_a0 (by decide) rfl rfl hl.1 rfl (Nat.le_of_ble_eq_true rfl) dX12_worth_19) rfl rfl (fun x35 H locs M32 R33 J31 hS f29 g30 E34 => ?_)
      have eM32 := Fr.nil f29 rfl
      subst eM32
      have eR33 := Fr.nil g30 rfl
      subst eR33
      have h_x35 := E34
      clear E34
      refine lv_goto (tgt := 28) hx hb dX12_worth_22 (by decide) ?_
      exact tw_endi hx hb hr hlocks hK hT hS hQ (h_x35) dX12_worth_28
def Lt_X7_kindOf : WL := []
def LRt_X7_kindOf : WL := []
set_option maxRecDepth 100000 in
set_option maxHeartbeats 4000000 in
theorem t_X7_kindOf (l : Launch) (D : va_G) (cy : Nat → ClassId) (tx : (Nat → Nat) × (Nat → Nat)) (base Z : Nat) (K N : Nat → Nat) (Ma : MT) (Ra : RT) (Ja : JT) (hTy : Ty Z K N Ma Ra) (a0 : Int32) (h_a0 : iv (-2147483648) 2147483647 a0) : Met l yX7_kindOf [Cond.code yX7_kindOf cX7_kindOf 1 (some .int)] (md_rm 1 0 0) (va_Pc [.int a0] (md_U D cy tx base Z K N Ma Ra Ja)) (mQi D cy tx base (fun r u => TP Z K N Lt_X7_kindOf LRt_X7_kindOf Ma Ra u ∧ (iv 0 15 r))) 0 0 (fun q => base ≤ q) := by
  refine tw_ofW (L := Lt_X7_kindOf) (LR := LRt_X7_kindOf) (by decide) (Nat.le_of_ble_eq_true rfl) hTy ?_
  intro p e s m args below meth c Q ls hx hb hr hlocks hown hml hW hK hT hS hQ hl
  have hl : lv_has ls 1 [(0, .int a0)] := hl
  refine lv_iload_n hx hb dX7_kindOf_0 rfl (lv_at hl 0 rfl) ?_
  refine lv_bipush (v := 15) hx hb dX7_kindOf_1 (by decide) ?_
  refine tw_iand (hi := 15) hx hb (iv_mono (iv_c (c := 15) (n := 15) (by decide)) (lo := 0) (hi := 15) (by decide) (by decide)) (by decide) dX7_kindOf_3 (fun x3 h1 => ?_)
  exact tw_endi hx hb hr hlocks hK hT hS hQ (h1) dX7_kindOf_4
def Lt_X7_stepOf : WL := []
def LRt_X7_stepOf : WL := []
set_option maxRecDepth 100000 in
set_option maxHeartbeats 4000000 in
theorem t_X7_stepOf (l : Launch) (D : va_G) (cy : Nat → ClassId) (tx : (Nat → Nat) × (Nat → Nat)) (base Z : Nat) (K N : Nat → Nat) (Ma : MT) (Ra : RT) (Ja : JT) (hTy : Ty Z K N Ma Ra) (a0 : Int32) (h_a0 : iv 0 15 a0) (a1 : Int32) (h_a1 : iv (-2147483648) 2147483647 a1) : Met l yX7_stepOf [Cond.code yX7_stepOf cX7_stepOf 2 (some .int)] (md_rm 1 0 0) (va_Pc [.int a0, .int a1] (md_U D cy tx base Z K N Ma Ra Ja)) (mQi D cy tx base (fun r u => TP Z K N Lt_X7_stepOf LRt_X7_stepOf Ma Ra u ∧ (iv (-2147483648) 2147483647 r))) 0 0 (fun q => base ≤ q) := by
  refine tw_ofW (L := Lt_X7_stepOf) (LR := LRt_X7_stepOf) (by decide) (Nat.le_of_ble_eq_true rfl) hTy ?_
  intro p e s m args below meth c Q ls hx hb hr hlocks hown hml hW hK hT hS hQ hl
  have hl : lv_has ls 2 [(0, .int a0), (1, .int a1)] := hl
  refine lv_iload_n hx hb dX7_stepOf_0 rfl (lv_at hl 1 rfl) ?_
  refine lv_iconst (v := 4) hx hb dX7_stepOf_1 (by decide) ?_
  refine lv_ishl hx hb dX7_stepOf_2 ?_
  refine tw_top (fun x2 => ?_)
  have h1 := iv_any x2
  refine lv_iload_n hx hb dX7_stepOf_3 rfl (lv_at hl 0 rfl) ?_
  refine lv_ior hx hb dX7_stepOf_4 ?_
  refine tw_top (fun x4 => ?_)
  have h3 := iv_any x4
  exact tw_endi hx hb hr hlocks hK hT hS hQ (h3) dX7_stepOf_5
def Lt_X8_aim : WL := [(14, 0, 2000000)]
def LRt_X8_aim : WL := []
set_option maxRecDepth 100000 in
set_option maxHeartbeats 4000000 in
theorem t_X8_aim (l : Launch) (D : va_G) (cy : Nat → ClassId) (tx : (Nat → Nat) × (Nat → Nat)) (base Z : Nat) (K N : Nat → Nat) (Ma : MT) (Ra : RT) (Ja : JT) (hTy : Ty Z K N Ma Ra) (a0 : Nat) (hz_a0 : a0 < Z) (hk_a0 : K a0 = 9) (a1 : Int32) (h_a1 : iv (-1) 399 a1) : Met l yX8_aim [Cond.code yX8_aim cX8_aim 2 none] (md_rm 2 0 0) (va_Pc [.ref (base + a0), .int a1] (md_U D cy tx base Z K N Ma Ra Ja)) (mQv D cy tx base (fun u => TP Z K N Lt_X8_aim LRt_X8_aim Ma Ra u ∧ (True))) 0 0 (fun q => base ≤ q) := by
  refine tw_ofW (L := Lt_X8_aim) (LR := LRt_X8_aim) (by decide) (Nat.le_of_ble_eq_true rfl) hTy ?_
  intro p e s m args below meth c Q ls hx hb hr hlocks hown hml hW hK hT hS hQ hl
  have hl : lv_has ls 2 [(0, .ref (base + a0)), (1, .int a1)] := hl
  refine lv_iload_n hx hb dX8_aim_0 rfl (lv_at hl 1 rfl) ?_
  refine lv_if_lt (tgt := 34) hx hb dX8_aim_1 (by decide) (fun c1 => ?_) (fun c1 => ?_)
  · have q2 : a1.toInt < 0 := ti_lt c1
    have h3 : iv (-1) (-1) a1 := iv_ltL (y := 0) h_a1 (iv_c (c := 0) (n := 0) (by decide)) q2 (by decide)
    exact tw_endv hx hb hr hlocks hK hT hS hQ (trivial) dX8_aim_34
  · have q4 : 0 ≤ a1.toInt := ti_nlt c1
    have h5 : iv 0 399 a1 := iv_geL (y := 0) h_a1 (iv_c (c := 0) (n := 0) (by decide)) q4 (by decide)
    refine lv_iload_n hx hb dX8_aim_4 rfl (lv_at hl 1 rfl) ?_
    refine lv_aload_n hx hb dX8_aim_5 rfl (lv_at hl 0 rfl) ?_
    refine tw_geti hx hb hW hown hK hS f_X8_19_8 hz_a0 hk_a0 (lo := 0) (hi := 400) rfl dX8_aim_6 (fun x8 k7 h6 => ?_)
    refine lv_icmp_ge (tgt := 34) hx hb dX8_aim_9 (by decide) (fun c9 => ?_) (fun c9 => ?_)
    · have q10 : x8.toInt ≤ a1.toInt := ti_le c9
      have h11 : iv 0 399 x8 := iv_leL (y := a1) h6 h5 q10 (by decide)
      exact tw_endv hx hb hr hlocks hK hT hS hQ (trivial) dX8_aim_34
    · have q12 : a1.toInt < x8.toInt := ti_nle c9
      have h13 : iv 1 400 x8 := iv_gtL (y := a1) h6 h5 q12 (by decide)
      refine lv_aload_n hx hb dX8_aim_12 rfl (lv_at hl 0 rfl) ?_
      refine tw_getr hx hb hW hown hK hS f_X8_9_8 hz_a0 hk_a0 (t := 14) (n := 400) rfl dX8_aim_13 (fun b14 k15 hz_b14 hk_b14 hn_b14 => ?_)
      have hn_b14 := hn_b14 (by decide)
      refine lv_iload_n hx hb dX8_aim_16 rfl (lv_at hl 1 rfl) ?_
      refine lv_aload_n hx hb dX8_aim_17 rfl (lv_at hl 0 rfl) ?_
      refine tw_getrk hx hb hW hown hK hS f_X8_9_8 hz_a0 hk_a0 (b := b14) k15 dX8_aim_18 ?_
      refine lv_iload_n hx hb dX8_aim_21 rfl (lv_at hl 1 rfl) ?_
      refine tw_iald hx hb hK hS hz_b14 hk_b14 (Or.inl rfl) hn_b14 (lo := (-2147483648)) (hi := 2147483647) h5 ⟨by decide, by decide⟩ rg_u14 dX8_aim_22 (fun x18 k17 h16 => ?_)
      refine tw_goi hS (md_runS (As := [.int x18]) (rest := [.int a1, .ref (base + b14)]) hx hb hml hown hW hK hT hS.1 (t_X7_kindOf l D cy tx base Z K N Ma Ra Ja hS.2.1 x18 h16) s_X8_71 ⟨rfl, rfl, ⟨Nat.le_of_ble_eq_true rfl, Nat.le_of_ble_eq_true rfl⟩, ⟨Nat.le_of_ble_eq_true rfl, Nat.le_of_ble_eq_true rfl⟩⟩ rfl hl.1 rfl (Nat.le_of_ble_eq_true rfl) dX8_aim_23) rfl rfl (fun x25 H locs M22 R23 J21 hS f19 g20 E24 => ?_)
      have eM22 := Fr.nil f19 rfl
      subst eM22
      have eR23 := Fr.nil g20 rfl
      subst eR23
      have h_x25 := E24
      clear E24
      refine lv_aload_n hx hb dX8_aim_26 rfl (lv_at hl 0 rfl) ?_
      refine tw_getk hx hb hW hown hK hS f_X8_19_8 hz_a0 hk_a0 (v := x8) k7 dX8_aim_27 ?_
      refine tw_goi hS (md_runS (As := [.int x25, .int x8]) (rest := [.int a1, .ref (base + b14)]) hx hb hml hown hW hK hT hS.1 (t_X7_stepOf l D cy tx base Z K N Ma Ra J21 hS.2.1 x25 h_x25 x8 (iv_mono h13 (by decide) (by decide))) s_X8_68 ⟨rfl, rfl, ⟨Nat.le_of_ble_eq_true rfl, Nat.le_of_ble_eq_true rfl⟩, ⟨Nat.le_of_ble_eq_true rfl, Nat.le_of_ble_eq_true rfl⟩⟩ rfl hl.1 rfl (Nat.le_of_ble_eq_true rfl) dX8_aim_30) rfl rfl (fun x32 H locs M29 R30 J28 hS f26 g27 E31 => ?_)
      have eM29 := Fr.nil f26 rfl
      subst eM29
      have eR30 := Fr.nil g27 rfl
      subst eR30
      have h_x32 := E31
      clear E31
      refine tw_iast hx hb hK hS hz_b14 hk_b14 (Or.inl rfl) hn_b14 h5 ⟨by decide, by decide⟩ h_x32 (rg_s14 ⟨by decide, by decide⟩) (jl := 0) (jh := 1999999) ⟨by decide, by decide⟩ rfl dX8_aim_33 (fun H locs M35 hS k33 f34 => ?_)
      exact tw_endv hx hb hr hlocks hK hT hS hQ (trivial) dX8_aim_34
def Lt_X8_put : WL := [(9, 6, 7), (14, 0, 2000000)]
def LRt_X8_put : WL := []
set_option maxRecDepth 100000 in
set_option maxHeartbeats 4000000 in
theorem t_X8_put (l : Launch) (D : va_G) (cy : Nat → ClassId) (tx : (Nat → Nat) × (Nat → Nat)) (base Z : Nat) (K N : Nat → Nat) (Ma : MT) (Ra : RT) (Ja : JT) (hTy : Ty Z K N Ma Ra) (a0 : Nat) (hz_a0 : a0 < Z) (hk_a0 : K a0 = 9) (a1 : Int32) (h_a1 : iv 0 15 a1) (a2 : Int32) (h_a2 : iv (-2147483648) 2147483647 a2) : Met l yX8_put [Cond.code yX8_put cX8_put 3 (some .int)] (md_rm 2 0 0) (va_Pc [.ref (base + a0), .int a1, .int a2] (md_U D cy tx base Z K N Ma Ra Ja)) (mQi D cy tx base (fun r u => TP Z K N Lt_X8_put LRt_X8_put Ma Ra u ∧ (iv (-1) 399 r))) 0 0 (fun q => base ≤ q) := by
  refine tw_ofW (L := Lt_X8_put) (LR := LRt_X8_put) (by decide) (Nat.le_of_ble_eq_true rfl) hTy ?_
  intro p e s m args below meth c Q ls hx hb hr hlocks hown hml hW hK hT hS hQ hl
  have hl : lv_has ls 3 [(0, .ref (base + a0)), (1, .int a1), (2, .int a2)] := hl
  refine lv_aload_n hx hb dX8_put_0 rfl (lv_at hl 0 rfl) ?_
  refine tw_geti hx hb hW hown hK hS f_X8_19_8 hz_a0 hk_a0 (lo := 0) (hi := 400) rfl dX8_put_1 (fun x3 k2 h1 => ?_)
  refine lv_aload_n hx hb dX8_put_4 rfl (lv_at hl 0 rfl) ?_
  refine tw_getr hx hb hW hown hK hS f_X8_9_8 hz_a0 hk_a0 (t := 14) (n := 400) rfl dX8_put_5 (fun b4 k5 hz_b4 hk_b4 hn_b4 => ?_)
  have hn_b4 := hn_b4 (by decide)
  refine tw_alenk hx hb hK hS hz_b4 hk_b4 (by decide) hn_b4 (v := 400) (by decide) dX8_put_8 ?_
  refine lv_icmp_lt (tgt := 14) hx hb dX8_put_9 (by decide) (fun c6 => ?_) (fun c6 => ?_)
  · have q7 : x3.toInt < 400 := ti_lt c6
    have h8 : iv 0 399 x3 := iv_ltL (y := 400) h1 (iv_c (c := 400) (n := 400) (by decide)) q7 (by decide)
    refine lv_aload_n hx hb dX8_put_14 rfl (lv_at hl 0 rfl) ?_
    refine tw_getrk hx hb hW hown hK hS f_X8_9_8 hz_a0 hk_a0 (b := b4) k5 dX8_put_15 ?_
    refine lv_aload_n hx hb dX8_put_18 rfl (lv_at hl 0 rfl) ?_
    refine tw_getk hx hb hW hown hK hS f_X8_19_8 hz_a0 hk_a0 (v := x3) k2 dX8_put_19 ?_
    refine lv_iload_n hx hb dX8_put_22 rfl (lv_at hl 1 rfl) ?_
    refine lv_iload_n hx hb dX8_put_23 rfl (lv_at hl 2 rfl) ?_
    refine tw_goi hS (md_runS (As := [.int a1, .int a2]) (rest := [.int x3, .ref (base + b4)]) hx hb hml hown hW hK hT hS.1 (t_X7_stepOf l D cy tx base Z K N Ma Ra Ja hS.2.1 a1 h_a1 a2 h_a2) s_X8_68 ⟨rfl, rfl, ⟨Nat.le_of_ble_eq_true rfl, Nat.le_of_ble_eq_true rfl⟩, ⟨Nat.le_of_ble_eq_true rfl, Nat.le_of_ble_eq_true rfl⟩⟩ rfl hl.1 rfl (Nat.le_of_ble_eq_true rfl) dX8_put_24) rfl rfl (fun x15 H locs M12 R13 J11 hS f9 g10 E14 => ?_)
    have eM12 := Fr.nil f9 rfl
    subst eM12
    have eR13 := Fr.nil g10 rfl
    subst eR13
    have h_x15 := E14
    clear E14
    refine tw_iast hx hb hK hS hz_b4 hk_b4 (Or.inl rfl) hn_b4 h8 ⟨by decide, by decide⟩ h_x15 (rg_s14 ⟨by decide, by decide⟩) (jl := 0) (jh := 1999999) ⟨by decide, by decide⟩ rfl dX8_put_27 (fun H locs M18 hS k16 f17 => ?_)
    refine lv_aload_n hx hb dX8_put_28 rfl (lv_at hl 0 rfl) ?_
    refine lv_dup hx hb dX8_put_29 rfl ?_
    have k19 : M18 a0 6 = x3 := (Fr.kp (k := 6) f17 hk_a0 rfl).trans k2
    refine tw_getk hx hb hW hown hK hS f_X8_19_8 hz_a0 hk_a0 (v := x3) k19 dX8_put_30 ?_
    refine lv_iconst (v := 1) hx hb dX8_put_33 (by decide) ?_
    refine tw_iadd (lo := 1) (hi := 400) hx hb h8 (iv_c (c := 1) (n := 1) (by decide)) ⟨by decide, by decide⟩ ⟨by decide, by decide⟩ dX8_put_34 (fun x22 e21 h20 => ?_)
    have e21 : x22.toInt = x3.toInt + 1 := e21
    refine tw_puti hx hb hW hown hK hS f_X8_19_8 hz_a0 hk_a0 rfl rfl (lo := 0) (hi := 400) rfl (iv_mono h20 (by decide) (by decide)) rfl dX8_put_35 (fun H locs M25 hS k23 f24 => ?_)
    refine lv_aload_n hx hb dX8_put_38 rfl (lv_at hl 0 rfl) ?_
    refine tw_getk hx hb hW hown hK hS f_X8_19_8 hz_a0 hk_a0 (v := x22) k23 dX8_put_39 ?_
    refine lv_iconst (v := 1) hx hb dX8_put_42 (by decide) ?_
    refine tw_isub (lo := 0) (hi := 399) hx hb h20 (iv_c (c := 1) (n := 1) (by decide)) ⟨by decide, by decide⟩ ⟨by decide, by decide⟩ dX8_put_43 (fun x28 e27 h26 => ?_)
    have e27 : x28.toInt = x22.toInt - 1 := e27
    exact tw_endi hx hb hr hlocks hK hT hS hQ ((iv_mono h26 (by decide) (by decide))) dX8_put_44
  · have q29 : 400 ≤ x3.toInt := ti_nlt c6
    have h30 : iv 400 400 x3 := iv_geL (y := 400) h1 (iv_c (c := 400) (n := 400) (by decide)) q29 (by decide)
    refine lv_iconst (v := (-1)) hx hb dX8_put_12 (by decide) ?_
    exact tw_endi hx hb hr hlocks hK hT hS hQ ((iv_mono (iv_c (c := (-1)) (n := (-1)) (by decide)) (by decide) (by decide))) dX8_put_13
