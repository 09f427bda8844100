def Lt_X12_feed : WL := [(12, 1, 2), (13, 0, 2000000)]
def LRt_X12_feed : WL := []
set_option maxRecDepth 100000 in
set_option maxHeartbeats 4000000 in
theorem t_X12_feed (l : Launch) (D : va_G) (cy : Nat → ClassId) (tx : (Nat → Nat) × (Nat → Nat)) (base Z : Nat) (K N : Nat → Nat) (Ma : MT) (Ra : RT) (Ja : JT) (hTy : Ty Z K N Ma Ra) (a0 : Nat) (hz_a0 : a0 < Z) (hk_a0 : K a0 = 12) (a1 : Int32) (h_a1 : iv (-2147483648) 2147483647 a1) (a2 : Int32) (h_a2 : iv (-2147483648) 2147483647 a2) (a3 : Int32) (h_a3 : iv (-2147483648) 2147483647 a3) (a4 : Int32) (h_a4 : iv (-2147483648) 2147483647 a4) (a5 : Int32) (h_a5 : iv (-2147483648) 2147483647 a5) : Met l yX12_feed [Cond.code yX12_feed cX12_feed 6 (some .int)] (md_rm 2 0 0) (va_Pc [.ref (base + a0), .int a1, .int a2, .int a3, .int a4, .int a5] (md_U D cy tx base Z K N Ma Ra Ja)) (mQi D cy tx base (fun r u => TP Z K N Lt_X12_feed LRt_X12_feed Ma Ra u ∧ (iv (-1) 400 r))) 0 0 (fun q => base ≤ q) := by
  refine tw_ofW (L := Lt_X12_feed) (LR := LRt_X12_feed) (by decide) (Nat.le_of_ble_eq_true rfl) hTy ?_
  intro p e s m args below meth c Q ls hx hb hr hlocks hown hml hW hK hT hS hQ hl
  have hl : lv_has ls 6 [(0, .ref (base + a0)), (1, .int a1), (2, .int a2), (3, .int a3), (4, .int a4), (5, .int a5)] := hl
  refine lv_aload_n hx hb dX12_feed_0 rfl (lv_at hl 0 rfl) ?_
  refine tw_geti hx hb hW hown hK hS f_X12_116_11 hz_a0 hk_a0 (lo := 0) (hi := 400) rfl dX12_feed_1 (fun x3 k2 h1 => ?_)
  refine lv_bipush (v := 20) hx hb dX12_feed_4 (by decide) ?_
  refine tw_iadd (lo := 20) (hi := 420) hx hb h1 (iv_c (c := 20) (n := 20) (by decide)) ⟨by decide, by decide⟩ ⟨by decide, by decide⟩ dX12_feed_6 (fun x6 e5 h4 => ?_)
  have e5 : x6.toInt = x3.toInt + 20 := e5
  refine lv_sipush (v := 400) hx hb dX12_feed_7 (by decide) ?_
  refine lv_icmp_le (tgt := 15) hx hb dX12_feed_10 (by decide) (fun c7 => ?_) (fun c7 => ?_)
  · have q8 : x6.toInt ≤ 400 := ti_le c7
    have h9 : iv 20 400 x6 := iv_leL (y := 400) h4 (iv_c (c := 400) (n := 400) (by decide)) q8 (by decide)
    refine lv_aload_n hx hb dX12_feed_15 rfl (lv_at hl 0 rfl) ?_
    refine lv_iload_n hx hb dX12_feed_16 rfl (lv_at hl 1 rfl) ?_
    have h10 : iv 0 396 x3 := by
      have := (h_a1).1; have := (h_a1).2; have := (h_a2).1; have := (h_a2).2; have := (h_a3).1; have := (h_a3).2; have := (h_a4).1; have := (h_a4).2; have := (h_a5).1; have := (h_a5).2; have := (h1).1; have := (h1).2; have := (h9).1; have := (h9).2; exact ⟨by omega, by omega⟩
    refine tw_gov hS (md_runV (As := [.int a1]) (rest := []) hx hb hml hown hW hK hT hS.1 (t_X12_four l D cy tx base Z K N Ma Ra Ja hS.2.1 a0 hz_a0 hk_a0 a1 h_a1 x3 k2 h10) s_X12_120 ⟨rfl, rfl, ⟨Nat.le_of_ble_eq_true rfl, Nat.le_of_ble_eq_true rfl⟩, ⟨Nat.le_of_ble_eq_true rfl, Nat.le_of_ble_eq_true rfl⟩⟩ hz_a0 hk_a0 (by decide) rfl rfl hl.1 rfl (Nat.le_of_ble_eq_true rfl) dX12_feed_17) rfl rfl (fun H locs M14 R15 J13 hS f11 g12 E16 => ?_)
    have eR15 := Fr.nil g12 rfl
    subst eR15
    have p17 := E16
    obtain ⟨x20, k18, h19, q21⟩ := p17
    have k18 : M14 a0 1 = x20 := k18
    refine lv_aload_n hx hb dX12_feed_20 rfl (lv_at hl 0 rfl) ?_
    refine lv_iload_n hx hb dX12_feed_21 rfl (lv_at hl 2 rfl) ?_
    have h22 : iv 0 396 x20 := by
      have := (h_a1).1; have := (h_a1).2; have := (h_a2).1; have := (h_a2).2; have := (h_a3).1; have := (h_a3).2; have := (h_a4).1; have := (h_a4).2; have := (h_a5).1; have := (h_a5).2; have := (h19).1; have := (h19).2; have := (h1).1; have := (h1).2; have := (h9).1; have := (h9).2; exact ⟨by omega, by omega⟩
    refine tw_gov hS (md_runV (As := [.int a2]) (rest := []) hx hb hml hown hW hK hT hS.1 (t_X12_four l D cy tx base Z K N M14 Ra J13 hS.2.1 a0 hz_a0 hk_a0 a2 h_a2 x20 k18 h22) s_X12_120 ⟨rfl, rfl, ⟨Nat.le_of_ble_eq_true rfl, Nat.le_of_ble_eq_true rfl⟩, ⟨Nat.le_of_ble_eq_true rfl, Nat.le_of_ble_eq_true rfl⟩⟩ hz_a0 hk_a0 (by decide) rfl rfl hl.1 rfl (Nat.le_of_ble_eq_true rfl) dX12_feed_22) rfl rfl (fun H locs M26 R27 J25 hS f23 g24 E28 => ?_)
    have eR27 := Fr.nil g24 rfl
    subst eR27
    have p29 := E28
    obtain ⟨x32, k30, h31, q33⟩ := p29
    have k30 : M26 a0 1 = x32 := k30
    refine lv_aload_n hx hb dX12_feed_25 rfl (lv_at hl 0 rfl) ?_
    refine lv_iload_n hx hb dX12_feed_26 rfl (lv_at hl 3 rfl) ?_
    have h34 : iv 0 396 x32 := by
      have := (h_a1).1; have := (h_a1).2; have := (h_a2).1; have := (h_a2).2; have := (h_a3).1; have := (h_a3).2; have := (h_a4).1; have := (h_a4).2; have := (h_a5).1; have := (h_a5).2; have := (h19).1; have := (h19).2; have := (h1).1; have := (h1).2; have := (h31).1; have := (h31).2; have := (h9).1; have := (h9).2; exact ⟨by omega, by omega⟩
    refine tw_gov hS (md_runV (As := [.int a3]) (rest := []) hx hb hml hown hW hK hT hS.1 (t_X12_four l D cy tx base Z K N M26 Ra J25 hS.2.1 a0 hz_a0 hk_a0 a3 h_a3 x32 k30 h34) s_X12_120 ⟨rfl, rfl, ⟨Nat.le_of_ble_eq_true rfl, Nat.le_of_ble_eq_true rfl⟩, ⟨Nat.le_of_ble_eq_true rfl, Nat.le_of_ble_eq_true rfl⟩⟩ hz_a0 hk_a0 (by decide) rfl rfl hl.1 rfl (Nat.le_of_ble_eq_true rfl) dX12_feed_27) rfl rfl (fun H locs M38 R39 J37 hS f35 g36 E40 => ?_)
    have eR39 := Fr.nil g36 rfl
    subst eR39
    have p41 := E40
    obtain ⟨x44, k42, h43, q45⟩ := p41
    have k42 : M38 a0 1 = x44 := k42
    refine lv_aload_n hx hb dX12_feed_30 rfl (lv_at hl 0 rfl) ?_
    refine lv_iload hx hb dX12_feed_31 (lv_at hl 4 rfl) ?_
    have h46 : iv 0 396 x44 := by
      have := (h_a1).1; have := (h_a1).2; have := (h_a2).1; have := (h_a2).2; have := (h_a3).1; have := (h_a3).2; have := (h_a4).1; have := (h_a4).2; have := (h_a5).1; have := (h_a5).2; have := (h19).1; have := (h19).2; have := (h1).1; have := (h1).2; have := (h31).1; have := (h31).2; have := (h43).1; have := (h43).2; have := (h9).1; have := (h9).2; exact ⟨by omega, by omega⟩
    refine tw_gov hS (md_runV (As := [.int a4]) (rest := []) hx hb hml hown hW hK hT hS.1 (t_X12_four l D cy tx base Z K N M38 Ra J37 hS.2.1 a0 hz_a0 hk_a0 a4 h_a4 x44 k42 h46) s_X12_120 ⟨rfl, rfl, ⟨Nat.le_of_ble_eq_true rfl, Nat.le_of_ble_eq_true rfl⟩, ⟨Nat.le_of_ble_eq_true rfl, Nat.le_of_ble_eq_true rfl⟩⟩ hz_a0 hk_a0 (by decide) rfl rfl hl.1 rfl (Nat.le_of_ble_eq_true rfl) dX12_feed_33) rfl rfl (fun H locs M50 R51 J49 hS f47 g48 E52 => ?_)
    have eR51 := Fr.nil g48 rfl
    subst eR51
    have p53 := E52
    obtain ⟨x56, k54, h55, q57⟩ := p53
    have k54 : M50 a0 1 = x56 := k54
    refine lv_aload_n hx hb dX12_feed_36 rfl (lv_at hl 0 rfl) ?_
    refine lv_iload hx hb dX12_feed_37 (lv_at hl 5 rfl) ?_
    have h58 : iv 0 396 x56 := by
      have := (h_a1).1; have := (h_a1).2; have := (h_a2).1; have := (h_a2).2; have := (h_a3).1; have := (h_a3).2; have := (h_a4).1; have := (h_a4).2; have := (h_a5).1; have := (h_a5).2; have := (h19).1; have := (h19).2; have := (h1).1; have := (h1).2; have := (h31).1; have := (h31).2; have := (h43).1; have := (h43).2; have := (h55).1; have := (h55).2; have := (h9).1; have := (h9).2; exact ⟨by omega, by omega⟩
    refine tw_gov hS (md_runV (As := [.int a5]) (rest := []) hx hb hml hown hW hK hT hS.1 (t_X12_four l D cy tx base Z K N M50 Ra J49 hS.2.1 a0 hz_a0 hk_a0 a5 h_a5 x56 k54 h58) s_X12_120 ⟨rfl, rfl, ⟨Nat.le_of_ble_eq_true rfl, Nat.le_of_ble_eq_true rfl⟩, ⟨Nat.le_of_ble_eq_true rfl, Nat.le_of_ble_eq_true rfl⟩⟩ hz_a0 hk_a0 (by decide) rfl rfl hl.1 rfl (Nat.le_of_ble_eq_true rfl) dX12_feed_39) rfl rfl (fun H locs M62 R63 J61 hS f59 g60 E64 => ?_)
    have eR63 := Fr.nil g60 rfl
    subst eR63
    have p65 := E64
    obtain ⟨x68, k66, h67, q69⟩ := p65
    have k66 : M62 a0 1 = x68 := k66
    refine lv_aload_n hx hb dX12_feed_42 rfl (lv_at hl 0 rfl) ?_
    refine tw_getk hx hb hW hown hK hS f_X12_116_11 hz_a0 hk_a0 (v := x68) k66 dX12_feed_43 ?_
    exact tw_endi hx hb hr hlocks hK hT hS hQ ((iv_mono h67 (by decide) (by decide))) dX12_feed_46
  · have q70 : 400 < x6.toInt := ti_nle c7
    have h71 : iv 401 420 x6 := iv_gtL (y := 400) h4 (iv_c (c := 400) (n := 400) (by decide)) q70 (by decide)
    refine lv_iconst (v := (-1)) hx hb dX12_feed_13 (by decide) ?_
    exact tw_endi hx hb hr hlocks hK hT hS hQ ((iv_mono (iv_c (c := (-1)) (n := (-1)) (by decide)) (by decide) (by decide))) dX12_feed_14
def Lt_X12_holds : WL := [(12, 28, 29), (12, 31, 33), (14, 0, 2000000), (30, 0, 2000000)]
def LRt_X12_holds : WL := []
set_option maxRecDepth 100000 in
set_option maxHeartbeats 4000000 in
theorem t_X12_holds (l : Launch) (D : va_G) (cy : Nat → ClassId) (tx : (Nat → Nat) × (Nat → Nat)) (base Z : Nat) (K N : Nat → Nat) (Ma : MT) (Ra : RT) (Ja : JT) (hTy : Ty Z K N Ma Ra) (a0 : Nat) (hz_a0 : a0 < Z) (hk_a0 : K a0 = 12) (a1 : Int32) (h_a1 : iv 0 2147483647 a1) (a2 : Int32) (h_a2 : iv 1 6 a2) : Met l yX12_holds [Cond.code yX12_holds cX12_holds 6 (some .boolean)] (md_rm 5 0 0) (va_Pc [.ref (base + a0), .int a1, .int a2] (md_U D cy tx base Z K N Ma Ra Ja)) (mQi D cy tx base (fun r u => TP Z K N Lt_X12_holds LRt_X12_holds Ma Ra u ∧ (iv 0 1 r))) 0 0 (fun q => base ≤ q) := by
  refine tw_ofW (L := Lt_X12_holds) (LR := LRt_X12_holds) (by decide) (Nat.le_of_ble_eq_true rfl) hTy ?_
  intro p e s m args below meth c Q ls hx hb hr hlocks hown hml hW hK hT hS hQ hl
  have hl : lv_has ls 6 [(0, .ref (base + a0)), (1, .int a1), (2, .int a2)] := hl
  refine lv_iload_n hx hb dX12_holds_0 rfl (lv_at hl 1 rfl) ?_
  refine lv_istore_n (lv' := [(3, .int a1), (0, .ref (base + a0)), (1, .int a1), (2, .int a2)]) hx hb dX12_holds_1 rfl hl (by decide) rfl (fun ls hl => ?_)
  refine lv_iconst (v := 0) hx hb dX12_holds_2 (by decide) ?_
  refine lv_istore (lv' := [(4, .int 0), (3, .int a1), (0, .ref (base + a0)), (1, .int a1), (2, .int a2)]) hx hb dX12_holds_3 hl (by decide) rfl (fun ls hl => ?_)
  have W5_3 : ∀ (n_3 : Nat) (x1 : Int32) (x2 : Int32) (M3 : MT) (R4 : RT) (J5 : JT) (H : Heap) (locs : List Loc) (ls : Array Slot) (h_x1 : iv 0 2147483647 x1) (h_x2 : iv 0 10 x2) (hm_3 : 10 - x2.toInt < (n_3 : Int)) (hS : SB D cy base Z K N Lt_X12_holds LRt_X12_holds Ma Ra M3 R4 J5 s H locs) (hl : lv_has ls 6 [(3, .int x1), (4, .int x2), (0, .ref (base + a0)), (1, .int a1), (2, .int a2)]), W p l e (md_rm 5 0 0) s m args below meth c H locs 0 0 Q (F0 m 5 ls []) := by
    intro n_3
    induction n_3 with
    | zero =>
      intro x1 x2 M3 R4 J5 H locs ls h_x1 h_x2 hm_3 hS hl
      exfalso
      have := (h_a1).1; have := (h_a1).2; have := (h_a2).1; have := (h_a2).2; have := (h_x2).1; have := (h_x2).2; omega
    | succ n_3 ih_3 =>
      intro x1 x2 M3 R4 J5 H locs ls h_x1 h_x2 hm_3 hS hl
      have f6 := hS.2.2.1
      have g7 := hS.2.2.2
      refine lv_iload hx hb dX12_holds_5 (lv_at hl 1 rfl) ?_
      refine lv_aload_n hx hb dX12_holds_7 rfl (lv_at hl 2 rfl) ?_
      refine tw_getr hx hb hW hown hK hS f_X12_45_11 hz_a0 hk_a0 (t := 23) (n := 226) rfl dX12_holds_8 (fun b8 k9 hz_b8 hk_b8 hn_b8 => ?_)
      have hn_b8 := hn_b8 (by decide)
      refine lv_iconst (v := 0) hx hb dX12_holds_11 (by decide) ?_
      refine tw_iald hx hb hK hS hz_b8 hk_b8 (Or.inr (by decide)) hn_b8 (lo := 0) (hi := 10) (iv_c (c := 0) (n := 0) (by decide)) ⟨by decide, by decide⟩ (rg_c (k0 := 0) rfl rfl rfl) dX12_holds_12 (fun x12 k11 h10 => ?_)
      refine lv_icmp_ge (tgt := 52) hx hb dX12_holds_13 (by decide) (fun c13 => ?_) (fun c13 => ?_)
      · have q14 : x12.toInt ≤ x2.toInt := ti_le c13
        refine lv_iconst (v := 0) hx hb dX12_holds_52 (by decide) ?_
        refine lv_istore (lv' := [(4, .int 0), (3, .int x1), (0, .ref (base + a0)), (1, .int a1), (2, .int a2)]) hx hb dX12_holds_53 hl (by decide) rfl (fun ls hl => ?_)
        have W55_16 : ∀ (n_16 : Nat) (x15 : Int32) (M16 : MT) (R17 : RT) (J18 : JT) (H : Heap) (locs : List Loc) (ls : Array Slot) (h_x15 : iv 0 12 x15) (hm_16 : 12 - x15.toInt < (n_16 : Int)) (hS : SB D cy base Z K N Lt_X12_holds LRt_X12_holds Ma Ra M16 R17 J18 s H locs) (hl : lv_has ls 6 [(4, .int x15), (3, .int x1), (0, .ref (base + a0)), (1, .int a1), (2, .int a2)]), W p l e (md_rm 5 0 0) s m args below meth c H locs 0 0 Q (F0 m 55 ls []) := by
          intro n_16
          induction n_16 with
          | zero =>
            intro x15 M16 R17 J18 H locs ls h_x15 hm_16 hS hl
            exfalso
            have := (h_a1).1; have := (h_a1).2; have := (h_a2).1; have := (h_a2).2; have := (h_x15).1; have := (h_x15).2; omega
          | succ n_16 ih_16 =>
            intro x15 M16 R17 J18 H locs ls h_x15 hm_16 hS hl
            have f19 := hS.2.2.1
            have g20 := hS.2.2.2
            refine lv_iload hx hb dX12_holds_55 (lv_at hl 0 rfl) ?_
            refine lv_aload_n hx hb dX12_holds_57 rfl (lv_at hl 2 rfl) ?_
            refine tw_getr hx hb hW hown hK hS f_X12_45_11 hz_a0 hk_a0 (t := 23) (n := 226) rfl dX12_holds_58 (fun b21 k22 hz_b21 hk_b21 hn_b21 => ?_)
            have hn_b21 := hn_b21 (by decide)
            refine lv_iconst (v := 5) hx hb dX12_holds_61 (by decide) ?_
            refine tw_iald hx hb hK hS hz_b21 hk_b21 (Or.inr (by decide)) hn_b21 (lo := 0) (hi := 12) (iv_c (c := 5) (n := 5) (by decide)) ⟨by decide, by decide⟩ (rg_c (k0 := 5) rfl rfl rfl) dX12_holds_62 (fun x25 k24 h23 => ?_)
            refine lv_icmp_ge (tgt := 153) hx hb dX12_holds_63 (by decide) (fun c26 => ?_) (fun c26 => ?_)
            · have q27 : x25.toInt ≤ x15.toInt := ti_le c26
              refine lv_iconst (v := 1) hx hb dX12_holds_153 (by decide) ?_
              exact tw_endz hx hb hr hlocks hK hT hS hQ rfl ((iv_mono (iv_c (c := 1) (n := 1) (by decide)) (by decide) (by decide))) dX12_holds_154
            · have q28 : x15.toInt < x25.toInt := ti_nle c26
              have h29 : iv 0 11 x15 := iv_ltL (y := x25) h_x15 h23 q28 (by decide)
              have h30 : iv 1 12 x25 := iv_gtL (y := x15) h23 h_x15 q28 (by decide)
              refine lv_sipush (v := 178) hx hb dX12_holds_66 (by decide) ?_
              refine lv_iconst (v := 4) hx hb dX12_holds_69 (by decide) ?_
              refine lv_iload hx hb dX12_holds_70 (lv_at hl 0 rfl) ?_
              refine tw_icmul (k := 4) (lo := 0) (hi := 44) hx hb (by decide) h29 (by decide) ⟨by decide, by decide⟩ ⟨by decide, by decide⟩ dX12_holds_72 (fun x33 e32 h31 => ?_)
              refine tw_iadd (lo := 178) (hi := 222) hx hb (iv_c (c := 178) (n := 178) (by decide)) h31 ⟨by decide, by decide⟩ ⟨by decide, by decide⟩ dX12_holds_73 (fun x36 e35 h34 => ?_)
              have e35 : x36.toInt = 178 + x33.toInt := e35
              refine lv_istore (lv' := [(5, .int x36), (4, .int x15), (3, .int x1), (0, .ref (base + a0)), (1, .int a1), (2, .int a2)]) hx hb dX12_holds_74 hl (by decide) rfl (fun ls hl => ?_)
              refine lv_aload_n hx hb dX12_holds_76 rfl (lv_at hl 3 rfl) ?_
              refine lv_aload_n hx hb dX12_holds_77 rfl (lv_at hl 3 rfl) ?_
              refine tw_getrk hx hb hW hown hK hS f_X12_45_11 hz_a0 hk_a0 (b := b21) k22 dX12_holds_78 ?_
              refine lv_iload hx hb dX12_holds_81 (lv_at hl 0 rfl) ?_
              refine tw_iald hx hb hK hS hz_b21 hk_b21 (Or.inr (by decide)) hn_b21 (lo := (-2147483648)) (hi := 2147483647) h34 ⟨by decide, by decide⟩ rg_full dX12_holds_83 (fun x39 k38 h37 => ?_)
              refine tw_puti hx hb hW hown hK hS f_X12_364_11 hz_a0 hk_a0 rfl rfl (lo := (-2147483648)) (hi := 2147483647) rfl h37 rfl dX12_holds_84 (fun H locs M42 hS k40 f41 => ?_)
              refine lv_aload_n hx hb dX12_holds_87 rfl (lv_at hl 3 rfl) ?_
              refine lv_aload_n hx hb dX12_holds_88 rfl (lv_at hl 3 rfl) ?_
              refine tw_getrk hx hb hW hown hK hS f_X12_45_11 hz_a0 hk_a0 (b := b21) k22 dX12_holds_89 ?_
              refine lv_iload hx hb dX12_holds_92 (lv_at hl 0 rfl) ?_
              refine lv_iconst (v := 1) hx hb dX12_holds_94 (by decide) ?_
              refine tw_iadd (lo := 179) (hi := 223) hx hb h34 (iv_c (c := 1) (n := 1) (by decide)) ⟨by decide, by decide⟩ ⟨by decide, by decide⟩ dX12_holds_95 (fun x45 e44 h43 => ?_)
              have e44 : x45.toInt = x36.toInt + 1 := e44
              refine tw_iald hx hb hK hS hz_b21 hk_b21 (Or.inr (by decide)) hn_b21 (lo := (-2147483648)) (hi := 2147483647) h43 ⟨by decide, by decide⟩ rg_full dX12_holds_96 (fun x48 k47 h46 => ?_)
              refine tw_puti hx hb hW hown hK hS f_X12_367_11 hz_a0 hk_a0 rfl rfl (lo := (-2147483648)) (hi := 2147483647) rfl h46 rfl dX12_holds_97 (fun H locs M51 hS k49 f50 => ?_)
              refine lv_aload_n hx hb dX12_holds_100 rfl (lv_at hl 3 rfl) ?_
              refine lv_aload_n hx hb dX12_holds_101 rfl (lv_at hl 3 rfl) ?_
              have k52 : M51 a0 31 = x39 := (Fr.kp (k := 31) f50 hk_a0 rfl).trans k40
              refine tw_getk hx hb hW hown hK hS f_X12_364_11 hz_a0 hk_a0 (v := x39) k52 dX12_holds_102 ?_
              obtain ⟨x55, k53⟩ : ∃ x, M51 b21 (0 : Int32).toNatClampNeg = x := ⟨_, rfl⟩
              have h54 : iv 0 10 x55 := by rw [← k53]; exact hS.2.1.int hz_b21 hk_b21 (show rgI 23 (0 : Int32).toNatClampNeg = (0, 10) from rfl)
              refine tw_goi hS (md_runV (As := [.int x39]) (rest := []) hx hb hml hown hW hK hT hS.1 (t_X12_voicesOf l D cy tx base Z K N M51 R17 J18 hS.2.1 a0 hz_a0 hk_a0 x39 h37 b21 k22 x55 k53 (iv_mono h54 (by decide) (by decide))) s_X12_380 ⟨rfl, rfl, ⟨Nat.le_of_ble_eq_true rfl, Nat.le_of_ble_eq_true rfl⟩, ⟨Nat.le_of_ble_eq_true rfl, Nat.le_of_ble_eq_true rfl⟩⟩ hz_a0 hk_a0 (by decide) rfl rfl hl.1 rfl (Nat.le_of_ble_eq_true rfl) dX12_holds_105) rfl rfl (fun x62 H locs M59 R60 J58 hS f56 g57 E61 => ?_)
              have eM59 := Fr.nil f56 rfl
              subst eM59
              have eR60 := Fr.nil g57 rfl
              subst eR60
              obtain ⟨h_x62, p63⟩ := E61
              refine lv_aload_n hx hb dX12_holds_108 rfl (lv_at hl 3 rfl) ?_
              refine tw_getrk hx hb hW hown hK hS f_X12_45_11 hz_a0 hk_a0 (b := b21) k22 dX12_holds_109 ?_
              refine lv_iload hx hb dX12_holds_112 (lv_at hl 0 rfl) ?_
              refine lv_iconst (v := 2) hx hb dX12_holds_114 (by decide) ?_
              refine tw_iadd (lo := 180) (hi := 224) hx hb h34 (iv_c (c := 2) (n := 2) (by decide)) ⟨by decide, by decide⟩ ⟨by decide, by decide⟩ dX12_holds_115 (fun x66 e65 h64 => ?_)
              have e65 : x66.toInt = x36.toInt + 2 := e65
              refine tw_iald hx hb hK hS hz_b21 hk_b21 (Or.inr (by decide)) hn_b21 (lo := (-2147483648)) (hi := 2147483647) h64 ⟨by decide, by decide⟩ rg_full dX12_holds_116 (fun x69 k68 h67 => ?_)
              refine lv_icmp_ne (tgt := 140) hx hb dX12_holds_117 (by decide) (fun c70 => ?_) (fun c70 => ?_)
              · have q71 : ¬ x62.toInt = x69.toInt := ti_ne c70
                refine lv_iconst (v := 0) hx hb dX12_holds_140 (by decide) ?_
                exact tw_endz hx hb hr hlocks hK hT hS hQ rfl ((iv_mono (iv_c (c := 0) (n := 0) (by decide)) (by decide) (by decide))) dX12_holds_141
              · have q72 : x62.toInt = x69.toInt := ti_eq c70
                have h73 : iv 0 99990 x69 := ⟨by have := (h_x62).1; have := (h67).1; omega, by have := (h_x62).2; have := (h67).2; omega⟩
                refine lv_aload_n hx hb dX12_holds_120 rfl (lv_at hl 3 rfl) ?_
                refine lv_aload_n hx hb dX12_holds_121 rfl (lv_at hl 3 rfl) ?_
                refine tw_getk hx hb hW hown hK hS f_X12_367_11 hz_a0 hk_a0 (v := x48) k49 dX12_holds_122 ?_
                refine tw_goi hS (md_runV (As := [.int x48]) (rest := []) hx hb hml hown hW hK hT hS.1 (t_X12_voicesOf l D cy tx base Z K N M51 R17 J58 hS.2.1 a0 hz_a0 hk_a0 x48 h46 b21 k22 x55 k53 (iv_mono h54 (by decide) (by decide))) s_X12_380 ⟨rfl, rfl, ⟨Nat.le_of_ble_eq_true rfl, Nat.le_of_ble_eq_true rfl⟩, ⟨Nat.le_of_ble_eq_true rfl, Nat.le_of_ble_eq_true rfl⟩⟩ hz_a0 hk_a0 (by decide) rfl rfl hl.1 rfl (Nat.le_of_ble_eq_true rfl) dX12_holds_125) rfl rfl (fun x80 H locs M77 R78 J76 hS f74 g75 E79 => ?_)
                have eM77 := Fr.nil f74 rfl
                subst eM77
                have eR78 := Fr.nil g75 rfl
                subst eR78
                obtain ⟨h_x80, p81⟩ := E79
                refine lv_aload_n hx hb dX12_holds_128 rfl (lv_at hl 3 rfl) ?_
                refine tw_getrk hx hb hW hown hK hS f_X12_45_11 hz_a0 hk_a0 (b := b21) k22 dX12_holds_129 ?_
                refine lv_iload hx hb dX12_holds_132 (lv_at hl 0 rfl) ?_
                refine lv_iconst (v := 3) hx hb dX12_holds_134 (by decide) ?_
                refine tw_iadd (lo := 181) (hi := 225) hx hb h34 (iv_c (c := 3) (n := 3) (by decide)) ⟨by decide, by decide⟩ ⟨by decide, by decide⟩ dX12_holds_135 (fun x84 e83 h82 => ?_)
                have e83 : x84.toInt = x36.toInt + 3 := e83
                refine tw_iald hx hb hK hS hz_b21 hk_b21 (Or.inr (by decide)) hn_b21 (lo := (-2147483648)) (hi := 2147483647) h82 ⟨by decide, by decide⟩ rg_full dX12_holds_136 (fun x87 k86 h85 => ?_)
                refine lv_icmp_eq (tgt := 142) hx hb dX12_holds_137 (by decide) (fun c88 => ?_) (fun c88 => ?_)
                · have q89 : x80.toInt = x87.toInt := ti_eq c88
                  have h90 : iv 0 99990 x87 := ⟨by have := (h_x80).1; have := (h85).1; omega, by have := (h_x80).2; have := (h85).2; omega⟩
                  refine lv_aload_n hx hb dX12_holds_142 rfl (lv_at hl 3 rfl) ?_
                  refine tw_goi hS (md_runV (As := []) (rest := []) hx hb hml hown hW hK hT hS.1 (t_X12_settles_ l D cy tx base Z K N M51 R17 J76 hS.2.1 a0 hz_a0 hk_a0) s_X12_399 ⟨rfl, rfl, ⟨Nat.le_of_ble_eq_true rfl, Nat.le_of_ble_eq_true rfl⟩, ⟨Nat.le_of_ble_eq_true rfl, Nat.le_of_ble_eq_true rfl⟩⟩ hz_a0 hk_a0 (by decide) rfl rfl hl.1 rfl (Nat.le_of_ble_eq_true rfl) dX12_holds_143) rfl rfl (fun x97 H locs M94 R95 J93 hS f91 g92 E96 => ?_)
                  have eR95 := Fr.nil g92 rfl
                  subst eR95
                  have h_x97 := E96
                  refine lv_pop hx hb dX12_holds_146 rfl ?_
                  refine tw_iinc (lv' := fun x100 => [(4, .int x100), (5, .int x36), (3, .int x1), (0, .ref (base + a0)), (1, .int a1), (2, .int a2)]) (lo := 1) (hi := 12) hx hb dX12_holds_147 hl (k := 1) rfl h29 (by decide) ⟨by decide, by decide⟩ ⟨by decide, by decide⟩ (by decide) (fun _ => rfl) (fun x100 ls e99 h98 hl => ?_)
                  refine lv_goto (tgt := 55) hx hb dX12_holds_150 (by decide) ?_
                  have hm101 : 12 - x100.toInt < (n_16 : Int) := by
                    have := (h_a1).1; have := (h_a1).2; have := (h_a2).1; have := (h_a2).2; have := (h98).1; have := (h98).2; have := (h29).1; have := (h29).2; have := (h31).1; have := (h31).2; omega
                  exact ih_16 x100 M94 R17 J93 H locs _ (iv_mono h98 (by decide) (by decide)) hm101 hS (lv_sub hl [0, 2, 3, 4, 5] rfl)
                · have q102 : ¬ x80.toInt = x87.toInt := ti_ne c88
                  refine lv_iconst (v := 0) hx hb dX12_holds_140 (by decide) ?_
                  exact tw_endz hx hb hr hlocks hK hT hS hQ rfl ((iv_mono (iv_c (c := 0) (n := 0) (by decide)) (by decide) (by decide))) dX12_holds_141
        have hm103 : 12 - (0 : Int32).toInt < (((13 : Nat) : Int) : Int) := by
          have := (h_a1).1; have := (h_a1).2; have := (h_a2).1; have := (h_a2).2; have : (0 : Int32).toInt = 0 := (by decide); omega
        exact W55_16 13 0 M3 R4 J5 H locs _ (iv_mono (iv_c (c := 0) (n := 0) (by decide)) (by decide) (by decide)) hm103 hS hl
      · have q104 : x2.toInt < x12.toInt := ti_nle c13
        have h105 : iv 0 9 x2 := iv_ltL (y := x12) h_x2 h10 q104 (by decide)
        have h106 : iv 1 10 x12 := iv_gtL (y := x2) h10 h_x2 q104 (by decide)
        refine lv_aload_n hx hb dX12_holds_16 rfl (lv_at hl 2 rfl) ?_
        refine tw_getr hx hb hW hown hK hS f_X12_102_11 hz_a0 hk_a0 (t := 14) (n := 10) rfl dX12_holds_17 (fun b107 k108 hz_b107 hk_b107 hn_b107 => ?_)
        have hn_b107 := hn_b107 (by decide)
        refine lv_iload hx hb dX12_holds_20 (lv_at hl 1 rfl) ?_
        refine lv_iconst (v := 1) hx hb dX12_holds_22 (by decide) ?_
        refine lv_iload_n hx hb dX12_holds_23 rfl (lv_at hl 0 rfl) ?_
        refine lv_iload_n hx hb dX12_holds_24 rfl (lv_at hl 4 rfl) ?_
        refine tw_irem (lo := 0) (hi := 5) hx hb h_x1 h_a2 ⟨by decide, by decide⟩ ⟨by decide, by decide⟩ dX12_holds_25 (fun x111 e110 h109 => ?_)
        refine tw_iadd (lo := 1) (hi := 6) hx hb (iv_c (c := 1) (n := 1) (by decide)) h109 ⟨by decide, by decide⟩ ⟨by decide, by decide⟩ dX12_holds_26 (fun x114 e113 h112 => ?_)
        have e113 : x114.toInt = 1 + x111.toInt := e113
        refine tw_iast hx hb hK hS hz_b107 hk_b107 (Or.inl rfl) hn_b107 h105 ⟨by decide, by decide⟩ h112 (rg_s14 ⟨by decide, by decide⟩) (jl := 0) (jh := 1999999) ⟨by decide, by decide⟩ rfl dX12_holds_27 (fun H locs M117 hS k115 f116 => ?_)
        refine lv_aload_n hx hb dX12_holds_28 rfl (lv_at hl 2 rfl) ?_
        refine tw_getr hx hb hW hown hK hS f_X12_51_11 hz_a0 hk_a0 (t := 30) (n := 10) rfl dX12_holds_29 (fun b118 k119 hz_b118 hk_b118 hn_b118 => ?_)
        have hn_b118 := hn_b118 (by decide)
        refine lv_iload hx hb dX12_holds_32 (lv_at hl 1 rfl) ?_
        refine lv_aload_n hx hb dX12_holds_34 rfl (lv_at hl 2 rfl) ?_
        refine tw_getrk hx hb hW hown hK hS f_X12_102_11 hz_a0 hk_a0 (b := b107) k108 dX12_holds_35 ?_
        refine lv_iload hx hb dX12_holds_38 (lv_at hl 1 rfl) ?_
        refine tw_ialk hx hb hK hS hz_b107 hk_b107 (Or.inl rfl) hn_b107 h105 ⟨by decide, by decide⟩ (v := x114) k115 dX12_holds_40 ?_
        refine tw_iast hx hb hK hS hz_b118 hk_b118 (Or.inr (by decide)) hn_b118 h105 ⟨by decide, by decide⟩ h112 (rg_s30 ⟨by decide, by decide⟩) (jl := 0) (jh := 1999999) ⟨by decide, by decide⟩ rfl dX12_holds_41 (fun H locs M122 hS k120 f121 => ?_)
        refine lv_iload_n hx hb dX12_holds_42 rfl (lv_at hl 0 rfl) ?_
        refine lv_iload_n hx hb dX12_holds_43 rfl (lv_at hl 4 rfl) ?_
        refine tw_idiv (lo := 0) (hi := 2147483647) hx hb h_x1 h_a2 ⟨by decide, by decide⟩ ⟨by decide, by decide⟩ dX12_holds_44 (fun x125 e124 h123 => ?_)
        refine lv_istore_n (lv' := [(3, .int x125), (4, .int x2), (0, .ref (base + a0)), (1, .int a1), (2, .int a2)]) hx hb dX12_holds_45 rfl hl (by decide) rfl (fun ls hl => ?_)
        refine tw_iinc (lv' := fun x128 => [(4, .int x128), (3, .int x125), (0, .ref (base + a0)), (1, .int a1), (2, .int a2)]) (lo := 1) (hi := 10) hx hb dX12_holds_46 hl (k := 1) rfl h105 (by decide) ⟨by decide, by decide⟩ ⟨by decide, by decide⟩ (by decide) (fun _ => rfl) (fun x128 ls e127 h126 hl => ?_)
        refine lv_goto (tgt := 5) hx hb dX12_holds_49 (by decide) ?_
        have hm129 : 10 - x128.toInt < (n_3 : Int) := by
          have := (h_a1).1; have := (h_a1).2; have := (h_a2).1; have := (h_a2).2; have := (h126).1; have := (h126).2; have := (h105).1; have := (h105).2; omega
        exact ih_3 x125 x128 M122 R4 J5 H locs _ h123 (iv_mono h126 (by decide) (by decide)) hm129 hS (lv_sub hl [1, 0, 2, 3, 4] rfl)
  have hm130 : 10 - (0 : Int32).toInt < (((11 : Nat) : Int) : Int) := by
    have := (h_a1).1; have := (h_a1).2; have := (h_a2).1; have := (h_a2).2; have : (0 : Int32).toInt = 0 := (by decide); omega
  exact W5_3 11 a1 0 Ma Ra Ja s.heap [] _ h_a1 (iv_mono (iv_c (c := 0) (n := 0) (by decide)) (by decide) (by decide)) hm130 hS (lv_sub hl [1, 0, 2, 3, 4] rfl)
def Lt_X12_waysOf : WL := []
def LRt_X12_waysOf : WL := []
set_option maxRecDepth 100000 in
set_option maxHeartbeats 4000000 in
theorem t_X12_waysOf (l : Launch) (D : va_G) (cy : Nat → ClassId) (tx : (Nat → Nat) × (Nat → Nat)) (base Z : Nat) (K N : Nat → Nat) (Ma : MT) (Ra : RT) (Ja : JT) (hTy : Ty Z K N Ma Ra) (a0 : Nat) (hz_a0 : a0 < Z) (hk_a0 : K a0 = 12) (a1 : Int32) (h_a1 : iv 1 6 a1) : Met l yX12_waysOf [Cond.code yX12_waysOf cX12_waysOf 4 (some .int)] (md_rm 1 0 0) (va_Pc [.ref (base + a0), .int a1] (md_U D cy tx base Z K N Ma Ra Ja)) (mQi D cy tx base (fun r u => TP Z K N Lt_X12_waysOf LRt_X12_waysOf Ma Ra u ∧ (iv (-2147483648) 2147483647 r))) 0 0 (fun q => base ≤ q) := by
  refine tw_ofW (L := Lt_X12_waysOf) (LR := LRt_X12_waysOf) (by decide) (Nat.le_of_ble_eq_true rfl) hTy ?_
  intro p e s m args below meth c Q ls hx hb hr hlocks hown hml hW hK hT hS hQ hl
  have hl : lv_has ls 4 [(0, .ref (base + a0)), (1, .int a1)] := hl
  refine lv_iconst (v := 1) hx hb dX12_waysOf_0 (by decide) ?_
  refine lv_istore_n (lv' := [(2, .int 1), (0, .ref (base + a0)), (1, .int a1)]) hx hb dX12_waysOf_1 rfl hl (by decide) rfl (fun ls hl => ?_)
  refine lv_iconst (v := 0) hx hb dX12_waysOf_2 (by decide) ?_
  refine lv_istore_n (lv' := [(3, .int 0), (2, .int 1), (0, .ref (base + a0)), (1, .int a1)]) hx hb dX12_waysOf_3 rfl hl (by decide) rfl (fun ls hl => ?_)
  have W4_3 : ∀ (n_3 : Nat) (x1 : Int32) (x2 : Int32) (M3 : MT) (R4 : RT) (J5 : JT) (H : Heap) (locs : List Loc) (ls : Array Slot) (h_x1 : iv (-2147483648) 2147483647 x1) (h_x2 : iv 0 10 x2) (hm_3 : 10 - x2.toInt < (n_3 : Int)) (hS : SB D cy base Z K N Lt_X12_waysOf LRt_X12_waysOf Ma Ra M3 R4 J5 s H locs) (hl : lv_has ls 4 [(2, .int x1), (3, .int x2), (0, .ref (base + a0)), (1, .int a1)]), W p l e (md_rm 1 0 0) s m args below meth c H locs 0 0 Q (F0 m 4 ls []) := by
    intro n_3
    induction n_3 with
    | zero =>
      intro x1 x2 M3 R4 J5 H locs ls h_x1 h_x2 hm_3 hS hl
      exfalso
      have := (h_a1).1; have := (h_a1).2; have := (h_x2).1; have := (h_x2).2; omega
    | succ n_3 ih_3 =>
      intro x1 x2 M3 R4 J5 H locs ls h_x1 h_x2 hm_3 hS hl
      have f6 := hS.2.2.1
      have g7 := hS.2.2.2
      refine lv_iload_n hx hb dX12_waysOf_4 rfl (lv_at hl 1 rfl) ?_
      refine lv_aload_n hx hb dX12_waysOf_5 rfl (lv_at hl 2 rfl) ?_
      refine tw_getr hx hb hW hown hK hS f_X12_45_11 hz_a0 hk_a0 (t := 23) (n := 226) rfl dX12_waysOf_6 (fun b8 k9 hz_b8 hk_b8 hn_b8 => ?_)
      have hn_b8 := hn_b8 (by decide)
      refine lv_iconst (v := 0) hx hb dX12_waysOf_9 (by decide) ?_
      refine tw_iald hx hb hK hS hz_b8 hk_b8 (Or.inr (by decide)) hn_b8 (lo := 0) (hi := 10) (iv_c (c := 0) (n := 0) (by decide)) ⟨by decide, by decide⟩ (rg_c (k0 := 0) rfl rfl rfl) dX12_waysOf_10 (fun x12 k11 h10 => ?_)
      refine lv_icmp_ge (tgt := 24) hx hb dX12_waysOf_11 (by decide) (fun c13 => ?_) (fun c13 => ?_)
      · have q14 : x12.toInt ≤ x2.toInt := ti_le c13
        refine lv_iload_n hx hb dX12_waysOf_24 rfl (lv_at hl 0 rfl) ?_
        exact tw_endi hx hb hr hlocks hK hT hS hQ (h_x1) dX12_waysOf_25
      · have q15 : x2.toInt < x12.toInt := ti_nle c13
        have h16 : iv 0 9 x2 := iv_ltL (y := x12) h_x2 h10 q15 (by decide)
        have h17 : iv 1 10 x12 := iv_gtL (y := x2) h10 h_x2 q15 (by decide)
        refine lv_iload_n hx hb dX12_waysOf_14 rfl (lv_at hl 0 rfl) ?_
        refine lv_iload_n hx hb dX12_waysOf_15 rfl (lv_at hl 3 rfl) ?_
        refine lv_imul hx hb dX12_waysOf_16 ?_
        refine tw_top (fun x19 => ?_)
        have h18 := iv_any x19
        refine lv_istore_n (lv' := [(2, .int x19), (3, .int x2), (0, .ref (base + a0)), (1, .int a1)]) hx hb dX12_waysOf_17 rfl hl (by decide) rfl (fun ls hl => ?_)
        refine tw_iinc (lv' := fun x22 => [(3, .int x22), (2, .int x19), (0, .ref (base + a0)), (1, .int a1)]) (lo := 1) (hi := 10) hx hb dX12_waysOf_18 hl (k := 1) rfl h16 (by decide) ⟨by decide, by decide⟩ ⟨by decide, by decide⟩ (by decide) (fun _ => rfl) (fun x22 ls e21 h20 hl => ?_)
        refine lv_goto (tgt := 4) hx hb dX12_waysOf_21 (by decide) ?_
        have hm23 : 10 - x22.toInt < (n_3 : Int) := by
          have := (h_a1).1; have := (h_a1).2; have := (h16).1; have := (h16).2; have := (h20).1; have := (h20).2; omega
        exact ih_3 x19 x22 M3 R4 J5 H locs _ h18 (iv_mono h20 (by decide) (by decide)) hm23 hS (lv_sub hl [1, 0, 2, 3] rfl)
  have hm24 : 10 - (0 : Int32).toInt < (((11 : Nat) : Int) : Int) := by
    have := (h_a1).1; have := (h_a1).2; have : (0 : Int32).toInt = 0 := (by decide); omega
  exact W4_3 11 1 0 Ma Ra Ja s.heap [] _ (iv_mono (iv_c (c := 1) (n := 1) (by decide)) (by decide) (by decide)) (iv_mono (iv_c (c := 0) (n := 0) (by decide)) (by decide) (by decide)) hm24 hS (lv_sub hl [1, 0, 2, 3] rfl)
def Lt_X12_fits : WL := [(12, 28, 29), (12, 31, 33), (14, 0, 2000000), (30, 0, 2000000)]
def LRt_X12_fits : WL := []
set_option maxRecDepth 100000 in
set_option maxHeartbeats 4000000 in
theorem t_X12_fits (l : Launch) (D : va_G) (cy : Nat → ClassId) (tx : (Nat → Nat) × (Nat → Nat)) (base Z : Nat) (K N : Nat → Nat) (Ma : MT) (Ra : RT) (Ja : JT) (hTy : Ty Z K N Ma Ra) (a0 : Nat) (hz_a0 : a0 < Z) (hk_a0 : K a0 = 12) (a1 : Int32) (h_a1 : iv (-2147483648) 2147483647 a1) (a2 : Int32) (h_a2 : iv (-2147483648) 2147483647 a2) (a3 : Int32) (h_a3 : iv (-2147483648) 2147483647 a3) : Met l yX12_fits [Cond.code yX12_fits cX12_fits 9 (some .int)] (md_rm 6 0 0) (va_Pc [.ref (base + a0), .int a1, .int a2, .int a3] (md_U D cy tx base Z K N Ma Ra Ja)) (mQi D cy tx base (fun r u => TP Z K N Lt_X12_fits LRt_X12_fits Ma Ra u ∧ (iv (-2147483648) 2147483647 r))) 0 0 (fun q => base ≤ q) := by
  refine tw_ofW (L := Lt_X12_fits) (LR := LRt_X12_fits) (by decide) (Nat.le_of_ble_eq_true rfl) hTy ?_
  intro p e s m args below meth c Q ls hx hb hr hlocks hown hml hW hK hT hS hQ hl
  have hl : lv_has ls 9 [(0, .ref (base + a0)), (1, .int a1), (2, .int a2), (3, .int a3)] := hl
  refine lv_aload_n hx hb dX12_fits_0 rfl (lv_at hl 0 rfl) ?_
  refine lv_iload_n hx hb dX12_fits_1 rfl (lv_at hl 1 rfl) ?_
  obtain ⟨b1, k2, hz_b1, hk_b1, hn_b1⟩ := hS.2.1.ref hz_a0 hk_a0 (show rtR 12 25 = (23, 226, 0) from rfl)
  have hn_b1 := hn_b1 (by decide)
  obtain ⟨x5, k3⟩ : ∃ x, Ma b1 (0 : Int32).toNatClampNeg = x := ⟨_, rfl⟩
  have h4 : iv 0 10 x5 := by rw [← k3]; exact hS.2.1.int hz_b1 hk_b1 (show rgI 23 (0 : Int32).toNatClampNeg = (0, 10) from rfl)
  refine tw_goi hS (md_runV (As := [.int a1]) (rest := []) hx hb hml hown hW hK hT hS.1 (t_X12_canFit l D cy tx base Z K N Ma Ra Ja hS.2.1 a0 hz_a0 hk_a0 a1 h_a1 b1 k2 x5 k3 (iv_mono h4 (by decide) (by decide))) s_X12_486 ⟨rfl, rfl, ⟨Nat.le_of_ble_eq_true rfl, Nat.le_of_ble_eq_true rfl⟩, ⟨Nat.le_of_ble_eq_true rfl, Nat.le_of_ble_eq_true rfl⟩⟩ hz_a0 hk_a0 (by decide) rfl rfl hl.1 rfl (Nat.le_of_ble_eq_true rfl) dX12_fits_2) rfl rfl (fun x12 H locs M9 R10 J8 hS f6 g7 E11 => ?_)
  have eM9 := Fr.nil f6 rfl
  subst eM9
  have eR10 := Fr.nil g7 rfl
  subst eR10
  obtain ⟨h_x12, p13, p14⟩ := E11
  refine lv_if_eq (tgt := 28) hx hb dX12_fits_5 (by decide) (fun c15 => ?_) (fun c15 => ?_)
  · have q16 : x12.toInt = 0 := ti_eq c15
    have h17 : iv 0 0 x12 := ⟨by have := (h_x12).1; have := ((iv_c (c := 0) (n := 0) (by decide))).1; omega, by have := (h_x12).2; have := ((iv_c (c := 0) (n := 0) (by decide))).2; omega⟩
    refine lv_iconst (v := (-1)) hx hb dX12_fits_28 (by decide) ?_
    exact tw_endi hx hb hr hlocks hK hT hS hQ ((iv_mono (iv_c (c := (-1)) (n := (-1)) (by decide)) (by decide) (by decide))) dX12_fits_29
  · have q18 : ¬ x12.toInt = 0 := ti_ne c15
    have h19 : iv 1 1 x12 := ⟨by have := (h_x12).1; have := ((iv_c (c := 0) (n := 0) (by decide))).1; have := ((iv_c (c := 0) (n := 0) (by decide))).2; omega, by have := (h_x12).2; have := ((iv_c (c := 0) (n := 0) (by decide))).1; have := ((iv_c (c := 0) (n := 0) (by decide))).2; omega⟩
    have h20 : iv 1 5 x5 := ⟨by have := (p13 c15).1; have := (h4).1; omega, by have := (p13 c15).2; have := (h4).2; omega⟩
    have h21 : iv 1 6 a1 := ⟨by have := (p14 c15).1; have := (h_a1).1; omega, by have := (p14 c15).2; have := (h_a1).2; omega⟩
    refine lv_aload_n hx hb dX12_fits_8 rfl (lv_at hl 0 rfl) ?_
    refine lv_iload_n hx hb dX12_fits_9 rfl (lv_at hl 2 rfl) ?_
    refine tw_goi hS (md_runV (As := [.int a2]) (rest := []) hx hb hml hown hW hK hT hS.1 (t_X12_isMember l D cy tx base Z K N Ma Ra J8 hS.2.1 a0 hz_a0 hk_a0 a2 h_a2) s_X12_319 ⟨rfl, rfl, ⟨Nat.le_of_ble_eq_true rfl, Nat.le_of_ble_eq_true rfl⟩, ⟨Nat.le_of_ble_eq_true rfl, Nat.le_of_ble_eq_true rfl⟩⟩ hz_a0 hk_a0 (by decide) rfl rfl hl.1 rfl (Nat.le_of_ble_eq_true rfl) dX12_fits_10) rfl rfl (fun x28 H locs M25 R26 J24 hS f22 g23 E27 => ?_)
    have eM25 := Fr.nil f22 rfl
    subst eM25
    have eR26 := Fr.nil g23 rfl
    subst eR26
    obtain ⟨h_x28, p29⟩ := E27
    refine lv_if_eq (tgt := 28) hx hb dX12_fits_13 (by decide) (fun c30 => ?_) (fun c30 => ?_)
    · have q31 : x28.toInt = 0 := ti_eq c30
      have h32 : iv 0 0 x28 := ⟨by have := (h_x28).1; have := ((iv_c (c := 0) (n := 0) (by decide))).1; omega, by have := (h_x28).2; have := ((iv_c (c := 0) (n := 0) (by decide))).2; omega⟩
      refine lv_iconst (v := (-1)) hx hb dX12_fits_28 (by decide) ?_
      exact tw_endi hx hb hr hlocks hK hT hS hQ ((iv_mono (iv_c (c := (-1)) (n := (-1)) (by decide)) (by decide) (by decide))) dX12_fits_29
    · have q33 : ¬ x28.toInt = 0 := ti_ne c30
      have h34 : iv 1 1 x28 := ⟨by have := (h_x28).1; have := ((iv_c (c := 0) (n := 0) (by decide))).1; have := ((iv_c (c := 0) (n := 0) (by decide))).2; omega, by have := (h_x28).2; have := ((iv_c (c := 0) (n := 0) (by decide))).1; have := ((iv_c (c := 0) (n := 0) (by decide))).2; omega⟩
      have h35 : iv 0 9 a2 := ⟨by have := (p29 c30).1; have := (h_a2).1; omega, by have := (p29 c30).2; have := (h_a2).2; omega⟩
      refine lv_iload_n hx hb dX12_fits_16 rfl (lv_at hl 3 rfl) ?_
      refine lv_i2l hx hb dX12_fits_17 rfl ?_
      refine lv_lconst (v := 0) hx hb dX12_fits_18 (by decide) ?_
      refine lv_ldc2 hx hb hown (hW _ w_7_178 rfl) dX12_fits_19 ?_
      refine tw_goi hS (md_runS (As := [.long a3.toInt64, .long 0, .long 2]) (rest := []) hx hb hml hown hW hK hT hS.1 (t_X12_in l D cy tx base Z K N Ma Ra J24 hS.2.1 (a3.toInt64) (0) (2)) s_X12_155 ⟨rfl, rfl, ⟨Nat.le_of_ble_eq_true rfl, Nat.le_of_ble_eq_true rfl⟩, ⟨Nat.le_of_ble_eq_true rfl, Nat.le_of_ble_eq_true rfl⟩⟩ rfl hl.1 rfl (Nat.le_of_ble_eq_true rfl) dX12_fits_22) rfl rfl (fun x42 H locs M39 R40 J38 hS f36 g37 E41 => ?_)
      have eM39 := Fr.nil f36 rfl
      subst eM39
      have eR40 := Fr.nil g37 rfl
      subst eR40
      obtain ⟨h_x42, p43⟩ := E41
      refine lv_if_ne (tgt := 30) hx hb dX12_fits_25 (by decide) (fun c44 => ?_) (fun c44 => ?_)
      · have q45 : ¬ x42.toInt = 0 := ti_ne c44
        have h46 : iv 1 1 x42 := ⟨by have := (h_x42).1; have := ((iv_c (c := 0) (n := 0) (by decide))).1; have := ((iv_c (c := 0) (n := 0) (by decide))).2; omega, by have := (h_x42).2; have := ((iv_c (c := 0) (n := 0) (by decide))).1; have := ((iv_c (c := 0) (n := 0) (by decide))).2; omega⟩
        have h47 : iv 0 2 a3 := in2iv (p43 c44) ((jv_c (x := 0) (n := 0) (by decide))).1 ((jv_c (x := 2) (n := 2) (by decide))).2
        refine lv_iconst (v := 0) hx hb dX12_fits_30 (by decide) ?_
        refine lv_istore (lv' := [(4, .int 0), (0, .ref (base + a0)), (1, .int a1), (2, .int a2), (3, .int a3)]) hx hb dX12_fits_31 hl (by decide) rfl (fun ls hl => ?_)
        refine lv_iconst (v := 0) hx hb dX12_fits_33 (by decide) ?_
        refine lv_istore (lv' := [(5, .int 0), (4, .int 0), (0, .ref (base + a0)), (1, .int a1), (2, .int a2), (3, .int a3)]) hx hb dX12_fits_34 hl (by decide) rfl (fun ls hl => ?_)
        refine lv_iconst (v := 0) hx hb dX12_fits_36 (by decide) ?_
        refine lv_istore (lv' := [(6, .int 0), (5, .int 0), (4, .int 0), (0, .ref (base + a0)), (1, .int a1), (2, .int a2), (3, .int a3)]) hx hb dX12_fits_37 hl (by decide) rfl (fun ls hl => ?_)
        refine lv_iconst (v := 0) hx hb dX12_fits_39 (by decide) ?_
        refine lv_istore (lv' := [(7, .int 0), (6, .int 0), (5, .int 0), (4, .int 0), (0, .ref (base + a0)), (1, .int a1), (2, .int a2), (3, .int a3)]) hx hb dX12_fits_40 hl (by decide) rfl (fun ls hl => ?_)
        have W42_52 : ∀ (n_52 : Nat) (x48 : Int32) (x49 : Int32) (x50 : Int32) (x51 : Int32) (M52 : MT) (R53 : RT) (J54 : JT) (H : Heap) (locs : List Loc) (ls : Array Slot) (h_x48 : iv (-2147483648) 2147483647 x48) (h_x49 : iv (-2147483648) 2147483647 x49) (h_x50 : iv 0 2147483647 x50) (h_x51 : iv 0 2147483647 x51) (hm_52 : 2147483647 - x51.toInt < (n_52 : Int)) (hS : SB D cy base Z K N Lt_X12_fits LRt_X12_fits Ma Ra M52 R53 J54 s H locs) (hl : lv_has ls 9 [(4, .int x48), (5, .int x49), (6, .int x50), (7, .int x51), (0, .ref (base + a0)), (1, .int a1), (2, .int a2), (3, .int a3)]), W p l e (md_rm 6 0 0) s m args below meth c H locs 0 0 Q (F0 m 42 ls []) := by
          intro n_52
          induction n_52 with
          | zero =>
            intro x48 x49 x50 x51 M52 R53 J54 H locs ls h_x48 h_x49 h_x50 h_x51 hm_52 hS hl
            exfalso
            have := (h21).1; have := (h21).2; have := (h35).1; have := (h35).2; have := (h47).1; have := (h47).2; have := (h_x51).1; have := (h_x51).2; omega
          | succ n_52 ih_52 =>
            intro x48 x49 x50 x51 M52 R53 J54 H locs ls h_x48 h_x49 h_x50 h_x51 hm_52 hS hl
            have f55 := hS.2.2.1
            have g56 := hS.2.2.2
            refine lv_iload hx hb dX12_fits_42 (lv_at hl 3 rfl) ?_
            refine lv_aload_n hx hb dX12_fits_44 rfl (lv_at hl 4 rfl) ?_
            refine lv_iload_n hx hb dX12_fits_45 rfl (lv_at hl 5 rfl) ?_
            refine tw_goi hS (md_runV (As := [.int a1]) (rest := [.int x51]) hx hb hml hown hW hK hT hS.1 (t_X12_waysOf l D cy tx base Z K N M52 R53 J54 hS.2.1 a0 hz_a0 hk_a0 a1 h21) s_X12_489 ⟨rfl, rfl, ⟨Nat.le_of_ble_eq_true rfl, Nat.le_of_ble_eq_true rfl⟩, ⟨Nat.le_of_ble_eq_true rfl, Nat.le_of_ble_eq_true rfl⟩⟩ hz_a0 hk_a0 (by decide) rfl rfl hl.1 rfl (Nat.le_of_ble_eq_true rfl) dX12_fits_46) rfl rfl (fun x63 H locs M60 R61 J59 hS f57 g58 E62 => ?_)
            have eM60 := Fr.nil f57 rfl
            subst eM60
            have eR61 := Fr.nil g58 rfl
            subst eR61
            have h_x63 := E62
            refine lv_icmp_ge (tgt := 119) hx hb dX12_fits_49 (by decide) (fun c64 => ?_) (fun c64 => ?_)
            · have q65 : x63.toInt ≤ x51.toInt := ti_le c64
              refine lv_iload_n hx hb dX12_fits_119 rfl (lv_at hl 7 rfl) ?_
              refine lv_if_ne (tgt := 128) hx hb dX12_fits_120 (by decide) (fun c66 => ?_) (fun c66 => ?_)
              · have q67 : ¬ a3.toInt = 0 := ti_ne c66
                have h68 : iv 1 2 a3 := ⟨by have := (h47).1; have := ((iv_c (c := 0) (n := 0) (by decide))).1; have := ((iv_c (c := 0) (n := 0) (by decide))).2; omega, by have := (h47).2; have := ((iv_c (c := 0) (n := 0) (by decide))).1; have := ((iv_c (c := 0) (n := 0) (by decide))).2; omega⟩
                refine lv_iload hx hb dX12_fits_128 (lv_at hl 0 rfl) ?_
                refine lv_if_ne (tgt := 138) hx hb dX12_fits_130 (by decide) (fun c69 => ?_) (fun c69 => ?_)
                · have q70 : ¬ x48.toInt = 0 := ti_ne c69
                  refine lv_iload_n hx hb dX12_fits_138 rfl (lv_at hl 7 rfl) ?_
                  refine lv_iconst (v := 1) hx hb dX12_fits_139 (by decide) ?_
                  refine lv_icmp_ne (tgt := 148) hx hb dX12_fits_140 (by decide) (fun c71 => ?_) (fun c71 => ?_)
                  · have q72 : ¬ a3.toInt = 1 := ti_ne c71
                    have h73 : iv 2 2 a3 := ⟨by have := (h68).1; have := ((iv_c (c := 1) (n := 1) (by decide))).1; have := ((iv_c (c := 1) (n := 1) (by decide))).2; omega, by have := (h68).2; have := ((iv_c (c := 1) (n := 1) (by decide))).1; have := ((iv_c (c := 1) (n := 1) (by decide))).2; omega⟩
                    refine lv_iload hx hb dX12_fits_148 (lv_at hl 2 rfl) ?_
                    exact tw_endi hx hb hr hlocks hK hT hS hQ ((iv_mono h_x50 (by decide) (by decide))) dX12_fits_150
                  · have q74 : a3.toInt = 1 := ti_eq c71
                    have h75 : iv 1 1 a3 := ⟨by have := (h68).1; have := ((iv_c (c := 1) (n := 1) (by decide))).1; omega, by have := (h68).2; have := ((iv_c (c := 1) (n := 1) (by decide))).2; omega⟩
                    refine lv_iload hx hb dX12_fits_143 (lv_at hl 1 rfl) ?_
                    refine lv_goto (tgt := 150) hx hb dX12_fits_145 (by decide) ?_
                    exact tw_endi hx hb hr hlocks hK hT hS hQ (h_x49) dX12_fits_150
                · have q76 : x48.toInt = 0 := ti_eq c69
                  have h77 : iv 0 0 x48 := ⟨by have := (h_x48).1; have := ((iv_c (c := 0) (n := 0) (by decide))).1; omega, by have := (h_x48).2; have := ((iv_c (c := 0) (n := 0) (by decide))).2; omega⟩
                  refine lv_bipush (v := (-2)) hx hb dX12_fits_133 (by decide) ?_
                  refine lv_goto (tgt := 150) hx hb dX12_fits_135 (by decide) ?_
                  exact tw_endi hx hb hr hlocks hK hT hS hQ ((iv_mono (iv_c (c := (-2)) (n := (-2)) (by decide)) (by decide) (by decide))) dX12_fits_150
              · have q78 : a3.toInt = 0 := ti_eq c66
                have h79 : iv 0 0 a3 := ⟨by have := (h47).1; have := ((iv_c (c := 0) (n := 0) (by decide))).1; omega, by have := (h47).2; have := ((iv_c (c := 0) (n := 0) (by decide))).2; omega⟩
                refine lv_iload hx hb dX12_fits_123 (lv_at hl 0 rfl) ?_
                refine lv_goto (tgt := 150) hx hb dX12_fits_125 (by decide) ?_
                exact tw_endi hx hb hr hlocks hK hT hS hQ (h_x48) dX12_fits_150
            · have q80 : x51.toInt < x63.toInt := ti_nle c64
              have h81 : iv 0 2147483646 x51 := iv_ltL (y := x63) h_x51 h_x63 q80 (by decide)
              have h82 : iv 1 2147483647 x63 := iv_gtL (y := x51) h_x63 h_x51 q80 (by decide)
              refine lv_aload_n hx hb dX12_fits_52 rfl (lv_at hl 4 rfl) ?_
              refine lv_iload hx hb dX12_fits_53 (lv_at hl 3 rfl) ?_
              refine lv_iload_n hx hb dX12_fits_55 rfl (lv_at hl 5 rfl) ?_
              refine tw_goi hS (md_runV (As := [.int x51, .int a1]) (rest := []) hx hb hml hown hW hK hT hS.1 (t_X12_holds l D cy tx base Z K N M52 R53 J59 hS.2.1 a0 hz_a0 hk_a0 x51 (iv_mono h81 (by decide) (by decide)) a1 h21) s_X12_492 ⟨rfl, rfl, ⟨Nat.le_of_ble_eq_true rfl, Nat.le_of_ble_eq_true rfl⟩, ⟨Nat.le_of_ble_eq_true rfl, Nat.le_of_ble_eq_true rfl⟩⟩ hz_a0 hk_a0 (by decide) rfl rfl hl.1 rfl (Nat.le_of_ble_eq_true rfl) dX12_fits_56) rfl rfl (fun x89 H locs M86 R87 J85 hS f83 g84 E88 => ?_)
              have eR87 := Fr.nil g84 rfl
              subst eR87
              have h_x89 := E88
              refine lv_if_ne (tgt := 65) hx hb dX12_fits_59 (by decide) (fun c90 => ?_) (fun c90 => ?_)
              · have q91 : ¬ x89.toInt = 0 := ti_ne c90
                have h92 : iv 1 1 x89 := ⟨by have := (h_x89).1; have := ((iv_c (c := 0) (n := 0) (by decide))).1; have := ((iv_c (c := 0) (n := 0) (by decide))).2; omega, by have := (h_x89).2; have := ((iv_c (c := 0) (n := 0) (by decide))).1; have := ((iv_c (c := 0) (n := 0) (by decide))).2; omega⟩
                refine lv_aload_n hx hb dX12_fits_65 rfl (lv_at hl 4 rfl) ?_
                refine tw_getr hx hb hW hown hK hS f_X12_102_11 hz_a0 hk_a0 (t := 14) (n := 10) rfl dX12_fits_66 (fun b93 k94 hz_b93 hk_b93 hn_b93 => ?_)
                have hn_b93 := hn_b93 (by decide)
                refine lv_iload_n hx hb dX12_fits_69 rfl (lv_at hl 6 rfl) ?_
                refine tw_iald hx hb hK hS hz_b93 hk_b93 (Or.inl rfl) hn_b93 (lo := (-2147483648)) (hi := 2147483647) h35 ⟨by decide, by decide⟩ rg_u14 dX12_fits_70 (fun x97 k96 h95 => ?_)
                refine lv_istore (lv' := [(8, .int x97), (4, .int x48), (5, .int x49), (6, .int x50), (7, .int x51), (0, .ref (base + a0)), (1, .int a1), (2, .int a2), (3, .int a3)]) hx hb dX12_fits_71 hl (by decide) rfl (fun ls hl => ?_)
                refine lv_iload hx hb dX12_fits_73 (lv_at hl 1 rfl) ?_
                have J85_98 : ∀  (M98 : MT) (R99 : RT) (J100 : JT) (H : Heap) (locs : List Loc) (ls : Array Slot) (hS : SB D cy base Z K N Lt_X12_fits LRt_X12_fits Ma Ra M98 R99 J100 s H locs) (hl : lv_has ls 9 [(8, .int x97), (4, .int x48), (5, .int x49), (6, .int x50), (7, .int x51), (0, .ref (base + a0)), (1, .int a1), (2, .int a2), (3, .int a3)]), W p l e (md_rm 6 0 0) s m args below meth c H locs 0 0 Q (F0 m 85 ls []) := by
                  intro  M98 R99 J100 H locs ls  hS hl
                  have f101 := hS.2.2.1
                  have g102 := hS.2.2.2
                  refine lv_iload hx hb dX12_fits_85 (lv_at hl 0 rfl) ?_
                  refine lv_goto (tgt := 92) hx hb dX12_fits_87 (by decide) ?_
                  refine lv_istore (lv' := [(5, .int x97), (8, .int x97), (4, .int x48), (6, .int x50), (7, .int x51), (0, .ref (base + a0)), (1, .int a1), (2, .int a2), (3, .int a3)]) hx hb dX12_fits_92 hl (by decide) rfl (fun ls hl => ?_)
                  refine lv_iload hx hb dX12_fits_94 (lv_at hl 1 rfl) ?_
                  refine lv_iload hx hb dX12_fits_96 (lv_at hl 3 rfl) ?_
                  refine lv_icmp_le (tgt := 106) hx hb dX12_fits_98 (by decide) (fun c103 => ?_) (fun c103 => ?_)
                  · have q104 : x97.toInt ≤ x50.toInt := ti_le c103
                    refine lv_iload hx hb dX12_fits_106 (lv_at hl 3 rfl) ?_
                    refine lv_istore (lv' := [(6, .int x50), (5, .int x97), (8, .int x97), (4, .int x48), (7, .int x51), (0, .ref (base + a0)), (1, .int a1), (2, .int a2), (3, .int a3)]) hx hb dX12_fits_108 hl (by decide) rfl (fun ls hl => ?_)
                    refine tw_iincw (lv' := fun x106 => [(4, .int x106), (6, .int x50), (5, .int x97), (8, .int x97), (7, .int x51), (0, .ref (base + a0)), (1, .int a1), (2, .int a2), (3, .int a3)]) hx hb dX12_fits_110 hl (k := 3) rfl (by decide) (fun _ => rfl) (fun x106 ls hl => ?_)
                    have h105 := iv_any x106
                    refine tw_iinc (lv' := fun x109 => [(7, .int x109), (4, .int x106), (6, .int x50), (5, .int x97), (8, .int x97), (0, .ref (base + a0)), (1, .int a1), (2, .int a2), (3, .int a3)]) (lo := 1) (hi := 2147483647) hx hb dX12_fits_113 hl (k := 4) rfl h81 (by decide) ⟨by decide, by decide⟩ ⟨by decide, by decide⟩ (by decide) (fun _ => rfl) (fun x109 ls e108 h107 hl => ?_)
                    refine lv_goto (tgt := 42) hx hb dX12_fits_116 (by decide) ?_
                    have hm110 : 2147483647 - x109.toInt < (n_52 : Int) := by
                      have := (h21).1; have := (h21).2; have := (h35).1; have := (h35).2; have := (h47).1; have := (h47).2; have := (h107).1; have := (h107).2; have := (h81).1; have := (h81).2; omega
                    exact ih_52 x106 x97 x50 x109 M98 R99 J100 H locs _ h105 h95 h_x50 (iv_mono h107 (by decide) (by decide)) hm110 hS (lv_sub hl [1, 3, 2, 0, 5, 6, 7, 8] rfl)
                  · have q111 : x50.toInt < x97.toInt := ti_nle c103
                    have h112 : iv 1 2147483647 x97 := iv_gtL (y := x50) h95 h_x50 q111 (by decide)
                    have h113 : iv 0 2147483646 x50 := iv_ltL (y := x97) h_x50 h95 q111 (by decide)
                    refine lv_iload hx hb dX12_fits_101 (lv_at hl 1 rfl) ?_
                    refine lv_goto (tgt := 108) hx hb dX12_fits_103 (by decide) ?_
                    refine lv_istore (lv' := [(6, .int x97), (5, .int x97), (8, .int x97), (4, .int x48), (7, .int x51), (0, .ref (base + a0)), (1, .int a1), (2, .int a2), (3, .int a3)]) hx hb dX12_fits_108 hl (by decide) rfl (fun ls hl => ?_)
                    refine tw_iincw (lv' := fun x115 => [(4, .int x115), (6, .int x97), (5, .int x97), (8, .int x97), (7, .int x51), (0, .ref (base + a0)), (1, .int a1), (2, .int a2), (3, .int a3)]) hx hb dX12_fits_110 hl (k := 3) rfl (by decide) (fun _ => rfl) (fun x115 ls hl => ?_)
                    have h114 := iv_any x115
                    refine tw_iinc (lv' := fun x118 => [(7, .int x118), (4, .int x115), (6, .int x97), (5, .int x97), (8, .int x97), (0, .ref (base + a0)), (1, .int a1), (2, .int a2), (3, .int a3)]) (lo := 1) (hi := 2147483647) hx hb dX12_fits_113 hl (k := 4) rfl h81 (by decide) ⟨by decide, by decide⟩ ⟨by decide, by decide⟩ (by decide) (fun _ => rfl) (fun x118 ls e117 h116 hl => ?_)
                    refine lv_goto (tgt := 42) hx hb dX12_fits_116 (by decide) ?_
                    have hm119 : 2147483647 - x118.toInt < (n_52 : Int) := by
                      have := (h21).1; have := (h21).2; have := (h35).1; have := (h35).2; have := (h47).1; have := (h47).2; have := (h116).1; have := (h116).2; have := (h81).1; have := (h81).2; omega
                    exact ih_52 x115 x97 x97 x118 M98 R99 J100 H locs _ h114 (iv_mono h112 (by decide) (by decide)) (iv_mono h112 (by decide) (by decide)) (iv_mono h116 (by decide) (by decide)) hm119 hS (lv_sub hl [1, 3, 2, 0, 5, 6, 7, 8] rfl)
                refine lv_if_eq (tgt := 85) hx hb dX12_fits_75 (by decide) (fun c120 => ?_) (fun c120 => ?_)
                · have q121 : x48.toInt = 0 := ti_eq c120
                  have h122 : iv 0 0 x48 := ⟨by have := (h_x48).1; have := ((iv_c (c := 0) (n := 0) (by decide))).1; omega, by have := (h_x48).2; have := ((iv_c (c := 0) (n := 0) (by decide))).2; omega⟩
                  exact J85_98  M86 R53 J85 H locs _  hS hl
                · have q123 : ¬ x48.toInt = 0 := ti_ne c120
                  refine lv_iload hx hb dX12_fits_78 (lv_at hl 0 rfl) ?_
                  refine lv_iload hx hb dX12_fits_80 (lv_at hl 2 rfl) ?_
                  refine lv_icmp_ge (tgt := 90) hx hb dX12_fits_82 (by decide) (fun c124 => ?_) (fun c124 => ?_)
                  · have q125 : x49.toInt ≤ x97.toInt := ti_le c124
                    refine lv_iload hx hb dX12_fits_90 (lv_at hl 2 rfl) ?_
                    refine lv_istore (lv' := [(5, .int x49), (8, .int x97), (4, .int x48), (6, .int x50), (7, .int x51), (0, .ref (base + a0)), (1, .int a1), (2, .int a2), (3, .int a3)]) hx hb dX12_fits_92 hl (by decide) rfl (fun ls hl => ?_)
                    refine lv_iload hx hb dX12_fits_94 (lv_at hl 1 rfl) ?_
                    refine lv_iload hx hb dX12_fits_96 (lv_at hl 3 rfl) ?_
                    refine lv_icmp_le (tgt := 106) hx hb dX12_fits_98 (by decide) (fun c126 => ?_) (fun c126 => ?_)
                    · have q127 : x97.toInt ≤ x50.toInt := ti_le c126
                      refine lv_iload hx hb dX12_fits_106 (lv_at hl 3 rfl) ?_
                      refine lv_istore (lv' := [(6, .int x50), (5, .int x49), (8, .int x97), (4, .int x48), (7, .int x51), (0, .ref (base + a0)), (1, .int a1), (2, .int a2), (3, .int a3)]) hx hb dX12_fits_108 hl (by decide) rfl (fun ls hl => ?_)
                      refine tw_iincw (lv' := fun x129 => [(4, .int x129), (6, .int x50), (5, .int x49), (8, .int x97), (7, .int x51), (0, .ref (base + a0)), (1, .int a1), (2, .int a2), (3, .int a3)]) hx hb dX12_fits_110 hl (k := 3) rfl (by decide) (fun _ => rfl) (fun x129 ls hl => ?_)
                      have h128 := iv_any x129
                      refine tw_iinc (lv' := fun x132 => [(7, .int x132), (4, .int x129), (6, .int x50), (5, .int x49), (8, .int x97), (0, .ref (base + a0)), (1, .int a1), (2, .int a2), (3, .int a3)]) (lo := 1) (hi := 2147483647) hx hb dX12_fits_113 hl (k := 4) rfl h81 (by decide) ⟨by decide, by decide⟩ ⟨by decide, by decide⟩ (by decide) (fun _ => rfl) (fun x132 ls e131 h130 hl => ?_)
                      refine lv_goto (tgt := 42) hx hb dX12_fits_116 (by decide) ?_
                      have hm133 : 2147483647 - x132.toInt < (n_52 : Int) := by
                        have := (h21).1; have := (h21).2; have := (h35).1; have := (h35).2; have := (h47).1; have := (h47).2; have := (h130).1; have := (h130).2; have := (h81).1; have := (h81).2; omega
                      exact ih_52 x129 x49 x50 x132 M86 R53 J85 H locs _ h128 h_x49 h_x50 (iv_mono h130 (by decide) (by decide)) hm133 hS (lv_sub hl [1, 3, 2, 0, 5, 6, 7, 8] rfl)
                    · have q134 : x50.toInt < x97.toInt := ti_nle c126
                      have h135 : iv 1 2147483647 x97 := iv_gtL (y := x50) h95 h_x50 q134 (by decide)
                      have h136 : iv 0 2147483646 x50 := iv_ltL (y := x97) h_x50 h95 q134 (by decide)
                      refine lv_iload hx hb dX12_fits_101 (lv_at hl 1 rfl) ?_
                      refine lv_goto (tgt := 108) hx hb dX12_fits_103 (by decide) ?_
                      refine lv_istore (lv' := [(6, .int x97), (5, .int x49), (8, .int x97), (4, .int x48), (7, .int x51), (0, .ref (base + a0)), (1, .int a1), (2, .int a2), (3, .int a3)]) hx hb dX12_fits_108 hl (by decide) rfl (fun ls hl => ?_)
                      refine tw_iincw (lv' := fun x138 => [(4, .int x138), (6, .int x97), (5, .int x49), (8, .int x97), (7, .int x51), (0, .ref (base + a0)), (1, .int a1), (2, .int a2), (3, .int a3)]) hx hb dX12_fits_110 hl (k := 3) rfl (by decide) (fun _ => rfl) (fun x138 ls hl => ?_)
                      have h137 := iv_any x138
                      refine tw_iinc (lv' := fun x141 => [(7, .int x141), (4, .int x138), (6, .int x97), (5, .int x49), (8, .int x97), (0, .ref (base + a0)), (1, .int a1), (2, .int a2), (3, .int a3)]) (lo := 1) (hi := 2147483647) hx hb dX12_fits_113 hl (k := 4) rfl h81 (by decide) ⟨by decide, by decide⟩ ⟨by decide, by decide⟩ (by decide) (fun _ => rfl) (fun x141 ls e140 h139 hl => ?_)
                      refine lv_goto (tgt := 42) hx hb dX12_fits_116 (by decide) ?_
                      have hm142 : 2147483647 - x141.toInt < (n_52 : Int) := by
                        have := (h21).1; have := (h21).2; have := (h35).1; have := (h35).2; have := (h47).1; have := (h47).2; have := (h139).1; have := (h139).2; have := (h81).1; have := (h81).2; omega
                      exact ih_52 x138 x49 x97 x141 M86 R53 J85 H locs _ h137 h_x49 (iv_mono h135 (by decide) (by decide)) (iv_mono h139 (by decide) (by decide)) hm142 hS (lv_sub hl [1, 3, 2, 0, 5, 6, 7, 8] rfl)
                  · have q143 : x97.toInt < x49.toInt := ti_nle c124
                    have h144 : iv (-2147483648) 2147483646 x97 := iv_ltL (y := x49) h95 h_x49 q143 (by decide)
                    have h145 : iv (-2147483647) 2147483647 x49 := iv_gtL (y := x97) h_x49 h95 q143 (by decide)
                    exact J85_98  M86 R53 J85 H locs _  hS hl
              · have q146 : x89.toInt = 0 := ti_eq c90
                have h147 : iv 0 0 x89 := ⟨by have := (h_x89).1; have := ((iv_c (c := 0) (n := 0) (by decide))).1; omega, by have := (h_x89).2; have := ((iv_c (c := 0) (n := 0) (by decide))).2; omega⟩
                refine lv_goto (tgt := 113) hx hb dX12_fits_62 (by decide) ?_
                refine tw_iinc (lv' := fun x150 => [(7, .int x150), (4, .int x48), (5, .int x49), (6, .int x50), (0, .ref (base + a0)), (1, .int a1), (2, .int a2), (3, .int a3)]) (lo := 1) (hi := 2147483647) hx hb dX12_fits_113 hl (k := 3) rfl h81 (by decide) ⟨by decide, by decide⟩ ⟨by decide, by decide⟩ (by decide) (fun _ => rfl) (fun x150 ls e149 h148 hl => ?_)
                refine lv_goto (tgt := 42) hx hb dX12_fits_116 (by decide) ?_
                have hm151 : 2147483647 - x150.toInt < (n_52 : Int) := by
                  have := (h21).1; have := (h21).2; have := (h35).1; have := (h35).2; have := (h47).1; have := (h47).2; have := (h148).1; have := (h148).2; have := (h81).1; have := (h81).2; omega
                exact ih_52 x48 x49 x50 x150 M86 R53 J85 H locs _ h_x48 h_x49 h_x50 (iv_mono h148 (by decide) (by decide)) hm151 hS (lv_sub hl [1, 2, 3, 0, 4, 5, 6, 7] rfl)
        have hm152 : 2147483647 - (0 : Int32).toInt < (((2147483648 : Nat) : Int) : Int) := by
          have := (h21).1; have := (h21).2; have := (h35).1; have := (h35).2; have := (h47).1; have := (h47).2; have : (0 : Int32).toInt = 0 := (by decide); omega
        exact W42_52 2147483648 0 0 0 0 Ma Ra J38 H locs _ (iv_mono (iv_c (c := 0) (n := 0) (by decide)) (by decide) (by decide)) (iv_mono (iv_c (c := 0) (n := 0) (by decide)) (by decide) (by decide)) (iv_mono (iv_c (c := 0) (n := 0) (by decide)) (by decide) (by decide)) (iv_mono (iv_c (c := 0) (n := 0) (by decide)) (by decide) (by decide)) hm152 hS (lv_sub hl [3, 2, 1, 0, 4, 5, 6, 7] rfl)
      · have q153 : x42.toInt = 0 := ti_eq c44
        have h154 : iv 0 0 x42 := ⟨by have := (h_x42).1; have := ((iv_c (c := 0) (n := 0) (by decide))).1; omega, by have := (h_x42).2; have := ((iv_c (c := 0) (n := 0) (by decide))).2; omega⟩
        refine lv_iconst (v := (-1)) hx hb dX12_fits_28 (by decide) ?_
        exact tw_endi hx hb hr hlocks hK hT hS hQ ((iv_mono (iv_c (c := (-1)) (n := (-1)) (by decide)) (by decide) (by decide))) dX12_fits_29
def Lt_X12_gainOf : WL := []
def LRt_X12_gainOf : WL := []
set_option maxRecDepth 100000 in
set_option maxHeartbeats 4000000 in
theorem t_X12_gainOf (l : Launch) (D : va_G) (cy : Nat → ClassId) (tx : (Nat → Nat) × (Nat → Nat)) (base Z : Nat) (K N : Nat → Nat) (Ma : MT) (Ra : RT) (Ja : JT) (hTy : Ty Z K N Ma Ra) (a0 : Nat) (hz_a0 : a0 < Z) (hk_a0 : K a0 = 12) (a1 : Int32) (h_a1 : iv (-2147483648) 2147483647 a1) (a2 : Int32) (h_a2 : iv 0 11 a2) : Met l yX12_gainOf [Cond.code yX12_gainOf cX12_gainOf 5 (some .int)] (md_rm 2 0 0) (va_Pc [.ref (base + a0), .int a1, .int a2] (md_U D cy tx base Z K N Ma Ra Ja)) (mQi D cy tx base (fun r u => TP Z K N Lt_X12_gainOf LRt_X12_gainOf Ma Ra u ∧ (iv (-2147483648) 2147483647 r))) 0 0 (fun q => base ≤ q) := by
  refine tw_ofW (L := Lt_X12_gainOf) (LR := LRt_X12_gainOf) (by decide) (Nat.le_of_ble_eq_true rfl) hTy ?_
  intro p e s m args below meth c Q ls hx hb hr hlocks hown hml hW hK hT hS hQ hl
  have hl : lv_has ls 5 [(0, .ref (base + a0)), (1, .int a1), (2, .int a2)] := hl
  refine lv_iconst (v := 0) hx hb dX12_gainOf_0 (by decide) ?_
  refine lv_istore_n (lv' := [(3, .int 0), (0, .ref (base + a0)), (1, .int a1), (2, .int a2)]) hx hb dX12_gainOf_1 rfl hl (by decide) rfl (fun ls hl => ?_)
  refine lv_iconst (v := 0) hx hb dX12_gainOf_2 (by decide) ?_
  refine lv_istore (lv' := [(4, .int 0), (3, .int 0), (0, .ref (base + a0)), (1, .int a1), (2, .int a2)]) hx hb dX12_gainOf_3 hl (by decide) rfl (fun ls hl => ?_)
  have W5_3 : ∀ (n_3 : Nat) (x1 : Int32) (x2 : Int32) (M3 : MT) (R4 : RT) (J5 : JT) (H : Heap) (locs : List Loc) (ls : Array Slot) (h_x1 : iv (-2147483648) 2147483647 x1) (h_x2 : iv 0 10 x2) (hm_3 : 10 - x2.toInt < (n_3 : Int)) (hS : SB D cy base Z K N Lt_X12_gainOf LRt_X12_gainOf Ma Ra M3 R4 J5 s H locs) (hl : lv_has ls 5 [(3, .int x1), (4, .int x2), (0, .ref (base + a0)), (1, .int a1), (2, .int a2)]), W p l e (md_rm 2 0 0) s m args below meth c H locs 0 0 Q (F0 m 5 ls []) := by
    intro n_3
    induction n_3 with
    | zero =>
      intro x1 x2 M3 R4 J5 H locs ls h_x1 h_x2 hm_3 hS hl
      exfalso
      have := (h_a1).1; have := (h_a1).2; have := (h_a2).1; have := (h_a2).2; have := (h_x2).1; have := (h_x2).2; omega
    | succ n_3 ih_3 =>
      intro x1 x2 M3 R4 J5 H locs ls h_x1 h_x2 hm_3 hS hl
      have f6 := hS.2.2.1
      have g7 := hS.2.2.2
      refine lv_iload hx hb dX12_gainOf_5 (lv_at hl 1 rfl) ?_
      refine lv_aload_n hx hb dX12_gainOf_7 rfl (lv_at hl 2 rfl) ?_
      refine tw_getr hx hb hW hown hK hS f_X12_45_11 hz_a0 hk_a0 (t := 23) (n := 226) rfl dX12_gainOf_8 (fun b8 k9 hz_b8 hk_b8 hn_b8 => ?_)
      have hn_b8 := hn_b8 (by decide)
      refine lv_iconst (v := 0) hx hb dX12_gainOf_11 (by decide) ?_
      refine tw_iald hx hb hK hS hz_b8 hk_b8 (Or.inr (by decide)) hn_b8 (lo := 0) (hi := 10) (iv_c (c := 0) (n := 0) (by decide)) ⟨by decide, by decide⟩ (rg_c (k0 := 0) rfl rfl rfl) dX12_gainOf_12 (fun x12 k11 h10 => ?_)
      refine lv_icmp_ge (tgt := 45) hx hb dX12_gainOf_13 (by decide) (fun c13 => ?_) (fun c13 => ?_)
      · have q14 : x12.toInt ≤ x2.toInt := ti_le c13
        refine lv_iload_n hx hb dX12_gainOf_45 rfl (lv_at hl 0 rfl) ?_
        exact tw_endi hx hb hr hlocks hK hT hS hQ (h_x1) dX12_gainOf_46
      · have q15 : x2.toInt < x12.toInt := ti_nle c13
        have h16 : iv 0 9 x2 := iv_ltL (y := x12) h_x2 h10 q15 (by decide)
        have h17 : iv 1 10 x12 := iv_gtL (y := x2) h10 h_x2 q15 (by decide)
        refine lv_iload_n hx hb dX12_gainOf_16 rfl (lv_at hl 0 rfl) ?_
        refine lv_iload_n hx hb dX12_gainOf_17 rfl (lv_at hl 3 rfl) ?_
        refine lv_iload hx hb dX12_gainOf_18 (lv_at hl 1 rfl) ?_
        refine tw_goi hS (md_runS (As := [.int a1, .int x2]) (rest := [.int x1]) hx hb hml hown hW hK hT hS.1 (t_X12_isOf l D cy tx base Z K N M3 R4 J5 hS.2.1 a1 h_a1 x2 h16) s_X12_322 ⟨rfl, rfl, ⟨Nat.le_of_ble_eq_true rfl, Nat.le_of_ble_eq_true rfl⟩, ⟨Nat.le_of_ble_eq_true rfl, Nat.le_of_ble_eq_true rfl⟩⟩ rfl hl.1 rfl (Nat.le_of_ble_eq_true rfl) dX12_gainOf_20) rfl rfl (fun x24 H locs M21 R22 J20 hS f18 g19 E23 => ?_)
        have eM21 := Fr.nil f18 rfl
        subst eM21
        have eR22 := Fr.nil g19 rfl
        subst eR22
        have h_x24 := E23
        refine lv_if_eq (tgt := 36) hx hb dX12_gainOf_23 (by decide) (fun c25 => ?_) (fun c25 => ?_)
        · have q26 : x24.toInt = 0 := ti_eq c25
          have h27 : iv 0 0 x24 := ⟨by have := (h_x24).1; have := ((iv_c (c := 0) (n := 0) (by decide))).1; omega, by have := (h_x24).2; have := ((iv_c (c := 0) (n := 0) (by decide))).2; omega⟩
          refine lv_iconst (v := 0) hx hb dX12_gainOf_36 (by decide) ?_
          refine tw_iadd (lo := (-2147483648)) (hi := 2147483647) hx hb h_x1 (iv_c (c := 0) (n := 0) (by decide)) ⟨by decide, by decide⟩ ⟨by decide, by decide⟩ dX12_gainOf_37 (fun x30 e29 h28 => ?_)
          have e29 : x30.toInt = x1.toInt + 0 := e29
          refine lv_istore_n (lv' := [(3, .int x30), (4, .int x2), (0, .ref (base + a0)), (1, .int a1), (2, .int a2)]) hx hb dX12_gainOf_38 rfl hl (by decide) rfl (fun ls hl => ?_)
          refine tw_iinc (lv' := fun x33 => [(4, .int x33), (3, .int x30), (0, .ref (base + a0)), (1, .int a1), (2, .int a2)]) (lo := 1) (hi := 10) hx hb dX12_gainOf_39 hl (k := 1) rfl h16 (by decide) ⟨by decide, by decide⟩ ⟨by decide, by decide⟩ (by decide) (fun _ => rfl) (fun x33 ls e32 h31 hl => ?_)
          refine lv_goto (tgt := 5) hx hb dX12_gainOf_42 (by decide) ?_
          have hm34 : 10 - x33.toInt < (n_3 : Int) := by
            have := (h_a1).1; have := (h_a1).2; have := (h_a2).1; have := (h_a2).2; have := (h16).1; have := (h16).2; have := (h31).1; have := (h31).2; omega
          exact ih_3 x30 x33 M3 R4 J20 H locs _ h28 (iv_mono h31 (by decide) (by decide)) hm34 hS (lv_sub hl [1, 0, 2, 3, 4] rfl)
        · have q35 : ¬ x24.toInt = 0 := ti_ne c25
          have h36 : iv 1 1 x24 := ⟨by have := (h_x24).1; have := ((iv_c (c := 0) (n := 0) (by decide))).1; have := ((iv_c (c := 0) (n := 0) (by decide))).2; omega, by have := (h_x24).2; have := ((iv_c (c := 0) (n := 0) (by decide))).1; have := ((iv_c (c := 0) (n := 0) (by decide))).2; omega⟩
          refine lv_aload_n hx hb dX12_gainOf_26 rfl (lv_at hl 2 rfl) ?_
          refine lv_iload hx hb dX12_gainOf_27 (lv_at hl 1 rfl) ?_
          refine lv_iload_n hx hb dX12_gainOf_29 rfl (lv_at hl 4 rfl) ?_
          refine tw_goi hS (md_runV (As := [.int x2, .int a2]) (rest := [.int x1]) hx hb hml hown hW hK hT hS.1 (t_X12_worthOf l D cy tx base Z K N M3 R4 J20 hS.2.1 a0 hz_a0 hk_a0 x2 h16 a2 h_a2) s_X12_330 ⟨rfl, rfl, ⟨Nat.le_of_ble_eq_true rfl, Nat.le_of_ble_eq_true rfl⟩, ⟨Nat.le_of_ble_eq_true rfl, Nat.le_of_ble_eq_true rfl⟩⟩ hz_a0 hk_a0 (by decide) rfl rfl hl.1 rfl (Nat.le_of_ble_eq_true rfl) dX12_gainOf_30) rfl rfl (fun x43 H locs M40 R41 J39 hS f37 g38 E42 => ?_)
          have eM40 := Fr.nil f37 rfl
          subst eM40
          have eR41 := Fr.nil g38 rfl
          subst eR41
          have h_x43 := E42
          refine lv_goto (tgt := 37) hx hb dX12_gainOf_33 (by decide) ?_
          refine lv_iadd hx hb dX12_gainOf_37 ?_
          refine tw_top (fun x45 => ?_)
          have h44 := iv_any x45
          refine lv_istore_n (lv' := [(3, .int x45), (4, .int x2), (0, .ref (base + a0)), (1, .int a1), (2, .int a2)]) hx hb dX12_gainOf_38 rfl hl (by decide) rfl (fun ls hl => ?_)
          refine tw_iinc (lv' := fun x48 => [(4, .int x48), (3, .int x45), (0, .ref (base + a0)), (1, .int a1), (2, .int a2)]) (lo := 1) (hi := 10) hx hb dX12_gainOf_39 hl (k := 1) rfl h16 (by decide) ⟨by decide, by decide⟩ ⟨by decide, by decide⟩ (by decide) (fun _ => rfl) (fun x48 ls e47 h46 hl => ?_)
          refine lv_goto (tgt := 5) hx hb dX12_gainOf_42 (by decide) ?_
          have hm49 : 10 - x48.toInt < (n_3 : Int) := by
            have := (h_a1).1; have := (h_a1).2; have := (h_a2).1; have := (h_a2).2; have := (h16).1; have := (h16).2; have := (h46).1; have := (h46).2; omega
          exact ih_3 x45 x48 M3 R4 J39 H locs _ h44 (iv_mono h46 (by decide) (by decide)) hm49 hS (lv_sub hl [1, 0, 2, 3, 4] rfl)
  have hm50 : 10 - (0 : Int32).toInt < (((11 : Nat) : Int) : Int) := by
    have := (h_a1).1; have := (h_a1).2; have := (h_a2).1; have := (h_a2).2; have : (0 : Int32).toInt = 0 := (by decide); omega
  exact W5_3 11 0 0 Ma Ra Ja s.heap [] _ (iv_mono (iv_c (c := 0) (n := 0) (by decide)) (by decide) (by decide)) (iv_mono (iv_c (c := 0) (n := 0) (by decide)) (by decide) (by decide)) hm50 hS (lv_sub hl [1, 0, 2, 3, 4] rfl)
def Lt_X12_putsSide : WL := [(12, 31, 33)]
def LRt_X12_putsSide : WL := []
set_option maxRecDepth 100000 in
set_option maxHeartbeats 4000000 in
theorem t_X12_putsSide (l : Launch) (D : va_G) (cy : Nat → ClassId) (tx : (Nat → Nat) × (Nat → Nat)) (base Z : Nat) (K N : Nat → Nat) (Ma : MT) (Ra : RT) (Ja : JT) (hTy : Ty Z K N Ma Ra) (a0 : Nat) (hz_a0 : a0 < Z) (hk_a0 : K a0 = 12) (a1 : Int32) (h_a1 : iv (-2147483648) 2147483647 a1) (a2 : Int32) (h_a2 : iv 0 2 a2) : Met l yX12_putsSide [Cond.code yX12_putsSide cX12_putsSide 4 none] (md_rm 2 0 0) (va_Pc [.ref (base + a0), .int a1, .int a2] (md_U D cy tx base Z K N Ma Ra Ja)) (mQv D cy tx base (fun u => TP Z K N Lt_X12_putsSide LRt_X12_putsSide Ma Ra u ∧ (True))) 0 0 (fun q => base ≤ q) := by
  refine tw_ofW (L := Lt_X12_putsSide) (LR := LRt_X12_putsSide) (by decide) (Nat.le_of_ble_eq_true rfl) hTy ?_
  intro p e s m args below meth c Q ls hx hb hr hlocks hown hml hW hK hT hS hQ hl
  have hl : lv_has ls 4 [(0, .ref (base + a0)), (1, .int a1), (2, .int a2)] := hl
  refine lv_iconst (v := 0) hx hb dX12_putsSide_0 (by decide) ?_
  refine lv_istore_n (lv' := [(3, .int 0), (0, .ref (base + a0)), (1, .int a1), (2, .int a2)]) hx hb dX12_putsSide_1 rfl hl (by decide) rfl (fun ls hl => ?_)
  have W2_2 : ∀ (n_2 : Nat) (x1 : Int32) (M2 : MT) (R3 : RT) (J4 : JT) (H : Heap) (locs : List Loc) (ls : Array Slot) (h_x1 : iv 0 10 x1) (hm_2 : 10 - x1.toInt < (n_2 : Int)) (hS : SB D cy base Z K N Lt_X12_putsSide LRt_X12_putsSide Ma Ra M2 R3 J4 s H locs) (hl : lv_has ls 4 [(3, .int x1), (0, .ref (base + a0)), (1, .int a1), (2, .int a2)]), W p l e (md_rm 2 0 0) s m args below meth c H locs 0 0 Q (F0 m 2 ls []) := by
    intro n_2
    induction n_2 with
    | zero =>
      intro x1 M2 R3 J4 H locs ls h_x1 hm_2 hS hl
      exfalso
      have := (h_a1).1; have := (h_a1).2; have := (h_a2).1; have := (h_a2).2; have := (h_x1).1; have := (h_x1).2; omega
    | succ n_2 ih_2 =>
      intro x1 M2 R3 J4 H locs ls h_x1 hm_2 hS hl
      have f5 := hS.2.2.1
      have g6 := hS.2.2.2
      refine lv_iload_n hx hb dX12_putsSide_2 rfl (lv_at hl 0 rfl) ?_
      refine lv_aload_n hx hb dX12_putsSide_3 rfl (lv_at hl 1 rfl) ?_
      refine tw_getr hx hb hW hown hK hS f_X12_45_11 hz_a0 hk_a0 (t := 23) (n := 226) rfl dX12_putsSide_4 (fun b7 k8 hz_b7 hk_b7 hn_b7 => ?_)
      have hn_b7 := hn_b7 (by decide)
      refine lv_iconst (v := 0) hx hb dX12_putsSide_7 (by decide) ?_
      refine tw_iald hx hb hK hS hz_b7 hk_b7 (Or.inr (by decide)) hn_b7 (lo := 0) (hi := 10) (iv_c (c := 0) (n := 0) (by decide)) ⟨by decide, by decide⟩ (rg_c (k0 := 0) rfl rfl rfl) dX12_putsSide_8 (fun x11 k10 h9 => ?_)
      refine lv_icmp_ge (tgt := 49) hx hb dX12_putsSide_9 (by decide) (fun c12 => ?_) (fun c12 => ?_)
      · have q13 : x11.toInt ≤ x1.toInt := ti_le c12
        exact tw_endv hx hb hr hlocks hK hT hS hQ (trivial) dX12_putsSide_49
      · have q14 : x1.toInt < x11.toInt := ti_nle c12
        have h15 : iv 0 9 x1 := iv_ltL (y := x11) h_x1 h9 q14 (by decide)
        have h16 : iv 1 10 x11 := iv_gtL (y := x1) h9 h_x1 q14 (by decide)
        refine lv_iload_n hx hb dX12_putsSide_12 rfl (lv_at hl 2 rfl) ?_
        refine lv_iload_n hx hb dX12_putsSide_13 rfl (lv_at hl 0 rfl) ?_
        refine tw_goi hS (md_runS (As := [.int a1, .int x1]) (rest := []) hx hb hml hown hW hK hT hS.1 (t_X12_isOf l D cy tx base Z K N M2 R3 J4 hS.2.1 a1 h_a1 x1 h15) s_X12_322 ⟨rfl, rfl, ⟨Nat.le_of_ble_eq_true rfl, Nat.le_of_ble_eq_true rfl⟩, ⟨Nat.le_of_ble_eq_true rfl, Nat.le_of_ble_eq_true rfl⟩⟩ rfl hl.1 rfl (Nat.le_of_ble_eq_true rfl) dX12_putsSide_14) rfl rfl (fun x23 H locs M20 R21 J19 hS f17 g18 E22 => ?_)
        have eM20 := Fr.nil f17 rfl
        subst eM20
        have eR21 := Fr.nil g18 rfl
        subst eR21
        have h_x23 := E22
        refine lv_if_eq (tgt := 43) hx hb dX12_putsSide_17 (by decide) (fun c24 => ?_) (fun c24 => ?_)
        · have q25 : x23.toInt = 0 := ti_eq c24
          have h26 : iv 0 0 x23 := ⟨by have := (h_x23).1; have := ((iv_c (c := 0) (n := 0) (by decide))).1; omega, by have := (h_x23).2; have := ((iv_c (c := 0) (n := 0) (by decide))).2; omega⟩
          refine tw_iinc (lv' := fun x29 => [(3, .int x29), (0, .ref (base + a0)), (1, .int a1), (2, .int a2)]) (lo := 1) (hi := 10) hx hb dX12_putsSide_43 hl (k := 0) rfl h15 (by decide) ⟨by decide, by decide⟩ ⟨by decide, by decide⟩ (by decide) (fun _ => rfl) (fun x29 ls e28 h27 hl => ?_)
          refine lv_goto (tgt := 2) hx hb dX12_putsSide_46 (by decide) ?_
          have hm30 : 10 - x29.toInt < (n_2 : Int) := by
            have := (h_a1).1; have := (h_a1).2; have := (h_a2).1; have := (h_a2).2; have := (h15).1; have := (h15).2; have := (h27).1; have := (h27).2; omega
          exact ih_2 x29 M2 R3 J19 H locs _ (iv_mono h27 (by decide) (by decide)) hm30 hS hl
        · have q31 : ¬ x23.toInt = 0 := ti_ne c24
          have h32 : iv 1 1 x23 := ⟨by have := (h_x23).1; have := ((iv_c (c := 0) (n := 0) (by decide))).1; have := ((iv_c (c := 0) (n := 0) (by decide))).2; omega, by have := (h_x23).2; have := ((iv_c (c := 0) (n := 0) (by decide))).1; have := ((iv_c (c := 0) (n := 0) (by decide))).2; omega⟩
          refine lv_aload_n hx hb dX12_putsSide_20 rfl (lv_at hl 1 rfl) ?_
          refine lv_iload_n hx hb dX12_putsSide_21 rfl (lv_at hl 0 rfl) ?_
          refine lv_iload_n hx hb dX12_putsSide_22 rfl (lv_at hl 3 rfl) ?_
          refine lv_if_ne (tgt := 30) hx hb dX12_putsSide_23 (by decide) (fun c33 => ?_) (fun c33 => ?_)
          · have q34 : ¬ a2.toInt = 0 := ti_ne c33
            have h35 : iv 1 2 a2 := ⟨by have := (h_a2).1; have := ((iv_c (c := 0) (n := 0) (by decide))).1; have := ((iv_c (c := 0) (n := 0) (by decide))).2; omega, by have := (h_a2).2; have := ((iv_c (c := 0) (n := 0) (by decide))).1; have := ((iv_c (c := 0) (n := 0) (by decide))).2; omega⟩
            refine lv_iload_n hx hb dX12_putsSide_30 rfl (lv_at hl 3 rfl) ?_
            refine lv_iconst (v := 1) hx hb dX12_putsSide_31 (by decide) ?_
            refine lv_icmp_ne (tgt := 39) hx hb dX12_putsSide_32 (by decide) (fun c36 => ?_) (fun c36 => ?_)
            · have q37 : ¬ a2.toInt = 1 := ti_ne c36
              have h38 : iv 2 2 a2 := ⟨by have := (h35).1; have := ((iv_c (c := 1) (n := 1) (by decide))).1; have := ((iv_c (c := 1) (n := 1) (by decide))).2; omega, by have := (h35).2; have := ((iv_c (c := 1) (n := 1) (by decide))).1; have := ((iv_c (c := 1) (n := 1) (by decide))).2; omega⟩
              refine lv_iconst (v := 2) hx hb dX12_putsSide_39 (by decide) ?_
              refine tw_gov hS (md_runV (As := [.int x1, .int 2]) (rest := []) hx hb hml hown hW hK hT hS.1 (t_X12_sets l D cy tx base Z K N M2 R3 J19 hS.2.1 a0 hz_a0 hk_a0 x1 h15 2 (iv_mono (iv_c (c := 2) (n := 2) (by decide)) (by decide) (by decide))) s_X12_377 ⟨rfl, rfl, ⟨Nat.le_of_ble_eq_true rfl, Nat.le_of_ble_eq_true rfl⟩, ⟨Nat.le_of_ble_eq_true rfl, Nat.le_of_ble_eq_true rfl⟩⟩ hz_a0 hk_a0 (by decide) rfl rfl hl.1 rfl (Nat.le_of_ble_eq_true rfl) dX12_putsSide_40) rfl rfl (fun H locs M42 R43 J41 hS f39 g40 E44 => ?_)
              have eR43 := Fr.nil g40 rfl
              subst eR43
              refine tw_iinc (lv' := fun x47 => [(3, .int x47), (0, .ref (base + a0)), (1, .int a1), (2, .int a2)]) (lo := 1) (hi := 10) hx hb dX12_putsSide_43 hl (k := 0) rfl h15 (by decide) ⟨by decide, by decide⟩ ⟨by decide, by decide⟩ (by decide) (fun _ => rfl) (fun x47 ls e46 h45 hl => ?_)
              refine lv_goto (tgt := 2) hx hb dX12_putsSide_46 (by decide) ?_
              have hm48 : 10 - x47.toInt < (n_2 : Int) := by
                have := (h_a1).1; have := (h_a1).2; have := (h38).1; have := (h38).2; have := (h15).1; have := (h15).2; have := (h45).1; have := (h45).2; omega
              exact ih_2 x47 M42 R3 J41 H locs _ (iv_mono h45 (by decide) (by decide)) hm48 hS hl
            · have q49 : a2.toInt = 1 := ti_eq c36
              have h50 : iv 1 1 a2 := ⟨by have := (h35).1; have := ((iv_c (c := 1) (n := 1) (by decide))).1; omega, by have := (h35).2; have := ((iv_c (c := 1) (n := 1) (by decide))).2; omega⟩
              refine lv_iconst (v := 0) hx hb dX12_putsSide_35 (by decide) ?_
              refine lv_goto (tgt := 40) hx hb dX12_putsSide_36 (by decide) ?_
              refine tw_gov hS (md_runV (As := [.int x1, .int 0]) (rest := []) hx hb hml hown hW hK hT hS.1 (t_X12_sets l D cy tx base Z K N M2 R3 J19 hS.2.1 a0 hz_a0 hk_a0 x1 h15 0 (iv_mono (iv_c (c := 0) (n := 0) (by decide)) (by decide) (by decide))) s_X12_377 ⟨rfl, rfl, ⟨Nat.le_of_ble_eq_true rfl, Nat.le_of_ble_eq_true rfl⟩, ⟨Nat.le_of_ble_eq_true rfl, Nat.le_of_ble_eq_true rfl⟩⟩ hz_a0 hk_a0 (by decide) rfl rfl hl.1 rfl (Nat.le_of_ble_eq_true rfl) dX12_putsSide_40) rfl rfl (fun H locs M54 R55 J53 hS f51 g52 E56 => ?_)
              have eR55 := Fr.nil g52 rfl
              subst eR55
              refine tw_iinc (lv' := fun x59 => [(3, .int x59), (0, .ref (base + a0)), (1, .int a1), (2, .int a2)]) (lo := 1) (hi := 10) hx hb dX12_putsSide_43 hl (k := 0) rfl h15 (by decide) ⟨by decide, by decide⟩ ⟨by decide, by decide⟩ (by decide) (fun _ => rfl) (fun x59 ls e58 h57 hl => ?_)
              refine lv_goto (tgt := 2) hx hb dX12_putsSide_46 (by decide) ?_
              have hm60 : 10 - x59.toInt < (n_2 : Int) := by
                have := (h_a1).1; have := (h_a1).2; have := (h50).1; have := (h50).2; have := (h15).1; have := (h15).2; have := (h57).1; have := (h57).2; omega
              exact ih_2 x59 M54 R3 J53 H locs _ (iv_mono h57 (by decide) (by decide)) hm60 hS hl
          · have q61 : a2.toInt = 0 := ti_eq c33
            have h62 : iv 0 0 a2 := ⟨by have := (h_a2).1; have := ((iv_c (c := 0) (n := 0) (by decide))).1; omega, by have := (h_a2).2; have := ((iv_c (c := 0) (n := 0) (by decide))).2; omega⟩
            refine lv_iconst (v := 1) hx hb dX12_putsSide_26 (by decide) ?_
            refine lv_goto (tgt := 40) hx hb dX12_putsSide_27 (by decide) ?_
            refine tw_gov hS (md_runV (As := [.int x1, .int 1]) (rest := []) hx hb hml hown hW hK hT hS.1 (t_X12_sets l D cy tx base Z K N M2 R3 J19 hS.2.1 a0 hz_a0 hk_a0 x1 h15 1 (iv_mono (iv_c (c := 1) (n := 1) (by decide)) (by decide) (by decide))) s_X12_377 ⟨rfl, rfl, ⟨Nat.le_of_ble_eq_true rfl, Nat.le_of_ble_eq_true rfl⟩, ⟨Nat.le_of_ble_eq_true rfl, Nat.le_of_ble_eq_true rfl⟩⟩ hz_a0 hk_a0 (by decide) rfl rfl hl.1 rfl (Nat.le_of_ble_eq_true rfl) dX12_putsSide_40) rfl rfl (fun H locs M66 R67 J65 hS f63 g64 E68 => ?_)
            have eR67 := Fr.nil g64 rfl
            subst eR67
            refine tw_iinc (lv' := fun x71 => [(3, .int x71), (0, .ref (base + a0)), (1, .int a1), (2, .int a2)]) (lo := 1) (hi := 10) hx hb dX12_putsSide_43 hl (k := 0) rfl h15 (by decide) ⟨by decide, by decide⟩ ⟨by decide, by decide⟩ (by decide) (fun _ => rfl) (fun x71 ls e70 h69 hl => ?_)
            refine lv_goto (tgt := 2) hx hb dX12_putsSide_46 (by decide) ?_
            have hm72 : 10 - x71.toInt < (n_2 : Int) := by
              have := (h_a1).1; have := (h_a1).2; have := (h62).1; have := (h62).2; have := (h15).1; have := (h15).2; have := (h69).1; have := (h69).2; omega
            exact ih_2 x71 M66 R3 J65 H locs _ (iv_mono h69 (by decide) (by decide)) hm72 hS hl
  have hm73 : 10 - (0 : Int32).toInt < (((11 : Nat) : Int) : Int) := by
    have := (h_a1).1; have := (h_a1).2; have := (h_a2).1; have := (h_a2).2; have : (0 : Int32).toInt = 0 := (by decide); omega
  exact W2_2 11 0 Ma Ra Ja s.heap [] _ (iv_mono (iv_c (c := 0) (n := 0) (by decide)) (by decide) (by decide)) hm73 hS hl
def Lt_X12_goes : WL := [(12, 23, 24), (12, 28, 29), (12, 30, 33), (14, 0, 2000000), (30, 0, 2000000), (31, 0, 2000000)]
def LRt_X12_goes : WL := []
set_option maxRecDepth 100000 in
set_option maxHeartbeats 4000000 in
theorem t_X12_goes (l : Launch) (D : va_G) (cy : Nat → ClassId) (tx : (Nat → Nat) × (Nat → Nat)) (base Z : Nat) (K N : Nat → Nat) (Ma : MT) (Ra : RT) (Ja : JT) (hTy : Ty Z K N Ma Ra) (a0 : Nat) (hz_a0 : a0 < Z) (hk_a0 : K a0 = 12) (a1 : Int32) (h_a1 : iv (-2147483648) 2147483647 a1) (a2 : Int32) (h_a2 : iv (-2147483648) 2147483647 a2) (a3 : Int32) (h_a3 : iv 0 6561 a3) (a4 : Int32) (h_a4 : iv 1 6561 a4) (co_a0 : Codes Ma Ra a0) (sd : Nat) (k_sd : Ra a0 25 = some sd) (e4 : Int32) (k_e4 : Ma sd (4 : Int32).toNatClampNeg = e4) (h_e4 : iv 1 4 e4) (hpw : (e4.toInt = 0 ∧ a4.toInt = 1) ∨ (e4.toInt = 1 ∧ a4.toInt = 9) ∨ (e4.toInt = 2 ∧ a4.toInt = 81) ∨ (e4.toInt = 3 ∧ a4.toInt = 729) ∨ (e4.toInt = 4 ∧ a4.toInt = 6561)) : Met l yX12_goes [Cond.code yX12_goes cX12_goes 9 (some .int)] (md_rm 5 0 0) (va_Pc [.ref (base + a0), .int a1, .int a2, .int a3, .int a4] (md_U D cy tx base Z K N Ma Ra Ja)) (mQi D cy tx base (fun r u => TP Z K N Lt_X12_goes LRt_X12_goes Ma Ra u ∧ (iv (-2147483648) 2147483647 r))) 0 0 (fun q => base ≤ q) := by
  refine tw_ofW (L := Lt_X12_goes) (LR := LRt_X12_goes) (by decide) (Nat.le_of_ble_eq_true rfl) hTy ?_
  intro p e s m args below meth c Q ls hx hb hr hlocks hown hml hW hK hT hS hQ hl
  have hl : lv_has ls 9 [(0, .ref (base + a0)), (1, .int a1), (2, .int a2), (3, .int a3), (4, .int a4)] := hl
  obtain ⟨hz_sd, hk_sd, hn_sd⟩ := hTy.refn hz_a0 hk_a0 (show rtR 12 25 = (23, 226, 0) from rfl) k_sd
  have hn_sd := hn_sd (by decide)
  refine lv_aload_n hx hb dX12_goes_0 rfl (lv_at hl 0 rfl) ?_
  refine tw_gov hS (md_runV (As := []) (rest := []) hx hb hml hown hW hK hT hS.1 (t_X12_begins l D cy tx base Z K N Ma Ra Ja hS.2.1 a0 hz_a0 hk_a0 sd k_sd e4 k_e4 (iv_mono h_e4 (by decide) (by decide))) s_X12_393 ⟨rfl, rfl, ⟨Nat.le_of_ble_eq_true rfl, Nat.le_of_ble_eq_true rfl⟩, ⟨Nat.le_of_ble_eq_true rfl, Nat.le_of_ble_eq_true rfl⟩⟩ hz_a0 hk_a0 (by decide) rfl rfl hl.1 rfl (Nat.le_of_ble_eq_true rfl) dX12_goes_1) rfl rfl (fun H locs M4 R5 J3 hS f1 g2 E6 => ?_)
  have eR5 := Fr.nil g2 rfl
  subst eR5
  have p7 := E6
  have k8 : M4 a0 30 = e4 := p7
  refine lv_iconst (v := 0) hx hb dX12_goes_4 (by decide) ?_
  refine lv_istore (lv' := [(5, .int 0), (0, .ref (base + a0)), (1, .int a1), (2, .int a2), (3, .int a3), (4, .int a4)]) hx hb dX12_goes_5 hl (by decide) rfl (fun ls hl => ?_)
  refine lv_iload hx hb dX12_goes_7 (lv_at hl 5 rfl) ?_
  refine lv_bipush (v := 9) hx hb dX12_goes_9 (by decide) ?_
  refine tw_idiv (lo := 0) (hi := 729) hx hb h_a4 (iv_c (c := 9) (n := 9) (by decide)) ⟨by decide, by decide⟩ ⟨by decide, by decide⟩ dX12_goes_11 (fun x11 e10 h9 => ?_)
  have e10 : x11.toInt = a4.toInt / 9 := e10
  refine lv_istore (lv' := [(6, .int x11), (5, .int 0), (0, .ref (base + a0)), (1, .int a1), (2, .int a2), (3, .int a3), (4, .int a4)]) hx hb dX12_goes_12 hl (by decide) rfl (fun ls hl => ?_)
  refine lv_iconst (v := 0) hx hb dX12_goes_14 (by decide) ?_
  refine lv_istore (lv' := [(7, .int 0), (6, .int x11), (5, .int 0), (0, .ref (base + a0)), (1, .int a1), (2, .int a2), (3, .int a3), (4, .int a4)]) hx hb dX12_goes_15 hl (by decide) rfl (fun ls hl => ?_)
  have W17_15 : ∀ (n_15 : Nat) (x12 : Int32) (x13 : Int32) (x14 : Int32) (x20 : Int32) (M15 : MT) (R16 : RT) (J17 : JT) (H : Heap) (locs : List Loc) (ls : Array Slot) (h_x12 : iv (-2147483648) 2147483647 x12) (h_x13 : iv 0 729 x13) (h_x14 : iv 0 4 x14) (h_x20 : iv 1 4 x20) (k21 : M15 a0 30 = x20) (w0_15 : x20.toInt = e4.toInt) (w1_15 : (e4.toInt - x14.toInt = 0 ∧ x13.toInt = 0) ∨ (e4.toInt - x14.toInt = 1 ∧ x13.toInt = 1) ∨ (e4.toInt - x14.toInt = 2 ∧ x13.toInt = 9) ∨ (e4.toInt - x14.toInt = 3 ∧ x13.toInt = 81) ∨ (e4.toInt - x14.toInt = 4 ∧ x13.toInt = 729)) (hm_15 : 4 - x14.toInt < (n_15 : Int)) (hS : SB D cy base Z K N Lt_X12_goes LRt_X12_goes Ma Ra M15 R16 J17 s H locs) (hl : lv_has ls 9 [(5, .int x12), (6, .int x13), (7, .int x14), (0, .ref (base + a0)), (1, .int a1), (2, .int a2), (3, .int a3), (4, .int a4)]), W p l e (md_rm 5 0 0) s m args below meth c H locs 0 0 Q (F0 m 17 ls []) := by
    intro n_15
    induction n_15 with
    | zero =>
      intro x12 x13 x14 x20 M15 R16 J17 H locs ls h_x12 h_x13 h_x14 h_x20 k21 w0_15 w1_15 hm_15 hS hl
      exfalso
      have := (h_a1).1; have := (h_a1).2; have := (h_a2).1; have := (h_a2).2; have := (h_a3).1; have := (h_a3).2; have := (h_a4).1; have := (h_a4).2; have := (h_e4).1; have := (h_e4).2; have := (h_x13).1; have := (h_x13).2; have := (h_x14).1; have := (h_x14).2; have := (h_x20).1; have := (h_x20).2; omega
    | succ n_15 ih_15 =>
      intro x12 x13 x14 x20 M15 R16 J17 H locs ls h_x12 h_x13 h_x14 h_x20 k21 w0_15 w1_15 hm_15 hS hl
      have f18 := hS.2.2.1
      have g19 := hS.2.2.2
      refine lv_iload hx hb dX12_goes_17 (lv_at hl 2 rfl) ?_
      refine lv_aload_n hx hb dX12_goes_19 rfl (lv_at hl 3 rfl) ?_
      refine tw_getk hx hb hW hown hK hS f_X12_351_11 hz_a0 hk_a0 (v := x20) k21 dX12_goes_20 ?_
      refine lv_icmp_ge (tgt := 121) hx hb dX12_goes_23 (by decide) (fun c22 => ?_) (fun c22 => ?_)
      · have q23 : x20.toInt ≤ x14.toInt := ti_le c22
        have h24 : iv 1 4 x14 := iv_geL (y := x20) h_x14 h_x20 q23 (by decide)
        refine lv_iload hx hb dX12_goes_121 (lv_at hl 0 rfl) ?_
        exact tw_endi hx hb hr hlocks hK hT hS hQ (h_x12) dX12_goes_123
      · have q25 : x14.toInt < x20.toInt := ti_nle c22
        have h26 : iv 0 3 x14 := iv_ltL (y := x20) h_x14 h_x20 q25 (by decide)
        refine lv_aload_n hx hb dX12_goes_26 rfl (lv_at hl 3 rfl) ?_
        refine lv_aload_n hx hb dX12_goes_27 rfl (lv_at hl 3 rfl) ?_
        refine tw_getr hx hb hW hown hK hS f_X12_54_11 hz_a0 hk_a0 (t := 31) (n := 8) rfl dX12_goes_28 (fun b27 k28 hz_b27 hk_b27 hn_b27 => ?_)
        have hn_b27 := hn_b27 (by decide)
        refine lv_iload hx hb dX12_goes_31 (lv_at hl 2 rfl) ?_
        refine tw_iald hx hb hK hS hz_b27 hk_b27 (Or.inr (by decide)) hn_b27 (lo := 0) (hi := 11) h26 ⟨by decide, by decide⟩ rg_u31 dX12_goes_33 (fun x31 k30 h29 => ?_)
        refine lv_iload hx hb dX12_goes_34 (lv_at hl 2 rfl) ?_
        refine tw_gov hS (md_runV (As := [.int x31, .int x14]) (rest := []) hx hb hml hown hW hK hT hS.1 (t_X12_asks l D cy tx base Z K N M15 R16 J17 hS.2.1 a0 hz_a0 hk_a0 x31 h29 x14 (iv_mono h26 (by decide) (by decide)) (Codes.fr co_a0 hTy hz_a0 hk_a0 hS.2.2.1 hS.2.2.2 rfl)) s_X12_396 ⟨rfl, rfl, ⟨Nat.le_of_ble_eq_true rfl, Nat.le_of_ble_eq_true rfl⟩, ⟨Nat.le_of_ble_eq_true rfl, Nat.le_of_ble_eq_true rfl⟩⟩ hz_a0 hk_a0 (by decide) rfl rfl hl.1 rfl (Nat.le_of_ble_eq_true rfl) dX12_goes_36) rfl rfl (fun H locs M35 R36 J34 hS f32 g33 E37 => ?_)
        have eR36 := Fr.nil g33 rfl
        subst eR36
        have h38 : iv 1 729 x13 := by
          have := (h_a1).1; have := (h_a1).2; have := (h_a2).1; have := (h_a2).2; have := (h_a3).1; have := (h_a3).2; have := (h_a4).1; have := (h_a4).2; have := (h_e4).1; have := (h_e4).2; have := (h_x13).1; have := (h_x13).2; have := (h26).1; have := (h26).2; have := (h_x20).1; have := (h_x20).2; exact ⟨by omega, by omega⟩
        refine lv_iload_n hx hb dX12_goes_39 rfl (lv_at hl 6 rfl) ?_
        refine lv_iload hx hb dX12_goes_40 (lv_at hl 1 rfl) ?_
        refine tw_idiv (lo := 0) (hi := 6561) hx hb h_a3 h38 ⟨by decide, by decide⟩ ⟨by decide, by decide⟩ dX12_goes_42 (fun x41 e40 h39 => ?_)
        refine lv_bipush (v := 9) hx hb dX12_goes_43 (by decide) ?_
        refine tw_irem (lo := 0) (hi := 8) hx hb h39 (iv_c (c := 9) (n := 9) (by decide)) ⟨by decide, by decide⟩ ⟨by decide, by decide⟩ dX12_goes_45 (fun x44 e43 h42 => ?_)
        have e43 : x44.toInt = x41.toInt % 9 := e43
        refine lv_istore (lv' := [(8, .int x44), (5, .int x12), (6, .int x13), (7, .int x14), (0, .ref (base + a0)), (1, .int a1), (2, .int a2), (3, .int a3), (4, .int a4)]) hx hb dX12_goes_46 hl (by decide) rfl (fun ls hl => ?_)
        refine lv_aload_n hx hb dX12_goes_48 rfl (lv_at hl 4 rfl) ?_
        refine lv_iload_n hx hb dX12_goes_49 rfl (lv_at hl 5 rfl) ?_
        refine lv_iload hx hb dX12_goes_50 (lv_at hl 0 rfl) ?_
        refine lv_iconst (v := 3) hx hb dX12_goes_52 (by decide) ?_
        refine tw_idiv (lo := 0) (hi := 2) hx hb h42 (iv_c (c := 3) (n := 3) (by decide)) ⟨by decide, by decide⟩ ⟨by decide, by decide⟩ dX12_goes_53 (fun x47 e46 h45 => ?_)
        have e46 : x47.toInt = x44.toInt / 3 := e46
        refine tw_gov hS (md_runV (As := [.int a1, .int x47]) (rest := []) hx hb hml hown hW hK hT hS.1 (t_X12_putsSide l D cy tx base Z K N M35 R16 J34 hS.2.1 a0 hz_a0 hk_a0 a1 h_a1 x47 h45) s_X12_456 ⟨rfl, rfl, ⟨Nat.le_of_ble_eq_true rfl, Nat.le_of_ble_eq_true rfl⟩, ⟨Nat.le_of_ble_eq_true rfl, Nat.le_of_ble_eq_true rfl⟩⟩ hz_a0 hk_a0 (by decide) rfl rfl hl.1 rfl (Nat.le_of_ble_eq_true rfl) dX12_goes_54) rfl rfl (fun H locs M51 R52 J50 hS f48 g49 E53 => ?_)
        have eR52 := Fr.nil g49 rfl
        subst eR52
        refine lv_aload_n hx hb dX12_goes_57 rfl (lv_at hl 4 rfl) ?_
        refine lv_iload_n hx hb dX12_goes_58 rfl (lv_at hl 6 rfl) ?_
        refine lv_iload hx hb dX12_goes_59 (lv_at hl 0 rfl) ?_
        refine lv_iconst (v := 3) hx hb dX12_goes_61 (by decide) ?_
        refine tw_irem (lo := 0) (hi := 2) hx hb h42 (iv_c (c := 3) (n := 3) (by decide)) ⟨by decide, by decide⟩ ⟨by decide, by decide⟩ dX12_goes_62 (fun x56 e55 h54 => ?_)
        have e55 : x56.toInt = x44.toInt % 3 := e55
        refine tw_gov hS (md_runV (As := [.int a2, .int x56]) (rest := []) hx hb hml hown hW hK hT hS.1 (t_X12_putsSide l D cy tx base Z K N M51 R16 J50 hS.2.1 a0 hz_a0 hk_a0 a2 h_a2 x56 h54) s_X12_456 ⟨rfl, rfl, ⟨Nat.le_of_ble_eq_true rfl, Nat.le_of_ble_eq_true rfl⟩, ⟨Nat.le_of_ble_eq_true rfl, Nat.le_of_ble_eq_true rfl⟩⟩ hz_a0 hk_a0 (by decide) rfl rfl hl.1 rfl (Nat.le_of_ble_eq_true rfl) dX12_goes_63) rfl rfl (fun H locs M60 R61 J59 hS f57 g58 E62 => ?_)
        have eR61 := Fr.nil g58 rfl
        subst eR61
        refine lv_iload hx hb dX12_goes_66 (lv_at hl 1 rfl) ?_
        refine lv_aload_n hx hb dX12_goes_68 rfl (lv_at hl 4 rfl) ?_
        refine tw_goi hS (md_runV (As := []) (rest := [.int x12]) hx hb hml hown hW hK hT hS.1 (t_X12_settles_ l D cy tx base Z K N M60 R16 J59 hS.2.1 a0 hz_a0 hk_a0) s_X12_399 ⟨rfl, rfl, ⟨Nat.le_of_ble_eq_true rfl, Nat.le_of_ble_eq_true rfl⟩, ⟨Nat.le_of_ble_eq_true rfl, Nat.le_of_ble_eq_true rfl⟩⟩ hz_a0 hk_a0 (by decide) rfl rfl hl.1 rfl (Nat.le_of_ble_eq_true rfl) dX12_goes_69) rfl rfl (fun x69 H locs M66 R67 J65 hS f63 g64 E68 => ?_)
        have eR67 := Fr.nil g64 rfl
        subst eR67
        have h_x69 := E68
        refine lv_iconst (v := 1) hx hb dX12_goes_72 (by decide) ?_
        refine lv_icmp_ne (tgt := 104) hx hb dX12_goes_73 (by decide) (fun c70 => ?_) (fun c70 => ?_)
        · have q71 : ¬ x69.toInt = 1 := ti_ne c70
          refine lv_iconst (v := 0) hx hb dX12_goes_104 (by decide) ?_
          refine tw_iadd (lo := (-2147483648)) (hi := 2147483647) hx hb h_x12 (iv_c (c := 0) (n := 0) (by decide)) ⟨by decide, by decide⟩ ⟨by decide, by decide⟩ dX12_goes_105 (fun x74 e73 h72 => ?_)
          have e73 : x74.toInt = x12.toInt + 0 := e73
          refine lv_istore (lv' := [(5, .int x74), (8, .int x44), (6, .int x13), (7, .int x14), (0, .ref (base + a0)), (1, .int a1), (2, .int a2), (3, .int a3), (4, .int a4)]) hx hb dX12_goes_106 hl (by decide) rfl (fun ls hl => ?_)
          refine lv_iload hx hb dX12_goes_108 (lv_at hl 2 rfl) ?_
          refine lv_bipush (v := 9) hx hb dX12_goes_110 (by decide) ?_
          refine tw_idiv (lo := 0) (hi := 81) hx hb h38 (iv_c (c := 9) (n := 9) (by decide)) ⟨by decide, by decide⟩ ⟨by decide, by decide⟩ dX12_goes_112 (fun x77 e76 h75 => ?_)
          have e76 : x77.toInt = x13.toInt / 9 := e76
          refine lv_istore (lv' := [(6, .int x77), (5, .int x74), (8, .int x44), (7, .int x14), (0, .ref (base + a0)), (1, .int a1), (2, .int a2), (3, .int a3), (4, .int a4)]) hx hb dX12_goes_113 hl (by decide) rfl (fun ls hl => ?_)
          refine tw_iinc (lv' := fun x80 => [(7, .int x80), (6, .int x77), (5, .int x74), (8, .int x44), (0, .ref (base + a0)), (1, .int a1), (2, .int a2), (3, .int a3), (4, .int a4)]) (lo := 1) (hi := 4) hx hb dX12_goes_115 hl (k := 3) rfl h26 (by decide) ⟨by decide, by decide⟩ ⟨by decide, by decide⟩ (by decide) (fun _ => rfl) (fun x80 ls e79 h78 hl => ?_)
          refine lv_goto (tgt := 17) hx hb dX12_goes_118 (by decide) ?_
          have k81 : M66 a0 30 = x20 := ((Fr.kp (k := 30) f63 hk_a0 rfl).trans ((Fr.kp (k := 30) f57 hk_a0 rfl).trans ((Fr.kp (k := 30) f48 hk_a0 rfl).trans (Fr.kp (k := 30) f32 hk_a0 rfl)))).trans k21
          have w82 : x20.toInt = e4.toInt := by
            have := (h_a1).1; have := (h_a1).2; have := (h_a2).1; have := (h_a2).2; have := (h_a3).1; have := (h_a3).2; have := (h_a4).1; have := (h_a4).2; have := (h_e4).1; have := (h_e4).2; have := (h38).1; have := (h38).2; have := (h26).1; have := (h26).2; have := (h_x20).1; have := (h_x20).2; have := (h39).1; have := (h39).2; have := (h75).1; have := (h75).2; have := (h78).1; have := (h78).2; omega
          have w83 : (e4.toInt - x80.toInt = 0 ∧ x77.toInt = 0) ∨ (e4.toInt - x80.toInt = 1 ∧ x77.toInt = 1) ∨ (e4.toInt - x80.toInt = 2 ∧ x77.toInt = 9) ∨ (e4.toInt - x80.toInt = 3 ∧ x77.toInt = 81) ∨ (e4.toInt - x80.toInt = 4 ∧ x77.toInt = 729) := by
            have := (h_a1).1; have := (h_a1).2; have := (h_a2).1; have := (h_a2).2; have := (h_a3).1; have := (h_a3).2; have := (h_a4).1; have := (h_a4).2; have := (h_e4).1; have := (h_e4).2; have := (h38).1; have := (h38).2; have := (h26).1; have := (h26).2; have := (h_x20).1; have := (h_x20).2; have := (h39).1; have := (h39).2; have := (h75).1; have := (h75).2; have := (h78).1; have := (h78).2; omega
          have hm84 : 4 - x80.toInt < (n_15 : Int) := by
            have := (h_a1).1; have := (h_a1).2; have := (h_a2).1; have := (h_a2).2; have := (h_a3).1; have := (h_a3).2; have := (h_a4).1; have := (h_a4).2; have := (h_e4).1; have := (h_e4).2; have := (h38).1; have := (h38).2; have := (h26).1; have := (h26).2; have := (h_x20).1; have := (h_x20).2; have := (h39).1; have := (h39).2; have := (h75).1; have := (h75).2; have := (h78).1; have := (h78).2; omega
          exact ih_15 x74 x77 x80 x20 M66 R16 J65 H locs _ h72 (iv_mono h75 (by decide) (by decide)) (iv_mono h78 (by decide) (by decide)) h_x20 k81 w82 w83 hm84 hS (lv_sub hl [2, 1, 0, 4, 5, 6, 7, 8] rfl)
        · have q85 : x69.toInt = 1 := ti_eq c70
          have h86 : iv 1 1 x69 := ⟨by have := (h_x69).1; have := ((iv_c (c := 1) (n := 1) (by decide))).1; omega, by have := (h_x69).2; have := ((iv_c (c := 1) (n := 1) (by decide))).2; omega⟩
          refine lv_aload_n hx hb dX12_goes_76 rfl (lv_at hl 4 rfl) ?_
          refine lv_iload_n hx hb dX12_goes_77 rfl (lv_at hl 5 rfl) ?_
          refine lv_aload_n hx hb dX12_goes_78 rfl (lv_at hl 4 rfl) ?_
          refine tw_getrk hx hb hW hown hK hS f_X12_54_11 hz_a0 hk_a0 (b := b27) k28 dX12_goes_79 ?_
          refine lv_iload hx hb dX12_goes_82 (lv_at hl 3 rfl) ?_
          have k87 : M66 b27 x14.toNatClampNeg = x31 := ((Fr.kpa f63 hk_b27 rfl x14.toNatClampNeg).trans ((Fr.kpa f57 hk_b27 rfl x14.toNatClampNeg).trans ((Fr.kpa f48 hk_b27 rfl x14.toNatClampNeg).trans (Fr.kpa f32 hk_b27 rfl x14.toNatClampNeg)))).trans k30
          refine tw_ialk hx hb hK hS hz_b27 hk_b27 (Or.inr (by decide)) hn_b27 h26 ⟨by decide, by decide⟩ (v := x31) k87 dX12_goes_84 ?_
          refine tw_goi hS (md_runV (As := [.int a1, .int x31]) (rest := [.int x12]) hx hb hml hown hW hK hT hS.1 (t_X12_gainOf l D cy tx base Z K N M66 R16 J65 hS.2.1 a0 hz_a0 hk_a0 a1 h_a1 x31 h29) s_X12_459 ⟨rfl, rfl, ⟨Nat.le_of_ble_eq_true rfl, Nat.le_of_ble_eq_true rfl⟩, ⟨Nat.le_of_ble_eq_true rfl, Nat.le_of_ble_eq_true rfl⟩⟩ hz_a0 hk_a0 (by decide) rfl rfl hl.1 rfl (Nat.le_of_ble_eq_true rfl) dX12_goes_85) rfl rfl (fun x94 H locs M91 R92 J90 hS f88 g89 E93 => ?_)
          have eM91 := Fr.nil f88 rfl
          subst eM91
          have eR92 := Fr.nil g89 rfl
          subst eR92
          have h_x94 := E93
          refine lv_aload_n hx hb dX12_goes_88 rfl (lv_at hl 4 rfl) ?_
          refine lv_iload_n hx hb dX12_goes_89 rfl (lv_at hl 6 rfl) ?_
          refine lv_aload_n hx hb dX12_goes_90 rfl (lv_at hl 4 rfl) ?_
          refine tw_getrk hx hb hW hown hK hS f_X12_54_11 hz_a0 hk_a0 (b := b27) k28 dX12_goes_91 ?_
          refine lv_iload hx hb dX12_goes_94 (lv_at hl 3 rfl) ?_
          refine tw_ialk hx hb hK hS hz_b27 hk_b27 (Or.inr (by decide)) hn_b27 h26 ⟨by decide, by decide⟩ (v := x31) k87 dX12_goes_96 ?_
          refine tw_goi hS (md_runV (As := [.int a2, .int x31]) (rest := [.int x94, .int x12]) hx hb hml hown hW hK hT hS.1 (t_X12_gainOf l D cy tx base Z K N M66 R16 J90 hS.2.1 a0 hz_a0 hk_a0 a2 h_a2 x31 h29) s_X12_459 ⟨rfl, rfl, ⟨Nat.le_of_ble_eq_true rfl, Nat.le_of_ble_eq_true rfl⟩, ⟨Nat.le_of_ble_eq_true rfl, Nat.le_of_ble_eq_true rfl⟩⟩ hz_a0 hk_a0 (by decide) rfl rfl hl.1 rfl (Nat.le_of_ble_eq_true rfl) dX12_goes_97) rfl rfl (fun x101 H locs M98 R99 J97 hS f95 g96 E100 => ?_)
          have eM98 := Fr.nil f95 rfl
          subst eM98
          have eR99 := Fr.nil g96 rfl
          subst eR99
          have h_x101 := E100
          refine lv_isub hx hb dX12_goes_100 ?_
          refine tw_top (fun x103 => ?_)
          have h102 := iv_any x103
          refine lv_goto (tgt := 105) hx hb dX12_goes_101 (by decide) ?_
          refine lv_iadd hx hb dX12_goes_105 ?_
          refine tw_top (fun x105 => ?_)
          have h104 := iv_any x105
          refine lv_istore (lv' := [(5, .int x105), (8, .int x44), (6, .int x13), (7, .int x14), (0, .ref (base + a0)), (1, .int a1), (2, .int a2), (3, .int a3), (4, .int a4)]) hx hb dX12_goes_106 hl (by decide) rfl (fun ls hl => ?_)
          refine lv_iload hx hb dX12_goes_108 (lv_at hl 2 rfl) ?_
          refine lv_bipush (v := 9) hx hb dX12_goes_110 (by decide) ?_
          refine tw_idiv (lo := 0) (hi := 81) hx hb h38 (iv_c (c := 9) (n := 9) (by decide)) ⟨by decide, by decide⟩ ⟨by decide, by decide⟩ dX12_goes_112 (fun x108 e107 h106 => ?_)
          have e107 : x108.toInt = x13.toInt / 9 := e107
          refine lv_istore (lv' := [(6, .int x108), (5, .int x105), (8, .int x44), (7, .int x14), (0, .ref (base + a0)), (1, .int a1), (2, .int a2), (3, .int a3), (4, .int a4)]) hx hb dX12_goes_113 hl (by decide) rfl (fun ls hl => ?_)
          refine tw_iinc (lv' := fun x111 => [(7, .int x111), (6, .int x108), (5, .int x105), (8, .int x44), (0, .ref (base + a0)), (1, .int a1), (2, .int a2), (3, .int a3), (4, .int a4)]) (lo := 1) (hi := 4) hx hb dX12_goes_115 hl (k := 3) rfl h26 (by decide) ⟨by decide, by decide⟩ ⟨by decide, by decide⟩ (by decide) (fun _ => rfl) (fun x111 ls e110 h109 hl => ?_)
          refine lv_goto (tgt := 17) hx hb dX12_goes_118 (by decide) ?_
          have k112 : M66 a0 30 = x20 := ((Fr.kp (k := 30) f63 hk_a0 rfl).trans ((Fr.kp (k := 30) f57 hk_a0 rfl).trans ((Fr.kp (k := 30) f48 hk_a0 rfl).trans (Fr.kp (k := 30) f32 hk_a0 rfl)))).trans k21
          have w113 : x20.toInt = e4.toInt := by
            have := (h_a1).1; have := (h_a1).2; have := (h_a2).1; have := (h_a2).2; have := (h_a3).1; have := (h_a3).2; have := (h_a4).1; have := (h_a4).2; have := (h_e4).1; have := (h_e4).2; have := (h106).1; have := (h106).2; have := (h109).1; have := (h109).2; have := (h38).1; have := (h38).2; have := (h26).1; have := (h26).2; have := (h_x20).1; have := (h_x20).2; have := (h39).1; have := (h39).2; omega
          have w114 : (e4.toInt - x111.toInt = 0 ∧ x108.toInt = 0) ∨ (e4.toInt - x111.toInt = 1 ∧ x108.toInt = 1) ∨ (e4.toInt - x111.toInt = 2 ∧ x108.toInt = 9) ∨ (e4.toInt - x111.toInt = 3 ∧ x108.toInt = 81) ∨ (e4.toInt - x111.toInt = 4 ∧ x108.toInt = 729) := by
            have := (h_a1).1; have := (h_a1).2; have := (h_a2).1; have := (h_a2).2; have := (h_a3).1; have := (h_a3).2; have := (h_a4).1; have := (h_a4).2; have := (h_e4).1; have := (h_e4).2; have := (h106).1; have := (h106).2; have := (h109).1; have := (h109).2; have := (h38).1; have := (h38).2; have := (h26).1; have := (h26).2; have := (h_x20).1; have := (h_x20).2; have := (h39).1; have := (h39).2; omega
          have hm115 : 4 - x111.toInt < (n_15 : Int) := by
            have := (h_a1).1; have := (h_a1).2; have := (h_a2).1; have := (h_a2).2; have := (h_a3).1; have := (h_a3).2; have := (h_a4).1; have := (h_a4).2; have := (h_e4).1; have := (h_e4).2; have := (h106).1; have := (h106).2; have := (h109).1; have := (h109).2; have := (h38).1; have := (h38).2; have := (h26).1; have := (h26).2; have := (h_x20).1; have := (h_x20).2; have := (h39).1; have := (h39).2; omega
          exact ih_15 x105 x108 x111 x20 M66 R16 J97 H locs _ h104 (iv_mono h106 (by decide) (by decide)) (iv_mono h109 (by decide) (by decide)) h_x20 k112 w113 w114 hm115 hS (lv_sub hl [2, 1, 0, 4, 5, 6, 7, 8] rfl)
  have w116 : e4.toInt = e4.toInt := by
    have := (h_a1).1; have := (h_a1).2; have := (h_a2).1; have := (h_a2).2; have := (h_a3).1; have := (h_a3).2; have := (h_a4).1; have := (h_a4).2; have := (h_e4).1; have := (h_e4).2; omega
  have w117 : (e4.toInt - (0 : Int32).toInt = 0 ∧ x11.toInt = 0) ∨ (e4.toInt - (0 : Int32).toInt = 1 ∧ x11.toInt = 1) ∨ (e4.toInt - (0 : Int32).toInt = 2 ∧ x11.toInt = 9) ∨ (e4.toInt - (0 : Int32).toInt = 3 ∧ x11.toInt = 81) ∨ (e4.toInt - (0 : Int32).toInt = 4 ∧ x11.toInt = 729) := by
    have := (h_a1).1; have := (h_a1).2; have := (h_a2).1; have := (h_a2).2; have := (h_a3).1; have := (h_a3).2; have := (h_a4).1; have := (h_a4).2; have := (h_e4).1; have := (h_e4).2; have := (h9).1; have := (h9).2; have : (0 : Int32).toInt = 0 := (by decide); omega
  have hm118 : 4 - (0 : Int32).toInt < (((5 : Nat) : Int) : Int) := by
    have := (h_a1).1; have := (h_a1).2; have := (h_a2).1; have := (h_a2).2; have := (h_a3).1; have := (h_a3).2; have := (h_a4).1; have := (h_a4).2; have := (h_e4).1; have := (h_e4).2; have : (0 : Int32).toInt = 0 := (by decide); omega
  exact W17_15 5 0 x11 0 e4 M4 Ra J3 H locs _ (iv_mono (iv_c (c := 0) (n := 0) (by decide)) (by decide) (by decide)) h9 (iv_mono (iv_c (c := 0) (n := 0) (by decide)) (by decide) (by decide)) h_e4 k8 w116 w117 hm118 hS (lv_sub hl [2, 1, 0, 3, 4, 5, 6, 7] rfl)
def Lt_X12_isAgain : WL := []
def LRt_X12_isAgain : WL := []
set_option maxRecDepth 100000 in
set_option maxHeartbeats 4000000 in
theorem t_X12_isAgain (l : Launch) (D : va_G) (cy : Nat → ClassId) (tx : (Nat → Nat) × (Nat → Nat)) (base Z : Nat) (K N : Nat → Nat) (Ma : MT) (Ra : RT) (Ja : JT) (hTy : Ty Z K N Ma Ra) (a0 : Nat) (hz_a0 : a0 < Z) (hk_a0 : K a0 = 12) (a1 : Int32) (h_a1 : iv 1 300 a1) (a2 : Int32) (h_a2 : iv 0 300 a2) : Met l yX12_isAgain [Cond.code yX12_isAgain cX12_isAgain 4 (some .boolean)] (md_rm 1 0 0) (va_Pc [.ref (base + a0), .int a1, .int a2] (md_U D cy tx base Z K N Ma Ra Ja)) (mQi D cy tx base (fun r u => TP Z K N Lt_X12_isAgain LRt_X12_isAgain Ma Ra u ∧ (iv 0 1 r))) 0 0 (fun q => base ≤ q) := by
  refine tw_ofW (L := Lt_X12_isAgain) (LR := LRt_X12_isAgain) (by decide) (Nat.le_of_ble_eq_true rfl) hTy ?_
  intro p e s m args below meth c Q ls hx hb hr hlocks hown hml hW hK hT hS hQ hl
  have hl : lv_has ls 4 [(0, .ref (base + a0)), (1, .int a1), (2, .int a2)] := hl
  refine lv_iconst (v := 0) hx hb dX12_isAgain_0 (by decide) ?_
  refine lv_istore_n (lv' := [(3, .int 0), (0, .ref (base + a0)), (1, .int a1), (2, .int a2)]) hx hb dX12_isAgain_1 rfl hl (by decide) rfl (fun ls hl => ?_)
  have W2_2 : ∀ (n_2 : Nat) (x1 : Int32) (M2 : MT) (R3 : RT) (J4 : JT) (H : Heap) (locs : List Loc) (ls : Array Slot) (h_x1 : iv 0 10 x1) (hm_2 : 10 - x1.toInt < (n_2 : Int)) (hS : SB D cy base Z K N Lt_X12_isAgain LRt_X12_isAgain Ma Ra M2 R3 J4 s H locs) (hl : lv_has ls 4 [(3, .int x1), (0, .ref (base + a0)), (1, .int a1), (2, .int a2)]), W p l e (md_rm 1 0 0) s m args below meth c H locs 0 0 Q (F0 m 2 ls []) := by
    intro n_2
    induction n_2 with
    | zero =>
      intro x1 M2 R3 J4 H locs ls h_x1 hm_2 hS hl
      exfalso
      have := (h_a1).1; have := (h_a1).2; have := (h_a2).1; have := (h_a2).2; have := (h_x1).1; have := (h_x1).2; omega
    | succ n_2 ih_2 =>
      intro x1 M2 R3 J4 H locs ls h_x1 hm_2 hS hl
      have f5 := hS.2.2.1
      have g6 := hS.2.2.2
      refine lv_iload_n hx hb dX12_isAgain_2 rfl (lv_at hl 0 rfl) ?_
      refine lv_bipush (v := 10) hx hb dX12_isAgain_3 (by decide) ?_
      refine lv_icmp_ge (tgt := 41) hx hb dX12_isAgain_5 (by decide) (fun c7 => ?_) (fun c7 => ?_)
      · have q8 : 10 ≤ x1.toInt := ti_le c7
        have h9 : iv 10 10 x1 := iv_geL (y := 10) h_x1 (iv_c (c := 10) (n := 10) (by decide)) q8 (by decide)
        refine lv_iconst (v := 1) hx hb dX12_isAgain_41 (by decide) ?_
        exact tw_endz hx hb hr hlocks hK hT hS hQ rfl ((iv_mono (iv_c (c := 1) (n := 1) (by decide)) (by decide) (by decide))) dX12_isAgain_42
      · have q10 : x1.toInt < 10 := ti_nle c7
        have h11 : iv 0 9 x1 := iv_ltL (y := 10) h_x1 (iv_c (c := 10) (n := 10) (by decide)) q10 (by decide)
        refine lv_aload_n hx hb dX12_isAgain_8 rfl (lv_at hl 1 rfl) ?_
        refine tw_getr hx hb hW hown hK hS f_X12_93_11 hz_a0 hk_a0 (t := 14) (n := 3010) rfl dX12_isAgain_9 (fun b12 k13 hz_b12 hk_b12 hn_b12 => ?_)
        have hn_b12 := hn_b12 (by decide)
        refine lv_bipush (v := 10) hx hb dX12_isAgain_12 (by decide) ?_
        refine lv_iload_n hx hb dX12_isAgain_14 rfl (lv_at hl 2 rfl) ?_
        refine tw_icmul (k := 10) (lo := 10) (hi := 3000) hx hb (by decide) h_a1 (by decide) ⟨by decide, by decide⟩ ⟨by decide, by decide⟩ dX12_isAgain_15 (fun x16 e15 h14 => ?_)
        refine lv_iload_n hx hb dX12_isAgain_16 rfl (lv_at hl 0 rfl) ?_
        refine tw_iadd (lo := 10) (hi := 3009) hx hb h14 h11 ⟨by decide, by decide⟩ ⟨by decide, by decide⟩ dX12_isAgain_17 (fun x19 e18 h17 => ?_)
        refine tw_iald hx hb hK hS hz_b12 hk_b12 (Or.inl rfl) hn_b12 (lo := (-2147483648)) (hi := 2147483647) h17 ⟨by decide, by decide⟩ rg_u14 dX12_isAgain_18 (fun x22 k21 h20 => ?_)
        refine lv_aload_n hx hb dX12_isAgain_19 rfl (lv_at hl 1 rfl) ?_
        refine tw_getrk hx hb hW hown hK hS f_X12_93_11 hz_a0 hk_a0 (b := b12) k13 dX12_isAgain_20 ?_
        refine lv_bipush (v := 10) hx hb dX12_isAgain_23 (by decide) ?_
        refine lv_iload_n hx hb dX12_isAgain_25 rfl (lv_at hl 3 rfl) ?_
        refine tw_icmul (k := 10) (lo := 0) (hi := 3000) hx hb (by decide) h_a2 (by decide) ⟨by decide, by decide⟩ ⟨by decide, by decide⟩ dX12_isAgain_26 (fun x25 e24 h23 => ?_)
        refine lv_iload_n hx hb dX12_isAgain_27 rfl (lv_at hl 0 rfl) ?_
        refine tw_iadd (lo := 0) (hi := 3009) hx hb h23 h11 ⟨by decide, by decide⟩ ⟨by decide, by decide⟩ dX12_isAgain_28 (fun x28 e27 h26 => ?_)
        refine tw_iald hx hb hK hS hz_b12 hk_b12 (Or.inl rfl) hn_b12 (lo := (-2147483648)) (hi := 2147483647) h26 ⟨by decide, by decide⟩ rg_u14 dX12_isAgain_29 (fun x31 k30 h29 => ?_)
        refine lv_icmp_eq (tgt := 35) hx hb dX12_isAgain_30 (by decide) (fun c32 => ?_) (fun c32 => ?_)
        · have q33 : x22.toInt = x31.toInt := ti_eq c32
          refine tw_iinc (lv' := fun x36 => [(3, .int x36), (0, .ref (base + a0)), (1, .int a1), (2, .int a2)]) (lo := 1) (hi := 10) hx hb dX12_isAgain_35 hl (k := 0) rfl h11 (by decide) ⟨by decide, by decide⟩ ⟨by decide, by decide⟩ (by decide) (fun _ => rfl) (fun x36 ls e35 h34 hl => ?_)
          refine lv_goto (tgt := 2) hx hb dX12_isAgain_38 (by decide) ?_
          have hm37 : 10 - x36.toInt < (n_2 : Int) := by
            have := (h_a1).1; have := (h_a1).2; have := (h_a2).1; have := (h_a2).2; have := (h11).1; have := (h11).2; have := (h17).1; have := (h17).2; have := (h26).1; have := (h26).2; have := (h34).1; have := (h34).2; omega
          exact ih_2 x36 M2 R3 J4 H locs _ (iv_mono h34 (by decide) (by decide)) hm37 hS hl
        · have q38 : ¬ x22.toInt = x31.toInt := ti_ne c32
          refine lv_iconst (v := 0) hx hb dX12_isAgain_33 (by decide) ?_
          exact tw_endz hx hb hr hlocks hK hT hS hQ rfl ((iv_mono (iv_c (c := 0) (n := 0) (by decide)) (by decide) (by decide))) dX12_isAgain_34
  have hm39 : 10 - (0 : Int32).toInt < (((11 : Nat) : Int) : Int) := by
    have := (h_a1).1; have := (h_a1).2; have := (h_a2).1; have := (h_a2).2; have : (0 : Int32).toInt = 0 := (by decide); omega
  exact W2_2 11 0 Ma Ra Ja s.heap [] _ (iv_mono (iv_c (c := 0) (n := 0) (by decide)) (by decide) (by decide)) hm39 hS hl
def Lt_X12_isPoint : WL := []
def LRt_X12_isPoint : WL := []
set_option maxRecDepth 100000 in
set_option maxHeartbeats 4000000 in
theorem t_X12_isPoint (l : Launch) (D : va_G) (cy : Nat → ClassId) (tx : (Nat → Nat) × (Nat → Nat)) (base Z : Nat) (K N : Nat → Nat) (Ma : MT) (Ra : RT) (Ja : JT) (hTy : Ty Z K N Ma Ra) (a0 : Nat) (hz_a0 : a0 < Z) (hk_a0 : K a0 = 12) (a1 : Int32) (h_a1 : iv (-2147483648) 2147483647 a1) : Met l yX12_isPoint [Cond.code yX12_isPoint cX12_isPoint 2 (some .boolean)] (md_rm 1 0 0) (va_Pc [.ref (base + a0), .int a1] (md_U D cy tx base Z K N Ma Ra Ja)) (mQi D cy tx base (fun r u => TP Z K N Lt_X12_isPoint LRt_X12_isPoint Ma Ra u ∧ (iv 0 1 r ∧ (¬ r = 0 → iv 0 11 a1)))) 0 0 (fun q => base ≤ q) := by
  refine tw_ofW (L := Lt_X12_isPoint) (LR := LRt_X12_isPoint) (by decide) (Nat.le_of_ble_eq_true rfl) hTy ?_
  intro p e s m args below meth c Q ls hx hb hr hlocks hown hml hW hK hT hS hQ hl
  have hl : lv_has ls 2 [(0, .ref (base + a0)), (1, .int a1)] := hl
  refine lv_iload_n hx hb dX12_isPoint_0 rfl (lv_at hl 1 rfl) ?_
  refine lv_if_lt (tgt := 18) hx hb dX12_isPoint_1 (by decide) (fun c1 => ?_) (fun c1 => ?_)
  · have q2 : a1.toInt < 0 := ti_lt c1
    have h3 : iv (-2147483648) (-1) a1 := iv_ltL (y := 0) h_a1 (iv_c (c := 0) (n := 0) (by decide)) q2 (by decide)
    refine lv_iconst (v := 0) hx hb dX12_isPoint_18 (by decide) ?_
    exact tw_endz hx hb hr hlocks hK hT hS hQ rfl (⟨(iv_mono (iv_c (c := 0) (n := 0) (by decide)) (by decide) (by decide)), (fun h => absurd rfl h)⟩) dX12_isPoint_19
  · have q4 : 0 ≤ a1.toInt := ti_nlt c1
    have h5 : iv 0 2147483647 a1 := iv_geL (y := 0) h_a1 (iv_c (c := 0) (n := 0) (by decide)) q4 (by decide)
    refine lv_iload_n hx hb dX12_isPoint_4 rfl (lv_at hl 1 rfl) ?_
    refine lv_aload_n hx hb dX12_isPoint_5 rfl (lv_at hl 0 rfl) ?_
    refine tw_getr hx hb hW hown hK hS f_X12_45_11 hz_a0 hk_a0 (t := 23) (n := 226) rfl dX12_isPoint_6 (fun b6 k7 hz_b6 hk_b6 hn_b6 => ?_)
    have hn_b6 := hn_b6 (by decide)
    refine lv_iconst (v := 1) hx hb dX12_isPoint_9 (by decide) ?_
    refine tw_iald hx hb hK hS hz_b6 hk_b6 (Or.inr (by decide)) hn_b6 (lo := 0) (hi := 12) (iv_c (c := 1) (n := 1) (by decide)) ⟨by decide, by decide⟩ (rg_c (k0 := 1) rfl rfl rfl) dX12_isPoint_10 (fun x10 k9 h8 => ?_)
    refine lv_icmp_ge (tgt := 18) hx hb dX12_isPoint_11 (by decide) (fun c11 => ?_) (fun c11 => ?_)
    · have q12 : x10.toInt ≤ a1.toInt := ti_le c11
      refine lv_iconst (v := 0) hx hb dX12_isPoint_18 (by decide) ?_
      exact tw_endz hx hb hr hlocks hK hT hS hQ rfl (⟨(iv_mono (iv_c (c := 0) (n := 0) (by decide)) (by decide) (by decide)), (fun h => absurd rfl h)⟩) dX12_isPoint_19
    · have q13 : a1.toInt < x10.toInt := ti_nle c11
      have h14 : iv 0 11 a1 := iv_ltL (y := x10) h5 h8 q13 (by decide)
      have h15 : iv 1 12 x10 := iv_gtL (y := a1) h8 h5 q13 (by decide)
      refine lv_iconst (v := 1) hx hb dX12_isPoint_14 (by decide) ?_
      refine lv_goto (tgt := 19) hx hb dX12_isPoint_15 (by decide) ?_
      exact tw_endz hx hb hr hlocks hK hT hS hQ rfl (⟨(iv_mono (iv_c (c := 1) (n := 1) (by decide)) (by decide) (by decide)), (fun _ => h14)⟩) dX12_isPoint_19
def Lt_X12_isPresent : WL := []
def LRt_X12_isPresent : WL := []
set_option maxRecDepth 100000 in
set_option maxHeartbeats 4000000 in
theorem t_X12_isPresent (l : Launch) (D : va_G) (cy : Nat → ClassId) (tx : (Nat → Nat) × (Nat → Nat)) (base Z : Nat) (K N : Nat → Nat) (Ma : MT) (Ra : RT) (Ja : JT) (hTy : Ty Z K N Ma Ra) (a0 : Nat) (hz_a0 : a0 < Z) (hk_a0 : K a0 = 12) (a1 : Int32) (h_a1 : iv (-2147483648) 2147483647 a1) : Met l yX12_isPresent [Cond.code yX12_isPresent cX12_isPresent 2 (some .boolean)] (md_rm 2 0 0) (va_Pc [.ref (base + a0), .int a1] (md_U D cy tx base Z K N Ma Ra Ja)) (mQi D cy tx base (fun r u => TP Z K N Lt_X12_isPresent LRt_X12_isPresent Ma Ra u ∧ (iv 0 1 r ∧ (¬ r = 0 → iv 0 9 a1)))) 0 0 (fun q => base ≤ q) := by
  refine tw_ofW (L := Lt_X12_isPresent) (LR := LRt_X12_isPresent) (by decide) (Nat.le_of_ble_eq_true rfl) hTy ?_
  intro p e s m args below meth c Q ls hx hb hr hlocks hown hml hW hK hT hS hQ hl
  have hl : lv_has ls 2 [(0, .ref (base + a0)), (1, .int a1)] := hl
  refine lv_aload_n hx hb dX12_isPresent_0 rfl (lv_at hl 0 rfl) ?_
  refine lv_iload_n hx hb dX12_isPresent_1 rfl (lv_at hl 1 rfl) ?_
  refine tw_goi hS (md_runV (As := [.int a1]) (rest := []) hx hb hml hown hW hK hT hS.1 (t_X12_isMember l D cy tx base Z K N Ma Ra Ja hS.2.1 a0 hz_a0 hk_a0 a1 h_a1) s_X12_319 ⟨rfl, rfl, ⟨Nat.le_of_ble_eq_true rfl, Nat.le_of_ble_eq_true rfl⟩, ⟨Nat.le_of_ble_eq_true rfl, Nat.le_of_ble_eq_true rfl⟩⟩ hz_a0 hk_a0 (by decide) rfl rfl hl.1 rfl (Nat.le_of_ble_eq_true rfl) dX12_isPresent_2) rfl rfl (fun x7 H locs M4 R5 J3 hS f1 g2 E6 => ?_)
  have eM4 := Fr.nil f1 rfl
  subst eM4
  have eR5 := Fr.nil g2 rfl
  subst eR5
  obtain ⟨h_x7, p8⟩ := E6
  refine lv_if_eq (tgt := 25) hx hb dX12_isPresent_5 (by decide) (fun c9 => ?_) (fun c9 => ?_)
  · have q10 : x7.toInt = 0 := ti_eq c9
    have h11 : iv 0 0 x7 := ⟨by have := (h_x7).1; have := ((iv_c (c := 0) (n := 0) (by decide))).1; omega, by have := (h_x7).2; have := ((iv_c (c := 0) (n := 0) (by decide))).2; omega⟩
    refine lv_iconst (v := 0) hx hb dX12_isPresent_25 (by decide) ?_
    exact tw_endz hx hb hr hlocks hK hT hS hQ rfl (⟨(iv_mono (iv_c (c := 0) (n := 0) (by decide)) (by decide) (by decide)), (fun h => absurd rfl h)⟩) dX12_isPresent_26
  · have q12 : ¬ x7.toInt = 0 := ti_ne c9
    have h13 : iv 1 1 x7 := ⟨by have := (h_x7).1; have := ((iv_c (c := 0) (n := 0) (by decide))).1; have := ((iv_c (c := 0) (n := 0) (by decide))).2; omega, by have := (h_x7).2; have := ((iv_c (c := 0) (n := 0) (by decide))).1; have := ((iv_c (c := 0) (n := 0) (by decide))).2; omega⟩
    have h14 : iv 0 9 a1 := ⟨by have := (p8 c9).1; have := (h_a1).1; omega, by have := (p8 c9).2; have := (h_a1).2; omega⟩
    refine lv_aload_n hx hb dX12_isPresent_8 rfl (lv_at hl 0 rfl) ?_
    refine tw_getr hx hb hW hown hK hS f_X12_45_11 hz_a0 hk_a0 (t := 23) (n := 226) rfl dX12_isPresent_9 (fun b15 k16 hz_b15 hk_b15 hn_b15 => ?_)
    have hn_b15 := hn_b15 (by decide)
    refine lv_iconst (v := 2) hx hb dX12_isPresent_12 (by decide) ?_
    refine tw_iald hx hb hK hS hz_b15 hk_b15 (Or.inr (by decide)) hn_b15 (lo := (-2147483648)) (hi := 2147483647) (iv_c (c := 2) (n := 2) (by decide)) ⟨by decide, by decide⟩ (rg_c (k0 := 2) rfl rfl rfl) dX12_isPresent_13 (fun x19 k18 h17 => ?_)
    refine lv_iload_n hx hb dX12_isPresent_14 rfl (lv_at hl 1 rfl) ?_
    refine tw_goi hS (md_runS (As := [.int x19, .int a1]) (rest := []) hx hb hml hown hW hK hT hS.1 (t_X12_isOf l D cy tx base Z K N Ma Ra J3 hS.2.1 x19 h17 a1 h14) s_X12_322 ⟨rfl, rfl, ⟨Nat.le_of_ble_eq_true rfl, Nat.le_of_ble_eq_true rfl⟩, ⟨Nat.le_of_ble_eq_true rfl, Nat.le_of_ble_eq_true rfl⟩⟩ rfl hl.1 rfl (Nat.le_of_ble_eq_true rfl) dX12_isPresent_15) rfl rfl (fun x26 H locs M23 R24 J22 hS f20 g21 E25 => ?_)
    have eM23 := Fr.nil f20 rfl
    subst eM23
    have eR24 := Fr.nil g21 rfl
    subst eR24
    have h_x26 := E25
    refine lv_if_eq (tgt := 25) hx hb dX12_isPresent_18 (by decide) (fun c27 => ?_) (fun c27 => ?_)
    · have q28 : x26.toInt = 0 := ti_eq c27
      have h29 : iv 0 0 x26 := ⟨by have := (h_x26).1; have := ((iv_c (c := 0) (n := 0) (by decide))).1; omega, by have := (h_x26).2; have := ((iv_c (c := 0) (n := 0) (by decide))).2; omega⟩
      refine lv_iconst (v := 0) hx hb dX12_isPresent_25 (by decide) ?_
      exact tw_endz hx hb hr hlocks hK hT hS hQ rfl (⟨(iv_mono (iv_c (c := 0) (n := 0) (by decide)) (by decide) (by decide)), (fun h => absurd rfl h)⟩) dX12_isPresent_26
    · have q30 : ¬ x26.toInt = 0 := ti_ne c27
      have h31 : iv 1 1 x26 := ⟨by have := (h_x26).1; have := ((iv_c (c := 0) (n := 0) (by decide))).1; have := ((iv_c (c := 0) (n := 0) (by decide))).2; omega, by have := (h_x26).2; have := ((iv_c (c := 0) (n := 0) (by decide))).1; have := ((iv_c (c := 0) (n := 0) (by decide))).2; omega⟩
      refine lv_iconst (v := 1) hx hb dX12_isPresent_21 (by decide) ?_
      refine lv_goto (tgt := 26) hx hb dX12_isPresent_22 (by decide) ?_
      exact tw_endz hx hb hr hlocks hK hT hS hQ rfl (⟨(iv_mono (iv_c (c := 1) (n := 1) (by decide)) (by decide) (by decide)), (fun _ => h14)⟩) dX12_isPresent_26
def Lt_X12_keepsDay : WL := [(14, 0, 2000000)]
def LRt_X12_keepsDay : WL := []
set_option maxRecDepth 100000 in
set_option maxHeartbeats 4000000 in
theorem t_X12_keepsDay (l : Launch) (D : va_G) (cy : Nat → ClassId) (tx : (Nat → Nat) × (Nat → Nat)) (base Z : Nat) (K N : Nat → Nat) (Ma : MT) (Ra : RT) (Ja : JT) (hTy : Ty Z K N Ma Ra) (a0 : Nat) (hz_a0 : a0 < Z) (hk_a0 : K a0 = 12) (a1 : Int32) (h_a1 : iv 0 300 a1) : Met l yX12_keepsDay [Cond.code yX12_keepsDay cX12_keepsDay 3 none] (md_rm 1 0 0) (va_Pc [.ref (base + a0), .int a1] (md_U D cy tx base Z K N Ma Ra Ja)) (mQv D cy tx base (fun u => TP Z K N Lt_X12_keepsDay LRt_X12_keepsDay Ma Ra u ∧ (True))) 0 0 (fun q => base ≤ q) := by
  refine tw_ofW (L := Lt_X12_keepsDay) (LR := LRt_X12_keepsDay) (by decide) (Nat.le_of_ble_eq_true rfl) hTy ?_
  intro p e s m args below meth c Q ls hx hb hr hlocks hown hml hW hK hT hS hQ hl
  have hl : lv_has ls 3 [(0, .ref (base + a0)), (1, .int a1)] := hl
  refine lv_iconst (v := 0) hx hb dX12_keepsDay_0 (by decide) ?_
  refine lv_istore_n (lv' := [(2, .int 0), (0, .ref (base + a0)), (1, .int a1)]) hx hb dX12_keepsDay_1 rfl hl (by decide) rfl (fun ls hl => ?_)
  have W2_2 : ∀ (n_2 : Nat) (x1 : Int32) (M2 : MT) (R3 : RT) (J4 : JT) (H : Heap) (locs : List Loc) (ls : Array Slot) (h_x1 : iv 0 10 x1) (hm_2 : 10 - x1.toInt < (n_2 : Int)) (hS : SB D cy base Z K N Lt_X12_keepsDay LRt_X12_keepsDay Ma Ra M2 R3 J4 s H locs) (hl : lv_has ls 3 [(2, .int x1), (0, .ref (base + a0)), (1, .int a1)]), W p l e (md_rm 1 0 0) s m args below meth c H locs 0 0 Q (F0 m 2 ls []) := by
    intro n_2
    induction n_2 with
    | zero =>
      intro x1 M2 R3 J4 H locs ls h_x1 hm_2 hS hl
      exfalso
      have := (h_a1).1; have := (h_a1).2; have := (h_x1).1; have := (h_x1).2; omega
    | succ n_2 ih_2 =>
      intro x1 M2 R3 J4 H locs ls h_x1 hm_2 hS hl
      have f5 := hS.2.2.1
      have g6 := hS.2.2.2
      refine lv_iload_n hx hb dX12_keepsDay_2 rfl (lv_at hl 0 rfl) ?_
      refine lv_bipush (v := 10) hx hb dX12_keepsDay_3 (by decide) ?_
      refine lv_icmp_ge (tgt := 48) hx hb dX12_keepsDay_5 (by decide) (fun c7 => ?_) (fun c7 => ?_)
      · have q8 : 10 ≤ x1.toInt := ti_le c7
        have h9 : iv 10 10 x1 := iv_geL (y := 10) h_x1 (iv_c (c := 10) (n := 10) (by decide)) q8 (by decide)
        refine lv_aload_n hx hb dX12_keepsDay_48 rfl (lv_at hl 1 rfl) ?_
        refine tw_getr hx hb hW hown hK hS f_X12_99_11 hz_a0 hk_a0 (t := 14) (n := 301) rfl dX12_keepsDay_49 (fun b10 k11 hz_b10 hk_b10 hn_b10 => ?_)
        have hn_b10 := hn_b10 (by decide)
        refine lv_iload_n hx hb dX12_keepsDay_52 rfl (lv_at hl 2 rfl) ?_
        refine lv_aload_n hx hb dX12_keepsDay_53 rfl (lv_at hl 1 rfl) ?_
        refine tw_geti hx hb hW hown hK hS f_X12_407_11 hz_a0 hk_a0 (lo := (-2147483648)) (hi := 2147483647) rfl dX12_keepsDay_54 (fun x14 k13 h12 => ?_)
        refine tw_iast hx hb hK hS hz_b10 hk_b10 (Or.inl rfl) hn_b10 h_a1 ⟨by decide, by decide⟩ h12 (rg_s14 ⟨by decide, by decide⟩) (jl := 0) (jh := 1999999) ⟨by decide, by decide⟩ rfl dX12_keepsDay_57 (fun H locs M17 hS k15 f16 => ?_)
        exact tw_endv hx hb hr hlocks hK hT hS hQ (trivial) dX12_keepsDay_58
      · have q18 : x1.toInt < 10 := ti_nle c7
        have h19 : iv 0 9 x1 := iv_ltL (y := 10) h_x1 (iv_c (c := 10) (n := 10) (by decide)) q18 (by decide)
        refine lv_aload_n hx hb dX12_keepsDay_8 rfl (lv_at hl 1 rfl) ?_
        refine tw_getr hx hb hW hown hK hS f_X12_93_11 hz_a0 hk_a0 (t := 14) (n := 3010) rfl dX12_keepsDay_9 (fun b20 k21 hz_b20 hk_b20 hn_b20 => ?_)
        have hn_b20 := hn_b20 (by decide)
        refine lv_bipush (v := 10) hx hb dX12_keepsDay_12 (by decide) ?_
        refine lv_iload_n hx hb dX12_keepsDay_14 rfl (lv_at hl 2 rfl) ?_
        refine tw_icmul (k := 10) (lo := 0) (hi := 3000) hx hb (by decide) h_a1 (by decide) ⟨by decide, by decide⟩ ⟨by decide, by decide⟩ dX12_keepsDay_15 (fun x24 e23 h22 => ?_)
        refine lv_iload_n hx hb dX12_keepsDay_16 rfl (lv_at hl 0 rfl) ?_
        refine tw_iadd (lo := 0) (hi := 3009) hx hb h22 h19 ⟨by decide, by decide⟩ ⟨by decide, by decide⟩ dX12_keepsDay_17 (fun x27 e26 h25 => ?_)
        refine lv_aload_n hx hb dX12_keepsDay_18 rfl (lv_at hl 1 rfl) ?_
        refine tw_getr hx hb hW hown hK hS f_X12_51_11 hz_a0 hk_a0 (t := 30) (n := 10) rfl dX12_keepsDay_19 (fun b28 k29 hz_b28 hk_b28 hn_b28 => ?_)
        have hn_b28 := hn_b28 (by decide)
        refine lv_iload_n hx hb dX12_keepsDay_22 rfl (lv_at hl 0 rfl) ?_
        refine tw_iald hx hb hK hS hz_b28 hk_b28 (Or.inr (by decide)) hn_b28 (lo := 0) (hi := 9999) h19 ⟨by decide, by decide⟩ rg_u30 dX12_keepsDay_23 (fun x32 k31 h30 => ?_)
        refine tw_iast hx hb hK hS hz_b20 hk_b20 (Or.inl rfl) hn_b20 h25 ⟨by decide, by decide⟩ h30 (rg_s14 ⟨by decide, by decide⟩) (jl := 0) (jh := 1999999) ⟨by decide, by decide⟩ rfl dX12_keepsDay_24 (fun H locs M35 hS k33 f34 => ?_)
        refine lv_aload_n hx hb dX12_keepsDay_25 rfl (lv_at hl 1 rfl) ?_
        refine tw_getr hx hb hW hown hK hS f_X12_96_11 hz_a0 hk_a0 (t := 14) (n := 3010) rfl dX12_keepsDay_26 (fun b36 k37 hz_b36 hk_b36 hn_b36 => ?_)
        have hn_b36 := hn_b36 (by decide)
        refine lv_bipush (v := 10) hx hb dX12_keepsDay_29 (by decide) ?_
        refine lv_iload_n hx hb dX12_keepsDay_31 rfl (lv_at hl 2 rfl) ?_
        refine tw_icmul (k := 10) (lo := 0) (hi := 3000) hx hb (by decide) h_a1 (by decide) ⟨by decide, by decide⟩ ⟨by decide, by decide⟩ dX12_keepsDay_32 (fun x40 e39 h38 => ?_)
        refine lv_iload_n hx hb dX12_keepsDay_33 rfl (lv_at hl 0 rfl) ?_
        refine tw_iadd (lo := 0) (hi := 3009) hx hb h38 h19 ⟨by decide, by decide⟩ ⟨by decide, by decide⟩ dX12_keepsDay_34 (fun x43 e42 h41 => ?_)
        refine lv_aload_n hx hb dX12_keepsDay_35 rfl (lv_at hl 1 rfl) ?_
        refine tw_getr hx hb hW hown hK hS f_X12_57_11 hz_a0 hk_a0 (t := 14) (n := 10) rfl dX12_keepsDay_36 (fun b44 k45 hz_b44 hk_b44 hn_b44 => ?_)
        have hn_b44 := hn_b44 (by decide)
        refine lv_iload_n hx hb dX12_keepsDay_39 rfl (lv_at hl 0 rfl) ?_
        refine tw_iald hx hb hK hS hz_b44 hk_b44 (Or.inl rfl) hn_b44 (lo := (-2147483648)) (hi := 2147483647) h19 ⟨by decide, by decide⟩ rg_u14 dX12_keepsDay_40 (fun x48 k47 h46 => ?_)
        refine tw_iast hx hb hK hS hz_b36 hk_b36 (Or.inl rfl) hn_b36 h41 ⟨by decide, by decide⟩ h46 (rg_s14 ⟨by decide, by decide⟩) (jl := 0) (jh := 1999999) ⟨by decide, by decide⟩ rfl dX12_keepsDay_41 (fun H locs M51 hS k49 f50 => ?_)
        refine tw_iinc (lv' := fun x54 => [(2, .int x54), (0, .ref (base + a0)), (1, .int a1)]) (lo := 1) (hi := 10) hx hb dX12_keepsDay_42 hl (k := 0) rfl h19 (by decide) ⟨by decide, by decide⟩ ⟨by decide, by decide⟩ (by decide) (fun _ => rfl) (fun x54 ls e53 h52 hl => ?_)
        refine lv_goto (tgt := 2) hx hb dX12_keepsDay_45 (by decide) ?_
        have hm55 : 10 - x54.toInt < (n_2 : Int) := by
          have := (h_a1).1; have := (h_a1).2; have := (h19).1; have := (h19).2; have := (h25).1; have := (h25).2; have := (h41).1; have := (h41).2; have := (h52).1; have := (h52).2; omega
        exact ih_2 x54 M51 R3 J4 H locs _ (iv_mono h52 (by decide) (by decide)) hm55 hS hl
  have hm56 : 10 - (0 : Int32).toInt < (((11 : Nat) : Int) : Int) := by
    have := (h_a1).1; have := (h_a1).2; have : (0 : Int32).toInt = 0 := (by decide); omega
  exact W2_2 11 0 Ma Ra Ja s.heap [] _ (iv_mono (iv_c (c := 0) (n := 0) (by decide)) (by decide) (by decide)) hm56 hS hl
def Lt_X12_mostAlike : WL := [(12, 28, 29), (12, 31, 33), (14, 0, 2000000), (30, 0, 2000000)]
def LRt_X12_mostAlike : WL := []
set_option maxRecDepth 100000 in
set_option maxHeartbeats 4000000 in
theorem t_X12_mostAlike (l : Launch) (D : va_G) (cy : Nat → ClassId) (tx : (Nat → Nat) × (Nat → Nat)) (base Z : Nat) (K N : Nat → Nat) (Ma : MT) (Ra : RT) (Ja : JT) (hTy : Ty Z K N Ma Ra) (a0 : Nat) (hz_a0 : a0 < Z) (hk_a0 : K a0 = 12) (a1 : Int32) (h_a1 : iv 1 2147483647 a1) (a2 : Int32) (h_a2 : iv 1 6 a2) (sd : Nat) (k_sd : Ra a0 25 = some sd) (e0 : Int32) (k_e0 : Ma sd (0 : Int32).toNatClampNeg = e0) (h_e0 : iv 1 5 e0) : Met l yX12_mostAlike [Cond.code yX12_mostAlike cX12_mostAlike 6 (some .int)] (md_rm 6 0 0) (va_Pc [.ref (base + a0), .int a1, .int a2] (md_U D cy tx base Z K N Ma Ra Ja)) (mQi D cy tx base (fun r u => TP Z K N Lt_X12_mostAlike LRt_X12_mostAlike Ma Ra u ∧ (iv 0 2147483647 r))) 0 0 (fun q => base ≤ q) := by
  refine tw_ofW (L := Lt_X12_mostAlike) (LR := LRt_X12_mostAlike) (by decide) (Nat.le_of_ble_eq_true rfl) hTy ?_
  intro p e s m args below meth c Q ls hx hb hr hlocks hown hml hW hK hT hS hQ hl
  have hl : lv_has ls 6 [(0, .ref (base + a0)), (1, .int a1), (2, .int a2)] := hl
  obtain ⟨hz_sd, hk_sd, hn_sd⟩ := hTy.refn hz_a0 hk_a0 (show rtR 12 25 = (23, 226, 0) from rfl) k_sd
  have hn_sd := hn_sd (by decide)
  refine lv_iconst (v := 0) hx hb dX12_mostAlike_0 (by decide) ?_
  refine lv_istore_n (lv' := [(3, .int 0), (0, .ref (base + a0)), (1, .int a1), (2, .int a2)]) hx hb dX12_mostAlike_1 rfl hl (by decide) rfl (fun ls hl => ?_)
  have W2_2 : ∀ (n_2 : Nat) (x1 : Int32) (M2 : MT) (R3 : RT) (J4 : JT) (H : Heap) (locs : List Loc) (ls : Array Slot) (h_x1 : iv 0 50001 x1) (hm_2 : 50001 - x1.toInt < (n_2 : Int)) (hS : SB D cy base Z K N Lt_X12_mostAlike LRt_X12_mostAlike Ma Ra M2 R3 J4 s H locs) (hl : lv_has ls 6 [(3, .int x1), (0, .ref (base + a0)), (1, .int a1), (2, .int a2)]), W p l e (md_rm 6 0 0) s m args below meth c H locs 0 0 Q (F0 m 2 ls []) := by
    intro n_2
    induction n_2 with
    | zero =>
      intro x1 M2 R3 J4 H locs ls h_x1 hm_2 hS hl
      exfalso
      have := (h_a1).1; have := (h_a1).2; have := (h_a2).1; have := (h_a2).2; have := (h_e0).1; have := (h_e0).2; have := (h_x1).1; have := (h_x1).2; omega
    | succ n_2 ih_2 =>
      intro x1 M2 R3 J4 H locs ls h_x1 hm_2 hS hl
      have f5 := hS.2.2.1
      have g6 := hS.2.2.2
      refine lv_iload_n hx hb dX12_mostAlike_2 rfl (lv_at hl 0 rfl) ?_
      refine lv_ldc hx hb hown (hW _ w_6_39 rfl) dX12_mostAlike_3 ?_
      refine lv_icmp_ge (tgt := 21) hx hb dX12_mostAlike_5 (by decide) (fun c7 => ?_) (fun c7 => ?_)
      · have q8 : 50001 ≤ x1.toInt := ti_le c7
        have h9 : iv 50001 50001 x1 := iv_geL (y := 50001) h_x1 (iv_c (c := 50001) (n := 50001) (by decide)) q8 (by decide)
        refine lv_iconst (v := 0) hx hb dX12_mostAlike_21 (by decide) ?_
        refine lv_istore_n (lv' := [(3, .int 0), (0, .ref (base + a0)), (1, .int a1), (2, .int a2)]) hx hb dX12_mostAlike_22 rfl hl (by decide) rfl (fun ls hl => ?_)
        refine lv_iconst (v := 0) hx hb dX12_mostAlike_23 (by decide) ?_
        refine lv_istore (lv' := [(4, .int 0), (3, .int 0), (0, .ref (base + a0)), (1, .int a1), (2, .int a2)]) hx hb dX12_mostAlike_24 hl (by decide) rfl (fun ls hl => ?_)
        have W26_12 : ∀ (n_12 : Nat) (x10 : Int32) (x11 : Int32) (M12 : MT) (R13 : RT) (J14 : JT) (H : Heap) (locs : List Loc) (ls : Array Slot) (h_x10 : iv 0 2147483647 x10) (h_x11 : iv 0 2147483647 x11) (hm_12 : 2147483647 - x11.toInt < (n_12 : Int)) (hS : SB D cy base Z K N Lt_X12_mostAlike LRt_X12_mostAlike Ma Ra M12 R13 J14 s H locs) (hl : lv_has ls 6 [(3, .int x10), (4, .int x11), (0, .ref (base + a0)), (1, .int a1), (2, .int a2)]), W p l e (md_rm 6 0 0) s m args below meth c H locs 0 0 Q (F0 m 26 ls []) := by
          intro n_12
          induction n_12 with
          | zero =>
            intro x10 x11 M12 R13 J14 H locs ls h_x10 h_x11 hm_12 hS hl
            exfalso
            have := (h_a1).1; have := (h_a1).2; have := (h_a2).1; have := (h_a2).2; have := (h_e0).1; have := (h_e0).2; have := (h_x11).1; have := (h_x11).2; omega
          | succ n_12 ih_12 =>
            intro x10 x11 M12 R13 J14 H locs ls h_x10 h_x11 hm_12 hS hl
            have f15 := hS.2.2.1
            have g16 := hS.2.2.2
            refine lv_iload hx hb dX12_mostAlike_26 (lv_at hl 1 rfl) ?_
            refine lv_aload_n hx hb dX12_mostAlike_28 rfl (lv_at hl 2 rfl) ?_
            refine lv_iload_n hx hb dX12_mostAlike_29 rfl (lv_at hl 4 rfl) ?_
            refine tw_goi hS (md_runV (As := [.int a2]) (rest := [.int x11]) hx hb hml hown hW hK hT hS.1 (t_X12_waysOf l D cy tx base Z K N M12 R13 J14 hS.2.1 a0 hz_a0 hk_a0 a2 h_a2) s_X12_489 ⟨rfl, rfl, ⟨Nat.le_of_ble_eq_true rfl, Nat.le_of_ble_eq_true rfl⟩, ⟨Nat.le_of_ble_eq_true rfl, Nat.le_of_ble_eq_true rfl⟩⟩ hz_a0 hk_a0 (by decide) rfl rfl hl.1 rfl (Nat.le_of_ble_eq_true rfl) dX12_mostAlike_30) rfl rfl (fun x23 H locs M20 R21 J19 hS f17 g18 E22 => ?_)
            have eM20 := Fr.nil f17 rfl
            subst eM20
            have eR21 := Fr.nil g18 rfl
            subst eR21
            have h_x23 := E22
            refine lv_icmp_ge (tgt := 96) hx hb dX12_mostAlike_33 (by decide) (fun c24 => ?_) (fun c24 => ?_)
            · have q25 : x23.toInt ≤ x11.toInt := ti_le c24
              refine lv_iload_n hx hb dX12_mostAlike_96 rfl (lv_at hl 0 rfl) ?_
              exact tw_endi hx hb hr hlocks hK hT hS hQ (h_x10) dX12_mostAlike_97
            · have q26 : x11.toInt < x23.toInt := ti_nle c24
              have h27 : iv 0 2147483646 x11 := iv_ltL (y := x23) h_x11 h_x23 q26 (by decide)
              have h28 : iv 1 2147483647 x23 := iv_gtL (y := x11) h_x23 h_x11 q26 (by decide)
              refine lv_aload_n hx hb dX12_mostAlike_36 rfl (lv_at hl 2 rfl) ?_
              refine lv_iload hx hb dX12_mostAlike_37 (lv_at hl 1 rfl) ?_
              refine lv_iload_n hx hb dX12_mostAlike_39 rfl (lv_at hl 4 rfl) ?_
              refine tw_goi hS (md_runV (As := [.int x11, .int a2]) (rest := []) hx hb hml hown hW hK hT hS.1 (t_X12_holds l D cy tx base Z K N M12 R13 J19 hS.2.1 a0 hz_a0 hk_a0 x11 (iv_mono h27 (by decide) (by decide)) a2 h_a2) s_X12_492 ⟨rfl, rfl, ⟨Nat.le_of_ble_eq_true rfl, Nat.le_of_ble_eq_true rfl⟩, ⟨Nat.le_of_ble_eq_true rfl, Nat.le_of_ble_eq_true rfl⟩⟩ hz_a0 hk_a0 (by decide) rfl rfl hl.1 rfl (Nat.le_of_ble_eq_true rfl) dX12_mostAlike_40) rfl rfl (fun x35 H locs M32 R33 J31 hS f29 g30 E34 => ?_)
              have eR33 := Fr.nil g30 rfl
              subst eR33
              have h_x35 := E34
              refine lv_if_ne (tgt := 49) hx hb dX12_mostAlike_43 (by decide) (fun c36 => ?_) (fun c36 => ?_)
              · have q37 : ¬ x35.toInt = 0 := ti_ne c36
                have h38 : iv 1 1 x35 := ⟨by have := (h_x35).1; have := ((iv_c (c := 0) (n := 0) (by decide))).1; have := ((iv_c (c := 0) (n := 0) (by decide))).2; omega, by have := (h_x35).2; have := ((iv_c (c := 0) (n := 0) (by decide))).1; have := ((iv_c (c := 0) (n := 0) (by decide))).2; omega⟩
                refine lv_aload_n hx hb dX12_mostAlike_49 rfl (lv_at hl 2 rfl) ?_
                refine lv_iload_n hx hb dX12_mostAlike_50 rfl (lv_at hl 3 rfl) ?_
                have k39 : R13 a0 25 = some sd := (Fr.kp (k := 25) g16 hk_a0 rfl).trans k_sd
                have k40 : M32 sd (0 : Int32).toNatClampNeg = e0 := ((Fr.kp (k := (0 : Int32).toNatClampNeg) f29 hk_sd rfl).trans (Fr.kp (k := (0 : Int32).toNatClampNeg) f15 hk_sd rfl)).trans k_e0
                refine tw_goi hS (md_runV (As := [.int a1]) (rest := []) hx hb hml hown hW hK hT hS.1 (t_X12_voicesOf l D cy tx base Z K N M32 R13 J31 hS.2.1 a0 hz_a0 hk_a0 a1 (iv_mono h_a1 (by decide) (by decide)) sd k39 e0 k40 (iv_mono h_e0 (by decide) (by decide))) s_X12_380 ⟨rfl, rfl, ⟨Nat.le_of_ble_eq_true rfl, Nat.le_of_ble_eq_true rfl⟩, ⟨Nat.le_of_ble_eq_true rfl, Nat.le_of_ble_eq_true rfl⟩⟩ hz_a0 hk_a0 (by decide) rfl rfl hl.1 rfl (Nat.le_of_ble_eq_true rfl) dX12_mostAlike_51) rfl rfl (fun x47 H locs M44 R45 J43 hS f41 g42 E46 => ?_)
                have eM44 := Fr.nil f41 rfl
                subst eM44
                have eR45 := Fr.nil g42 rfl
                subst eR45
                obtain ⟨h_x47, p48⟩ := E46
                have h49 : iv 0 49995 x47 := ⟨(h_x47).1, by have := (h_e0).2; omega⟩
                refine lv_istore (lv' := [(5, .int x47), (3, .int x10), (4, .int x11), (0, .ref (base + a0)), (1, .int a1), (2, .int a2)]) hx hb dX12_mostAlike_54 hl (by decide) rfl (fun ls hl => ?_)
                refine lv_aload_n hx hb dX12_mostAlike_56 rfl (lv_at hl 3 rfl) ?_
                refine tw_getr hx hb hW hown hK hS f_X12_106_11 hz_a0 hk_a0 (t := 14) (n := 50001) rfl dX12_mostAlike_57 (fun b50 k51 hz_b50 hk_b50 hn_b50 => ?_)
                have hn_b50 := hn_b50 (by decide)
                refine lv_iload hx hb dX12_mostAlike_60 (lv_at hl 0 rfl) ?_
                refine lv_dup2_11 hx hb dX12_mostAlike_62 rfl rfl ?_
                refine tw_iald hx hb hK hS hz_b50 hk_b50 (Or.inl rfl) hn_b50 (lo := (-2147483648)) (hi := 2147483647) h49 ⟨by decide, by decide⟩ rg_u14 dX12_mostAlike_63 (fun x54 k53 h52 => ?_)
                refine lv_iconst (v := 1) hx hb dX12_mostAlike_64 (by decide) ?_
                refine lv_iadd hx hb dX12_mostAlike_65 ?_
                refine tw_top (fun x56 => ?_)
                have h55 := iv_any x56
                refine tw_iast hx hb hK hS hz_b50 hk_b50 (Or.inl rfl) hn_b50 h49 ⟨by decide, by decide⟩ h55 (rg_s14 ⟨by decide, by decide⟩) (jl := 0) (jh := 1999999) ⟨by decide, by decide⟩ rfl dX12_mostAlike_66 (fun H locs M59 hS k57 f58 => ?_)
                refine lv_aload_n hx hb dX12_mostAlike_67 rfl (lv_at hl 3 rfl) ?_
                refine tw_getrk hx hb hW hown hK hS f_X12_106_11 hz_a0 hk_a0 (b := b50) k51 dX12_mostAlike_68 ?_
                refine lv_iload hx hb dX12_mostAlike_71 (lv_at hl 0 rfl) ?_
                refine tw_ialk hx hb hK hS hz_b50 hk_b50 (Or.inl rfl) hn_b50 h49 ⟨by decide, by decide⟩ (v := x56) k57 dX12_mostAlike_73 ?_
                refine lv_iload_n hx hb dX12_mostAlike_74 rfl (lv_at hl 1 rfl) ?_
                refine lv_icmp_le (tgt := 88) hx hb dX12_mostAlike_75 (by decide) (fun c60 => ?_) (fun c60 => ?_)
                · have q61 : x56.toInt ≤ x10.toInt := ti_le c60
                  refine lv_iload_n hx hb dX12_mostAlike_88 rfl (lv_at hl 1 rfl) ?_
                  refine lv_istore_n (lv' := [(3, .int x10), (5, .int x47), (4, .int x11), (0, .ref (base + a0)), (1, .int a1), (2, .int a2)]) hx hb dX12_mostAlike_89 rfl hl (by decide) rfl (fun ls hl => ?_)
                  refine tw_iinc (lv' := fun x64 => [(4, .int x64), (3, .int x10), (5, .int x47), (0, .ref (base + a0)), (1, .int a1), (2, .int a2)]) (lo := 1) (hi := 2147483647) hx hb dX12_mostAlike_90 hl (k := 2) rfl h27 (by decide) ⟨by decide, by decide⟩ ⟨by decide, by decide⟩ (by decide) (fun _ => rfl) (fun x64 ls e63 h62 hl => ?_)
                  refine lv_goto (tgt := 26) hx hb dX12_mostAlike_93 (by decide) ?_
                  have hm65 : 2147483647 - x64.toInt < (n_12 : Int) := by
                    have := (h_a1).1; have := (h_a1).2; have := (h_a2).1; have := (h_a2).2; have := (h_e0).1; have := (h_e0).2; have := (h27).1; have := (h27).2; have := (h62).1; have := (h62).2; omega
                  exact ih_12 x10 x64 M59 R13 J43 H locs _ h_x10 (iv_mono h62 (by decide) (by decide)) hm65 hS (lv_sub hl [1, 0, 3, 4, 5] rfl)
                · have q66 : x10.toInt < x56.toInt := ti_nle c60
                  have h67 : iv 1 2147483647 x56 := iv_gtL (y := x10) h55 h_x10 q66 (by decide)
                  have h68 : iv 0 2147483646 x10 := iv_ltL (y := x56) h_x10 h55 q66 (by decide)
                  refine lv_aload_n hx hb dX12_mostAlike_78 rfl (lv_at hl 3 rfl) ?_
                  refine tw_getrk hx hb hW hown hK hS f_X12_106_11 hz_a0 hk_a0 (b := b50) k51 dX12_mostAlike_79 ?_
                  refine lv_iload hx hb dX12_mostAlike_82 (lv_at hl 0 rfl) ?_
                  refine tw_ialk hx hb hK hS hz_b50 hk_b50 (Or.inl rfl) hn_b50 h49 ⟨by decide, by decide⟩ (v := x56) k57 dX12_mostAlike_84 ?_
                  refine lv_goto (tgt := 89) hx hb dX12_mostAlike_85 (by decide) ?_
                  refine lv_istore_n (lv' := [(3, .int x56), (5, .int x47), (4, .int x11), (0, .ref (base + a0)), (1, .int a1), (2, .int a2)]) hx hb dX12_mostAlike_89 rfl hl (by decide) rfl (fun ls hl => ?_)
                  refine tw_iinc (lv' := fun x71 => [(4, .int x71), (3, .int x56), (5, .int x47), (0, .ref (base + a0)), (1, .int a1), (2, .int a2)]) (lo := 1) (hi := 2147483647) hx hb dX12_mostAlike_90 hl (k := 2) rfl h27 (by decide) ⟨by decide, by decide⟩ ⟨by decide, by decide⟩ (by decide) (fun _ => rfl) (fun x71 ls e70 h69 hl => ?_)
                  refine lv_goto (tgt := 26) hx hb dX12_mostAlike_93 (by decide) ?_
                  have hm72 : 2147483647 - x71.toInt < (n_12 : Int) := by
                    have := (h_a1).1; have := (h_a1).2; have := (h_a2).1; have := (h_a2).2; have := (h_e0).1; have := (h_e0).2; have := (h27).1; have := (h27).2; have := (h69).1; have := (h69).2; omega
                  exact ih_12 x56 x71 M59 R13 J43 H locs _ (iv_mono h67 (by decide) (by decide)) (iv_mono h69 (by decide) (by decide)) hm72 hS (lv_sub hl [1, 0, 3, 4, 5] rfl)
              · have q73 : x35.toInt = 0 := ti_eq c36
                have h74 : iv 0 0 x35 := ⟨by have := (h_x35).1; have := ((iv_c (c := 0) (n := 0) (by decide))).1; omega, by have := (h_x35).2; have := ((iv_c (c := 0) (n := 0) (by decide))).2; omega⟩
                refine lv_goto (tgt := 90) hx hb dX12_mostAlike_46 (by decide) ?_
                refine tw_iinc (lv' := fun x77 => [(4, .int x77), (3, .int x10), (0, .ref (base + a0)), (1, .int a1), (2, .int a2)]) (lo := 1) (hi := 2147483647) hx hb dX12_mostAlike_90 hl (k := 1) rfl h27 (by decide) ⟨by decide, by decide⟩ ⟨by decide, by decide⟩ (by decide) (fun _ => rfl) (fun x77 ls e76 h75 hl => ?_)
                refine lv_goto (tgt := 26) hx hb dX12_mostAlike_93 (by decide) ?_
                have hm78 : 2147483647 - x77.toInt < (n_12 : Int) := by
                  have := (h_a1).1; have := (h_a1).2; have := (h_a2).1; have := (h_a2).2; have := (h_e0).1; have := (h_e0).2; have := (h27).1; have := (h27).2; have := (h75).1; have := (h75).2; omega
                exact ih_12 x10 x77 M32 R13 J31 H locs _ h_x10 (iv_mono h75 (by decide) (by decide)) hm78 hS (lv_sub hl [1, 0, 2, 3, 4] rfl)
        have hm79 : 2147483647 - (0 : Int32).toInt < (((2147483648 : Nat) : Int) : Int) := by
          have := (h_a1).1; have := (h_a1).2; have := (h_a2).1; have := (h_a2).2; have := (h_e0).1; have := (h_e0).2; have : (0 : Int32).toInt = 0 := (by decide); omega
        exact W26_12 2147483648 0 0 M2 R3 J4 H locs _ (iv_mono (iv_c (c := 0) (n := 0) (by decide)) (by decide) (by decide)) (iv_mono (iv_c (c := 0) (n := 0) (by decide)) (by decide) (by decide)) hm79 hS (lv_sub hl [1, 0, 2, 3, 4] rfl)
      · have q80 : x1.toInt < 50001 := ti_nle c7
        have h81 : iv 0 50000 x1 := iv_ltL (y := 50001) h_x1 (iv_c (c := 50001) (n := 50001) (by decide)) q80 (by decide)
        refine lv_aload_n hx hb dX12_mostAlike_8 rfl (lv_at hl 1 rfl) ?_
        refine tw_getr hx hb hW hown hK hS f_X12_106_11 hz_a0 hk_a0 (t := 14) (n := 50001) rfl dX12_mostAlike_9 (fun b82 k83 hz_b82 hk_b82 hn_b82 => ?_)
        have hn_b82 := hn_b82 (by decide)
        refine lv_iload_n hx hb dX12_mostAlike_12 rfl (lv_at hl 0 rfl) ?_
        refine lv_iconst (v := 0) hx hb dX12_mostAlike_13 (by decide) ?_
        refine tw_iast hx hb hK hS hz_b82 hk_b82 (Or.inl rfl) hn_b82 h81 ⟨by decide, by decide⟩ (iv_c (c := 0) (n := 0) (by decide)) (rg_s14 ⟨by decide, by decide⟩) (jl := 0) (jh := 1999999) ⟨by decide, by decide⟩ rfl dX12_mostAlike_14 (fun H locs M86 hS k84 f85 => ?_)
        refine tw_iinc (lv' := fun x89 => [(3, .int x89), (0, .ref (base + a0)), (1, .int a1), (2, .int a2)]) (lo := 1) (hi := 50001) hx hb dX12_mostAlike_15 hl (k := 0) rfl h81 (by decide) ⟨by decide, by decide⟩ ⟨by decide, by decide⟩ (by decide) (fun _ => rfl) (fun x89 ls e88 h87 hl => ?_)
        refine lv_goto (tgt := 2) hx hb dX12_mostAlike_18 (by decide) ?_
        have hm90 : 50001 - x89.toInt < (n_2 : Int) := by
          have := (h_a1).1; have := (h_a1).2; have := (h_a2).1; have := (h_a2).2; have := (h_e0).1; have := (h_e0).2; have := (h81).1; have := (h81).2; have := (h87).1; have := (h87).2; omega
        exact ih_2 x89 M86 R3 J4 H locs _ (iv_mono h87 (by decide) (by decide)) hm90 hS hl
  have hm91 : 50001 - (0 : Int32).toInt < (((50002 : Nat) : Int) : Int) := by
    have := (h_a1).1; have := (h_a1).2; have := (h_a2).1; have := (h_a2).2; have := (h_e0).1; have := (h_e0).2; have : (0 : Int32).toInt = 0 := (by decide); omega
  exact W2_2 50002 0 Ma Ra Ja s.heap [] _ (iv_mono (iv_c (c := 0) (n := 0) (by decide)) (by decide) (by decide)) hm91 hS hl
