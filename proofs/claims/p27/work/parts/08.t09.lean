def Lt_X11_voice : WL := []
def LRt_X11_voice : WL := []
set_option maxRecDepth 100000 in
set_option maxHeartbeats 4000000 in
theorem t_X11_voice (l : Launch) (D : va_G) (cy : Nat → ClassId) (tx : (Nat → Nat) × (Nat → Nat)) (base Z : Nat) (K N : Nat → Nat) (Ma : MT) (Ra : RT) (Ja : JT) (hTy : Ty Z K N Ma Ra) (a0 : Nat) (hz_a0 : a0 < Z) (hk_a0 : K a0 = 11) (a1 : Int32) (h_a1 : iv (-2147483648) 2147483647 a1) (a2 : Int32) (h_a2 : iv (-2147483648) 2147483647 a2) : Met l yX11_voice [Cond.code yX11_voice cX11_voice 3 (some .int)] (md_rm 2 0 0) (va_Pc [.ref (base + a0), .int a1, .int a2] (md_U D cy tx base Z K N Ma Ra Ja)) (mQi D cy tx base (fun r u => TP Z K N Lt_X11_voice LRt_X11_voice Ma Ra u ∧ (iv (-2147483648) 2147483647 r))) 0 0 (fun q => base ≤ q) := by
  refine tw_ofW (L := Lt_X11_voice) (LR := LRt_X11_voice) (by decide) (Nat.le_of_ble_eq_true rfl) hTy ?_
  intro p e s m args below meth c Q ls hx hb hr hlocks hown hml hW hK hT hS hQ hl
  have hl : lv_has ls 3 [(0, .ref (base + a0)), (1, .int a1), (2, .int a2)] := hl
  refine lv_aload_n hx hb dX11_voice_0 rfl (lv_at hl 0 rfl) ?_
  refine tw_getr hx hb hW hown hK hS f_X11_31_10 hz_a0 hk_a0 (t := 10) (n := 0) rfl dX11_voice_1 (fun b1 k2 hz_b1 hk_b1 hn_b1 => ?_)
  refine lv_iload_n hx hb dX11_voice_4 rfl (lv_at hl 1 rfl) ?_
  refine tw_goi hS (md_runV (As := [.int a1]) (rest := []) hx hb hml hown hW hK hT hS.1 (t_X9_hasMember l D cy tx base Z K N Ma Ra Ja hS.2.1 b1 hz_b1 hk_b1 a1 h_a1) s_X11_132 ⟨rfl, rfl, ⟨Nat.le_of_ble_eq_true rfl, Nat.le_of_ble_eq_true rfl⟩, ⟨Nat.le_of_ble_eq_true rfl, Nat.le_of_ble_eq_true rfl⟩⟩ hz_b1 hk_b1 (by decide) rfl rfl hl.1 rfl (Nat.le_of_ble_eq_true rfl) dX11_voice_5) rfl rfl (fun x9 H locs M6 R7 J5 hS f3 g4 E8 => ?_)
  have eM6 := Fr.nil f3 rfl
  subst eM6
  have eR7 := Fr.nil g4 rfl
  subst eR7
  obtain ⟨h_x9, p10⟩ := E8
  refine lv_if_ne (tgt := 13) hx hb dX11_voice_8 (by decide) (fun c11 => ?_) (fun c11 => ?_)
  · have q12 : ¬ x9.toInt = 0 := ti_ne c11
    have h13 : iv 1 1 x9 := ⟨by have := (h_x9).1; have := ((iv_c (c := 0) (n := 0) (by decide))).1; have := ((iv_c (c := 0) (n := 0) (by decide))).2; omega, by have := (h_x9).2; have := ((iv_c (c := 0) (n := 0) (by decide))).1; have := ((iv_c (c := 0) (n := 0) (by decide))).2; omega⟩
    have h14 : iv 0 9 a1 := ⟨by have := (p10 c11).1; have := (h_a1).1; omega, by have := (p10 c11).2; have := (h_a1).2; omega⟩
    refine lv_iload_n hx hb dX11_voice_13 rfl (lv_at hl 2 rfl) ?_
    by_cases c15 : a2 = 0
    · subst c15
      refine lv_tableIn (off := 34) (tgt := 48) hx hb dX11_voice_14 (by decide) (by decide) rfl (by decide) ?_
      refine lv_aload_n hx hb dX11_voice_48 rfl (lv_at hl 0 rfl) ?_
      refine tw_getrk hx hb hW hown hK hS f_X11_31_10 hz_a0 hk_a0 (b := b1) k2 dX11_voice_49 ?_
      refine tw_getr hx hb hW hown hK hS f_X11_136_9 hz_b1 hk_b1 (t := 20) (n := 10) rfl dX11_voice_52 (fun b16 k17 hz_b16 hk_b16 hn_b16 => ?_)
      have hn_b16 := hn_b16 (by decide)
      refine lv_iload_n hx hb dX11_voice_55 rfl (lv_at hl 1 rfl) ?_
      refine tw_iald hx hb hK hS hz_b16 hk_b16 (Or.inr (by decide)) hn_b16 (lo := (-2147483648)) (hi := 2147483647) h14 ⟨by decide, by decide⟩ rg_u20 dX11_voice_56 (fun x20 k19 h18 => ?_)
      exact tw_endi hx hb hr hlocks hK hT hS hQ (h18) dX11_voice_57
    have q21 : ¬ a2.toInt = 0 := ti_ne c15
    by_cases c22 : a2 = 1
    · subst c22
      refine lv_tableIn (off := 44) (tgt := 58) hx hb dX11_voice_14 (by decide) (by decide) rfl (by decide) ?_
      refine lv_aload_n hx hb dX11_voice_58 rfl (lv_at hl 0 rfl) ?_
      refine tw_getrk hx hb hW hown hK hS f_X11_31_10 hz_a0 hk_a0 (b := b1) k2 dX11_voice_59 ?_
      refine tw_getr hx hb hW hown hK hS f_X11_139_9 hz_b1 hk_b1 (t := 14) (n := 10) rfl dX11_voice_62 (fun b23 k24 hz_b23 hk_b23 hn_b23 => ?_)
      have hn_b23 := hn_b23 (by decide)
      refine lv_iload_n hx hb dX11_voice_65 rfl (lv_at hl 1 rfl) ?_
      refine tw_iald hx hb hK hS hz_b23 hk_b23 (Or.inl rfl) hn_b23 (lo := (-2147483648)) (hi := 2147483647) h14 ⟨by decide, by decide⟩ rg_u14 dX11_voice_66 (fun x27 k26 h25 => ?_)
      exact tw_endi hx hb hr hlocks hK hT hS hQ (h25) dX11_voice_67
    have q28 : ¬ a2.toInt = 1 := ti_ne c22
    by_cases c29 : a2 = 2
    · subst c29
      refine lv_tableIn (off := 54) (tgt := 68) hx hb dX11_voice_14 (by decide) (by decide) rfl (by decide) ?_
      refine lv_aload_n hx hb dX11_voice_68 rfl (lv_at hl 0 rfl) ?_
      refine tw_getrk hx hb hW hown hK hS f_X11_31_10 hz_a0 hk_a0 (b := b1) k2 dX11_voice_69 ?_
      refine tw_geti hx hb hW hown hK hS f_X11_142_9 hz_b1 hk_b1 (lo := (-2147483648)) (hi := 2147483647) rfl dX11_voice_72 (fun x32 k31 h30 => ?_)
      refine lv_iload_n hx hb dX11_voice_75 rfl (lv_at hl 1 rfl) ?_
      refine lv_ishr hx hb dX11_voice_76 ?_
      refine tw_top (fun x34 => ?_)
      have h33 := iv_any x34
      refine lv_iconst (v := 1) hx hb dX11_voice_77 (by decide) ?_
      refine tw_iand (hi := 1) hx hb (iv_mono (iv_c (c := 1) (n := 1) (by decide)) (lo := 0) (hi := 1) (by decide) (by decide)) (by decide) dX11_voice_78 (fun x37 h35 => ?_)
      exact tw_endi hx hb hr hlocks hK hT hS hQ ((iv_mono h35 (by decide) (by decide))) dX11_voice_79
    have q38 : ¬ a2.toInt = 2 := ti_ne c29
    by_cases c39 : a2 = 3
    · subst c39
      refine lv_tableIn (off := 66) (tgt := 80) hx hb dX11_voice_14 (by decide) (by decide) rfl (by decide) ?_
      refine lv_aload_n hx hb dX11_voice_80 rfl (lv_at hl 0 rfl) ?_
      refine tw_getrk hx hb hW hown hK hS f_X11_31_10 hz_a0 hk_a0 (b := b1) k2 dX11_voice_81 ?_
      refine tw_getr hx hb hW hown hK hS f_X11_145_9 hz_b1 hk_b1 (t := 14) (n := 10) rfl dX11_voice_84 (fun b40 k41 hz_b40 hk_b40 hn_b40 => ?_)
      have hn_b40 := hn_b40 (by decide)
      refine lv_iload_n hx hb dX11_voice_87 rfl (lv_at hl 1 rfl) ?_
      refine tw_iald hx hb hK hS hz_b40 hk_b40 (Or.inl rfl) hn_b40 (lo := (-2147483648)) (hi := 2147483647) h14 ⟨by decide, by decide⟩ rg_u14 dX11_voice_88 (fun x44 k43 h42 => ?_)
      exact tw_endi hx hb hr hlocks hK hT hS hQ (h42) dX11_voice_89
    have q45 : ¬ a2.toInt = 3 := ti_ne c39
    by_cases c46 : a2 = 4
    · subst c46
      refine lv_tableIn (off := 76) (tgt := 90) hx hb dX11_voice_14 (by decide) (by decide) rfl (by decide) ?_
      refine lv_aload_n hx hb dX11_voice_90 rfl (lv_at hl 0 rfl) ?_
      refine tw_getrk hx hb hW hown hK hS f_X11_31_10 hz_a0 hk_a0 (b := b1) k2 dX11_voice_91 ?_
      refine tw_getr hx hb hW hown hK hS f_X11_148_9 hz_b1 hk_b1 (t := 14) (n := 10) rfl dX11_voice_94 (fun b47 k48 hz_b47 hk_b47 hn_b47 => ?_)
      have hn_b47 := hn_b47 (by decide)
      refine lv_iload_n hx hb dX11_voice_97 rfl (lv_at hl 1 rfl) ?_
      refine tw_iald hx hb hK hS hz_b47 hk_b47 (Or.inl rfl) hn_b47 (lo := (-2147483648)) (hi := 2147483647) h14 ⟨by decide, by decide⟩ rg_u14 dX11_voice_98 (fun x51 k50 h49 => ?_)
      exact tw_endi hx hb hr hlocks hK hT hS hQ (h49) dX11_voice_99
    have q52 : ¬ a2.toInt = 4 := ti_ne c46
    refine lv_tableOut (tgt := 100) hx hb dX11_voice_14 (by have := (h_a2).1; have := (h_a2).2; omega) (by decide) ?_
    refine lv_iconst (v := (-1)) hx hb dX11_voice_100 (by decide) ?_
    exact tw_endi hx hb hr hlocks hK hT hS hQ ((iv_mono (iv_c (c := (-1)) (n := (-1)) (by decide)) (by decide) (by decide))) dX11_voice_101
  · have q53 : x9.toInt = 0 := ti_eq c11
    have h54 : iv 0 0 x9 := ⟨by have := (h_x9).1; have := ((iv_c (c := 0) (n := 0) (by decide))).1; omega, by have := (h_x9).2; have := ((iv_c (c := 0) (n := 0) (by decide))).2; omega⟩
    refine lv_iconst (v := (-1)) hx hb dX11_voice_11 (by decide) ?_
    exact tw_endi hx hb hr hlocks hK hT hS hQ ((iv_mono (iv_c (c := (-1)) (n := (-1)) (by decide)) (by decide) (by decide))) dX11_voice_12
def Lt_X11_vote : WL := [(6, 2, 4), (6, 6, 15), (10, 3, 4), (14, 0, 2000000), (20, 0, 2000000)]
def LRt_X11_vote : WL := [(6, 4, 5)]
set_option maxRecDepth 100000 in
set_option maxHeartbeats 4000000 in
theorem t_X11_vote (l : Launch) (D : va_G) (cy : Nat → ClassId) (tx : (Nat → Nat) × (Nat → Nat)) (base Z : Nat) (K N : Nat → Nat) (Ma : MT) (Ra : RT) (Ja : JT) (hTy : Ty Z K N Ma Ra) (a0 : Nat) (hz_a0 : a0 < Z) (hk_a0 : K a0 = 11) (a1 : Int32) (h_a1 : iv (-2147483648) 2147483647 a1) : Met l yX11_vote [Cond.code yX11_vote cX11_vote 2 (some .int)] (md_rm 5 0 0) (va_Pc [.ref (base + a0), .int a1] (md_U D cy tx base Z K N Ma Ra Ja)) (mQi D cy tx base (fun r u => TP Z K N Lt_X11_vote LRt_X11_vote Ma Ra u ∧ (iv (-2) 2 r))) 0 0 (fun q => base ≤ q) := by
  refine tw_ofW (L := Lt_X11_vote) (LR := LRt_X11_vote) (by decide) (Nat.le_of_ble_eq_true rfl) hTy ?_
  intro p e s m args below meth c Q ls hx hb hr hlocks hown hml hW hK hT hS hQ hl
  have hl : lv_has ls 2 [(0, .ref (base + a0)), (1, .int a1)] := hl
  refine lv_aload_n hx hb dX11_vote_0 rfl (lv_at hl 0 rfl) ?_
  refine tw_getr hx hb hW hown hK hS f_X11_31_10 hz_a0 hk_a0 (t := 10) (n := 0) rfl dX11_vote_1 (fun b1 k2 hz_b1 hk_b1 hn_b1 => ?_)
  refine lv_iload_n hx hb dX11_vote_4 rfl (lv_at hl 1 rfl) ?_
  refine tw_goi hS (md_runV (As := [.int a1]) (rest := []) hx hb hml hown hW hK hT hS.1 (t_X9_hasPoint l D cy tx base Z K N Ma Ra Ja hS.2.1 b1 hz_b1 hk_b1 a1 h_a1) s_X11_151 ⟨rfl, rfl, ⟨Nat.le_of_ble_eq_true rfl, Nat.le_of_ble_eq_true rfl⟩, ⟨Nat.le_of_ble_eq_true rfl, Nat.le_of_ble_eq_true rfl⟩⟩ hz_b1 hk_b1 (by decide) rfl rfl hl.1 rfl (Nat.le_of_ble_eq_true rfl) dX11_vote_5) rfl rfl (fun x9 H locs M6 R7 J5 hS f3 g4 E8 => ?_)
  have eM6 := Fr.nil f3 rfl
  subst eM6
  have eR7 := Fr.nil g4 rfl
  subst eR7
  obtain ⟨h_x9, p10⟩ := E8
  refine lv_if_ne (tgt := 17) hx hb dX11_vote_8 (by decide) (fun c11 => ?_) (fun c11 => ?_)
  · have q12 : ¬ x9.toInt = 0 := ti_ne c11
    have h13 : iv 1 1 x9 := ⟨by have := (h_x9).1; have := ((iv_c (c := 0) (n := 0) (by decide))).1; have := ((iv_c (c := 0) (n := 0) (by decide))).2; omega, by have := (h_x9).2; have := ((iv_c (c := 0) (n := 0) (by decide))).1; have := ((iv_c (c := 0) (n := 0) (by decide))).2; omega⟩
    have h14 : iv 0 11 a1 := ⟨by have := (p10 c11).1; have := (h_a1).1; omega, by have := (p10 c11).2; have := (h_a1).2; omega⟩
    refine lv_aload_n hx hb dX11_vote_17 rfl (lv_at hl 0 rfl) ?_
    refine tw_getr hx hb hW hown hK hS f_X11_39_10 hz_a0 hk_a0 (t := 6) (n := 0) rfl dX11_vote_18 (fun b15 k16 hz_b15 hk_b15 hn_b15 => ?_)
    refine lv_iload_n hx hb dX11_vote_21 rfl (lv_at hl 1 rfl) ?_
    refine lv_aload_n hx hb dX11_vote_22 rfl (lv_at hl 0 rfl) ?_
    refine tw_getrk hx hb hW hown hK hS f_X11_31_10 hz_a0 hk_a0 (b := b1) k2 dX11_vote_23 ?_
    refine tw_getr hx hb hW hown hK hS f_X11_136_9 hz_b1 hk_b1 (t := 20) (n := 10) rfl dX11_vote_26 (fun b17 k18 hz_b17 hk_b17 hn_b17 => ?_)
    have hn_b17 := hn_b17 (by decide)
    refine lv_aload_n hx hb dX11_vote_29 rfl (lv_at hl 0 rfl) ?_
    refine tw_getrk hx hb hW hown hK hS f_X11_31_10 hz_a0 hk_a0 (b := b1) k2 dX11_vote_30 ?_
    refine tw_geti hx hb hW hown hK hS f_X11_180_9 hz_b1 hk_b1 (lo := (-2147483648)) (hi := 2147483647) rfl dX11_vote_33 (fun x21 k20 h19 => ?_)
    refine tw_gov hS (md_runV (As := [.int a1, .ref (base + b17), .int x21]) (rest := []) hx hb hml hown hW hK hT hS.1 (t_X5_bringAlone l D cy tx base Z K N Ma Ra J5 hS.2.1 b15 hz_b15 hk_b15 a1 h14 b17 hz_b17 hk_b17 hn_b17 x21 h19) s_X11_183 ⟨rfl, rfl, ⟨Nat.le_of_ble_eq_true rfl, Nat.le_of_ble_eq_true rfl⟩, ⟨Nat.le_of_ble_eq_true rfl, Nat.le_of_ble_eq_true rfl⟩⟩ hz_b15 hk_b15 (by decide) rfl rfl hl.1 rfl (Nat.le_of_ble_eq_true rfl) dX11_vote_36) rfl rfl (fun H locs M25 R26 J24 hS f22 g23 E27 => ?_)
    have p28 := E27
    clear E27
    have k29 : RowOK N M25 R26 b15 := p28
    refine lv_aload_n hx hb dX11_vote_39 rfl (lv_at hl 0 rfl) ?_
    have k30 : R26 a0 9 = some b15 := (Fr.kp (k := 9) g23 hk_a0 rfl).trans k16
    refine tw_getrk hx hb hW hown hK hS f_X11_39_10 hz_a0 hk_a0 (b := b15) k30 dX11_vote_40 ?_
    refine lv_aload_n hx hb dX11_vote_43 rfl (lv_at hl 0 rfl) ?_
    have k31 : R26 a0 3 = some b1 := (Fr.kp (k := 3) g23 hk_a0 rfl).trans k2
    refine tw_getrk hx hb hW hown hK hS f_X11_31_10 hz_a0 hk_a0 (b := b1) k31 dX11_vote_44 ?_
    refine tw_geti hx hb hW hown hK hS f_X11_142_9 hz_b1 hk_b1 (lo := (-2147483648)) (hi := 2147483647) rfl dX11_vote_47 (fun x34 k33 h32 => ?_)
    refine tw_gov hS (md_runV (As := [.int x34]) (rest := []) hx hb hml hown hW hK hT hS.1 (t_X5_ask l D cy tx base Z K N M25 R26 J24 hS.2.1 b15 hz_b15 hk_b15 x34 h32 k29) s_X11_187 ⟨rfl, rfl, ⟨Nat.le_of_ble_eq_true rfl, Nat.le_of_ble_eq_true rfl⟩, ⟨Nat.le_of_ble_eq_true rfl, Nat.le_of_ble_eq_true rfl⟩⟩ hz_b15 hk_b15 (by decide) rfl rfl hl.1 rfl (Nat.le_of_ble_eq_true rfl) dX11_vote_50) rfl rfl (fun H locs M38 R39 J37 hS f35 g36 E40 => ?_)
    have eR39 := Fr.nil g36 rfl
    subst eR39
    refine lv_aload_n hx hb dX11_vote_53 rfl (lv_at hl 0 rfl) ?_
    have k41 : R26 a0 9 = some b15 := (Fr.kp (k := 9) g23 hk_a0 rfl).trans k16
    refine tw_getrk hx hb hW hown hK hS f_X11_39_10 hz_a0 hk_a0 (b := b15) k41 dX11_vote_54 ?_
    refine lv_aload_n hx hb dX11_vote_57 rfl (lv_at hl 0 rfl) ?_
    have k42 : R26 a0 9 = some b15 := (Fr.kp (k := 9) g23 hk_a0 rfl).trans k16
    refine tw_getrk hx hb hW hown hK hS f_X11_39_10 hz_a0 hk_a0 (b := b15) k42 dX11_vote_58 ?_
    refine tw_geti hx hb hW hown hK hS f_X11_190_5 hz_b15 hk_b15 (lo := (-2147483648)) (hi := 2147483647) rfl dX11_vote_61 (fun x45 k44 h43 => ?_)
    refine lv_aload_n hx hb dX11_vote_64 rfl (lv_at hl 0 rfl) ?_
    have k46 : R26 a0 9 = some b15 := (Fr.kp (k := 9) g23 hk_a0 rfl).trans k16
    refine tw_getrk hx hb hW hown hK hS f_X11_39_10 hz_a0 hk_a0 (b := b15) k46 dX11_vote_65 ?_
    refine tw_geti hx hb hW hown hK hS f_X11_193_5 hz_b15 hk_b15 (lo := (-2147483648)) (hi := 2147483647) rfl dX11_vote_68 (fun x49 k48 h47 => ?_)
    refine tw_goi hS (md_runV (As := [.int x45, .int x49]) (rest := []) hx hb hml hown hW hK hT hS.1 (t_X5_holdForGood l D cy tx base Z K N M38 R26 J37 hS.2.1 b15 hz_b15 hk_b15 x45 h43 x49 h47) s_X11_196 ⟨rfl, rfl, ⟨Nat.le_of_ble_eq_true rfl, Nat.le_of_ble_eq_true rfl⟩, ⟨Nat.le_of_ble_eq_true rfl, Nat.le_of_ble_eq_true rfl⟩⟩ hz_b15 hk_b15 (by decide) rfl rfl hl.1 rfl (Nat.le_of_ble_eq_true rfl) dX11_vote_71) rfl rfl (fun x56 H locs M53 R54 J52 hS f50 g51 E55 => ?_)
    have eR54 := Fr.nil g51 rfl
    subst eR54
    have h_x56 := E55
    clear E55
    exact tw_endi hx hb hr hlocks hK hT hS hQ ((iv_mono h_x56 (by decide) (by decide))) dX11_vote_74
  · have q57 : x9.toInt = 0 := ti_eq c11
    have h58 : iv 0 0 x9 := ⟨by have := (h_x9).1; have := ((iv_c (c := 0) (n := 0) (by decide))).1; omega, by have := (h_x9).2; have := ((iv_c (c := 0) (n := 0) (by decide))).2; omega⟩
    refine lv_aload_n hx hb dX11_vote_11 rfl (lv_at hl 0 rfl) ?_
    refine lv_iconst (v := 0) hx hb dX11_vote_12 (by decide) ?_
    refine tw_goi hS (md_runV (As := [.int 0]) (rest := []) hx hb hml hown hW hK hT hS.1 (t_X11_refuse l D cy tx base Z K N Ma Ra J5 hS.2.1 a0 hz_a0 hk_a0 0 (iv_mono (iv_c (c := 0) (n := 0) (by decide)) (by decide) (by decide))) s_X11_158 ⟨rfl, rfl, ⟨Nat.le_of_ble_eq_true rfl, Nat.le_of_ble_eq_true rfl⟩, ⟨Nat.le_of_ble_eq_true rfl, Nat.le_of_ble_eq_true rfl⟩⟩ hz_a0 hk_a0 (by decide) rfl rfl hl.1 rfl (Nat.le_of_ble_eq_true rfl) dX11_vote_13) rfl rfl (fun x65 H locs M62 R63 J61 hS f59 g60 E64 => ?_)
    have eR63 := Fr.nil g60 rfl
    subst eR63
    have h_x65 := E64
    clear E64
    exact tw_endi hx hb hr hlocks hK hT hS hQ ((iv_mono h_x65 (by decide) (by decide))) dX11_vote_16
def Lt_X11_worth : WL := []
def LRt_X11_worth : WL := []
set_option maxRecDepth 100000 in
set_option maxHeartbeats 4000000 in
theorem t_X11_worth (l : Launch) (D : va_G) (cy : Nat → ClassId) (tx : (Nat → Nat) × (Nat → Nat)) (base Z : Nat) (K N : Nat → Nat) (Ma : MT) (Ra : RT) (Ja : JT) (hTy : Ty Z K N Ma Ra) (a0 : Nat) (hz_a0 : a0 < Z) (hk_a0 : K a0 = 11) (a1 : Int32) (h_a1 : iv (-2147483648) 2147483647 a1) (a2 : Int32) (h_a2 : iv (-2147483648) 2147483647 a2) : Met l yX11_worth [Cond.code yX11_worth cX11_worth 3 (some .int)] (md_rm 2 0 0) (va_Pc [.ref (base + a0), .int a1, .int a2] (md_U D cy tx base Z K N Ma Ra Ja)) (mQi D cy tx base (fun r u => TP Z K N Lt_X11_worth LRt_X11_worth Ma Ra u ∧ (iv (-2147483648) 2147483647 r))) 0 0 (fun q => base ≤ q) := by
  refine tw_ofW (L := Lt_X11_worth) (LR := LRt_X11_worth) (by decide) (Nat.le_of_ble_eq_true rfl) hTy ?_
  intro p e s m args below meth c Q ls hx hb hr hlocks hown hml hW hK hT hS hQ hl
  have hl : lv_has ls 3 [(0, .ref (base + a0)), (1, .int a1), (2, .int a2)] := hl
  refine lv_aload_n hx hb dX11_worth_0 rfl (lv_at hl 0 rfl) ?_
  refine tw_getr hx hb hW hown hK hS f_X11_31_10 hz_a0 hk_a0 (t := 10) (n := 0) rfl dX11_worth_1 (fun b1 k2 hz_b1 hk_b1 hn_b1 => ?_)
  refine lv_iload_n hx hb dX11_worth_4 rfl (lv_at hl 1 rfl) ?_
  refine tw_goi hS (md_runV (As := [.int a1]) (rest := []) hx hb hml hown hW hK hT hS.1 (t_X9_hasMember l D cy tx base Z K N Ma Ra Ja hS.2.1 b1 hz_b1 hk_b1 a1 h_a1) s_X11_132 ⟨rfl, rfl, ⟨Nat.le_of_ble_eq_true rfl, Nat.le_of_ble_eq_true rfl⟩, ⟨Nat.le_of_ble_eq_true rfl, Nat.le_of_ble_eq_true rfl⟩⟩ hz_b1 hk_b1 (by decide) rfl rfl hl.1 rfl (Nat.le_of_ble_eq_true rfl) dX11_worth_5) rfl rfl (fun x9 H locs M6 R7 J5 hS f3 g4 E8 => ?_)
  have eM6 := Fr.nil f3 rfl
  subst eM6
  have eR7 := Fr.nil g4 rfl
  subst eR7
  obtain ⟨h_x9, p10⟩ := E8
  refine lv_if_eq (tgt := 34) hx hb dX11_worth_8 (by decide) (fun c11 => ?_) (fun c11 => ?_)
  · have q12 : x9.toInt = 0 := ti_eq c11
    have h13 : iv 0 0 x9 := ⟨by have := (h_x9).1; have := ((iv_c (c := 0) (n := 0) (by decide))).1; omega, by have := (h_x9).2; have := ((iv_c (c := 0) (n := 0) (by decide))).2; omega⟩
    refine lv_sipush (v := (-1000)) hx hb dX11_worth_34 (by decide) ?_
    exact tw_endi hx hb hr hlocks hK hT hS hQ ((iv_mono (iv_c (c := (-1000)) (n := (-1000)) (by decide)) (by decide) (by decide))) dX11_worth_37
  · have q14 : ¬ x9.toInt = 0 := ti_ne c11
    have h15 : iv 1 1 x9 := ⟨by have := (h_x9).1; have := ((iv_c (c := 0) (n := 0) (by decide))).1; have := ((iv_c (c := 0) (n := 0) (by decide))).2; omega, by have := (h_x9).2; have := ((iv_c (c := 0) (n := 0) (by decide))).1; have := ((iv_c (c := 0) (n := 0) (by decide))).2; omega⟩
    have h16 : iv 0 9 a1 := ⟨by have := (p10 c11).1; have := (h_a1).1; omega, by have := (p10 c11).2; have := (h_a1).2; omega⟩
    refine lv_aload_n hx hb dX11_worth_11 rfl (lv_at hl 0 rfl) ?_
    refine tw_getrk hx hb hW hown hK hS f_X11_31_10 hz_a0 hk_a0 (b := b1) k2 dX11_worth_12 ?_
    refine lv_iload_n hx hb dX11_worth_15 rfl (lv_at hl 2 rfl) ?_
    refine tw_goi hS (md_runV (As := [.int a2]) (rest := []) hx hb hml hown hW hK hT hS.1 (t_X9_hasPoint l D cy tx base Z K N Ma Ra J5 hS.2.1 b1 hz_b1 hk_b1 a2 h_a2) s_X11_151 ⟨rfl, rfl, ⟨Nat.le_of_ble_eq_true rfl, Nat.le_of_ble_eq_true rfl⟩, ⟨Nat.le_of_ble_eq_true rfl, Nat.le_of_ble_eq_true rfl⟩⟩ hz_b1 hk_b1 (by decide) rfl rfl hl.1 rfl (Nat.le_of_ble_eq_true rfl) dX11_worth_16) rfl rfl (fun x23 H locs M20 R21 J19 hS f17 g18 E22 => ?_)
    have eM20 := Fr.nil f17 rfl
    subst eM20
    have eR21 := Fr.nil g18 rfl
    subst eR21
    obtain ⟨h_x23, p24⟩ := E22
    refine lv_if_eq (tgt := 34) hx hb dX11_worth_19 (by decide) (fun c25 => ?_) (fun c25 => ?_)
    · have q26 : x23.toInt = 0 := ti_eq c25
      have h27 : iv 0 0 x23 := ⟨by have := (h_x23).1; have := ((iv_c (c := 0) (n := 0) (by decide))).1; omega, by have := (h_x23).2; have := ((iv_c (c := 0) (n := 0) (by decide))).2; omega⟩
      refine lv_sipush (v := (-1000)) hx hb dX11_worth_34 (by decide) ?_
      exact tw_endi hx hb hr hlocks hK hT hS hQ ((iv_mono (iv_c (c := (-1000)) (n := (-1000)) (by decide)) (by decide) (by decide))) dX11_worth_37
    · have q28 : ¬ x23.toInt = 0 := ti_ne c25
      have h29 : iv 1 1 x23 := ⟨by have := (h_x23).1; have := ((iv_c (c := 0) (n := 0) (by decide))).1; have := ((iv_c (c := 0) (n := 0) (by decide))).2; omega, by have := (h_x23).2; have := ((iv_c (c := 0) (n := 0) (by decide))).1; have := ((iv_c (c := 0) (n := 0) (by decide))).2; omega⟩
      have h30 : iv 0 11 a2 := ⟨by have := (p24 c25).1; have := (h_a2).1; omega, by have := (p24 c25).2; have := (h_a2).2; omega⟩
      refine lv_aload_n hx hb dX11_worth_22 rfl (lv_at hl 0 rfl) ?_
      refine tw_getrk hx hb hW hown hK hS f_X11_31_10 hz_a0 hk_a0 (b := b1) k2 dX11_worth_23 ?_
      refine lv_iload_n hx hb dX11_worth_26 rfl (lv_at hl 1 rfl) ?_
      refine lv_iload_n hx hb dX11_worth_27 rfl (lv_at hl 2 rfl) ?_
      refine tw_goi hS (md_runV (As := [.int a1, .int a2]) (rest := []) hx hb hml hown hW hK hT hS.1 (t_X9_worthOf l D cy tx base Z K N Ma Ra J19 hS.2.1 b1 hz_b1 hk_b1 a1 h16 a2 h30) s_X11_154 ⟨rfl, rfl, ⟨Nat.le_of_ble_eq_true rfl, Nat.le_of_ble_eq_true rfl⟩, ⟨Nat.le_of_ble_eq_true rfl, Nat.le_of_ble_eq_true rfl⟩⟩ hz_b1 hk_b1 (by decide) rfl rfl hl.1 rfl (Nat.le_of_ble_eq_true rfl) dX11_worth_28) rfl rfl (fun x37 H locs M34 R35 J33 hS f31 g32 E36 => ?_)
      have eM34 := Fr.nil f31 rfl
      subst eM34
      have eR35 := Fr.nil g32 rfl
      subst eR35
      have h_x37 := E36
      clear E36
      refine lv_goto (tgt := 37) hx hb dX11_worth_31 (by decide) ?_
      exact tw_endi hx hb hr hlocks hK hT hS hQ (h_x37) dX11_worth_37
def Lt_X3_runYear : WL := [(4, 5, 8), (6, 2, 4), (6, 6, 15), (20, 0, 2000000)]
def LRt_X3_runYear : WL := [(6, 4, 5)]
set_option maxRecDepth 100000 in
set_option maxHeartbeats 4000000 in
theorem t_X3_runYear (l : Launch) (D : va_G) (cy : Nat → ClassId) (tx : (Nat → Nat) × (Nat → Nat)) (base Z : Nat) (K N : Nat → Nat) (Ma : MT) (Ra : RT) (Ja : JT) (hTy : Ty Z K N Ma Ra) (a0 : Nat) (hz_a0 : a0 < Z) (hk_a0 : K a0 = 4) (a1 : Int32) (h_a1 : iv 1 400 a1) (a2 : Int32) (h_a2 : iv 0 9 a2) : Met l yX3_runYear [Cond.code yX3_runYear cX3_runYear 8 none] (md_rm 5 0 0) (va_Pc [.ref (base + a0), .int a1, .int a2] (md_U D cy tx base Z K N Ma Ra Ja)) (mQv D cy tx base (fun u => TP Z K N Lt_X3_runYear LRt_X3_runYear Ma Ra u ∧ (True))) 0 0 (fun q => base ≤ q) := by
  refine tw_ofW (L := Lt_X3_runYear) (LR := LRt_X3_runYear) (by decide) (Nat.le_of_ble_eq_true rfl) hTy ?_
  intro p e s m args below meth c Q ls hx hb hr hlocks hown hml hW hK hT hS hQ hl
  have hl : lv_has ls 8 [(0, .ref (base + a0)), (1, .int a1), (2, .int a2)] := hl
  refine lv_aload_n hx hb dX3_runYear_0 rfl (lv_at hl 0 rfl) ?_
  refine tw_gov hS (md_runV (As := []) (rest := []) hx hb hml hown hW hK hT hS.1 (t_X3_start l D cy tx base Z K N Ma Ra Ja hS.2.1 a0 hz_a0 hk_a0) s_X3_48 ⟨rfl, rfl, ⟨Nat.le_of_ble_eq_true rfl, Nat.le_of_ble_eq_true rfl⟩, ⟨Nat.le_of_ble_eq_true rfl, Nat.le_of_ble_eq_true rfl⟩⟩ hz_a0 hk_a0 (by decide) rfl rfl hl.1 rfl (Nat.le_of_ble_eq_true rfl) dX3_runYear_1) rfl rfl (fun H locs M4 R5 J3 hS f1 g2 E6 => ?_)
  have eR5 := Fr.nil g2 rfl
  subst eR5
  refine lv_aload_n hx hb dX3_runYear_4 rfl (lv_at hl 0 rfl) ?_
  refine tw_getr hx hb hW hown hK hS f_X3_21_3 hz_a0 hk_a0 (t := 10) (n := 0) rfl dX3_runYear_5 (fun b7 k8 hz_b7 hk_b7 hn_b7 => ?_)
  refine tw_geti hx hb hW hown hK hS f_X3_94_9 hz_b7 hk_b7 (lo := 0) (hi := 2147483647) rfl dX3_runYear_8 (fun x11 k10 h9 => ?_)
  refine lv_i2l hx hb dX3_runYear_11 rfl ?_
  refine lv_lstore_n (lv' := [(3, .long x11.toInt64), (0, .ref (base + a0)), (1, .int a1), (2, .int a2)]) hx hb dX3_runYear_12 rfl hl (by decide) rfl (fun ls hl => ?_)
  refine lv_iconst (v := 0) hx hb dX3_runYear_13 (by decide) ?_
  refine lv_istore (lv' := [(5, .int 0), (3, .long x11.toInt64), (0, .ref (base + a0)), (1, .int a1), (2, .int a2)]) hx hb dX3_runYear_14 hl (by decide) rfl (fun ls hl => ?_)
  have W16_14 : ∀ (n_14 : Nat) (x12 : Int64) (x13 : Int32) (M14 : MT) (R15 : RT) (J16 : JT) (H : Heap) (locs : List Loc) (ls : Array Slot) (h_x12 : jv 0 2147483647 x12) (h_x13 : iv 0 400 x13) (hm_14 : 400 - x13.toInt < (n_14 : Int)) (hS : SB D cy base Z K N Lt_X3_runYear LRt_X3_runYear Ma Ra M14 R15 J16 s H locs) (hl : lv_has ls 8 [(3, .long x12), (5, .int x13), (0, .ref (base + a0)), (1, .int a1), (2, .int a2)]), W p l e (md_rm 5 0 0) s m args below meth c H locs 0 0 Q (F0 m 16 ls []) := by
    intro n_14
    induction n_14 with
    | zero =>
      intro x12 x13 M14 R15 J16 H locs ls h_x12 h_x13 hm_14 hS hl
      exfalso
      have := (h_a1).1; have := (h_a1).2; have := (h_a2).1; have := (h_a2).2; have := (h_x13).1; have := (h_x13).2; omega
    | succ n_14 ih_14 =>
      intro x12 x13 M14 R15 J16 H locs ls h_x12 h_x13 hm_14 hS hl
      have f17 := hS.2.2.1
      have g18 := hS.2.2.2
      refine lv_iload hx hb dX3_runYear_16 (lv_at hl 1 rfl) ?_
      refine lv_iload_n hx hb dX3_runYear_18 rfl (lv_at hl 3 rfl) ?_
      refine lv_icmp_ge (tgt := 177) hx hb dX3_runYear_19 (by decide) (fun c19 => ?_) (fun c19 => ?_)
      · have q20 : a1.toInt ≤ x13.toInt := ti_le c19
        have h21 : iv 1 400 x13 := iv_geL (y := a1) h_x13 h_a1 q20 (by decide)
        exact tw_endv hx hb hr hlocks hK hT hS hQ (trivial) dX3_runYear_177
      · have q22 : x13.toInt < a1.toInt := ti_nle c19
        have h23 : iv 0 399 x13 := iv_ltL (y := a1) h_x13 h_a1 q22 (by decide)
        refine lv_aload_n hx hb dX3_runYear_22 rfl (lv_at hl 2 rfl) ?_
        have k24 : R15 a0 0 = some b7 := (Fr.kp (k := 0) g18 hk_a0 rfl).trans k8
        refine tw_getrk hx hb hW hown hK hS f_X3_21_3 hz_a0 hk_a0 (b := b7) k24 dX3_runYear_23 ?_
        refine tw_geti hx hb hW hown hK hS f_X3_97_9 hz_b7 hk_b7 (lo := 0) (hi := 12) rfl dX3_runYear_26 (fun x27 k26 h25 => ?_)
        refine lv_if_le (tgt := 177) hx hb dX3_runYear_29 (by decide) (fun c28 => ?_) (fun c28 => ?_)
        · have q29 : x27.toInt ≤ 0 := ti_le c28
          have h30 : iv 0 0 x27 := iv_leL (y := 0) h25 (iv_c (c := 0) (n := 0) (by decide)) q29 (by decide)
          exact tw_endv hx hb hr hlocks hK hT hS hQ (trivial) dX3_runYear_177
        · have q31 : 0 < x27.toInt := ti_nle c28
          have h32 : iv 1 12 x27 := iv_gtL (y := 0) h25 (iv_c (c := 0) (n := 0) (by decide)) q31 (by decide)
          refine lv_lload_n hx hb dX3_runYear_32 rfl (lv_at hl 0 rfl) ?_
          refine lv_ldc2 hx hb hown (hW _ w_6_10 rfl) dX3_runYear_33 ?_
          refine lv_lmul hx hb dX3_runYear_36 ?_
          refine tw_tj (lo := 0) (hi := 2369780942852698515) (jv_mul h_x12 (jv_c (x := 1103515245) (n := 1103515245) (by decide)) ⟨by decide, by decide⟩ (by decide) ⟨by decide, by decide⟩) (fun x33 h34 => ?_)
          refine lv_ldc2 hx hb hown (hW _ w_6_11 rfl) dX3_runYear_37 ?_
          refine lv_ladd hx hb dX3_runYear_40 ?_
          refine tw_tj (lo := 12345) (hi := 2369780942852710860) (jv_add h34 (jv_c (x := 12345) (n := 12345) (by decide)) ⟨by decide, by decide⟩ ⟨by decide, by decide⟩) (fun x35 h36 => ?_)
          refine lv_ldc2 hx hb hown (hW _ w_6_12 rfl) dX3_runYear_41 ?_
          refine lv_land hx hb dX3_runYear_44 ?_
          refine tw_tj (lo := 0) (hi := 2147483647) (jv_and (jv_mono (jv_c (x := 2147483647) (n := 2147483647) (by decide)) (lo := 0) (hi := 2147483647) (by decide) (by decide)) (by decide)) (fun x37 h38 => ?_)
          refine lv_lstore_n (lv' := [(3, .long x37), (5, .int x13), (0, .ref (base + a0)), (1, .int a1), (2, .int a2)]) hx hb dX3_runYear_45 rfl hl (by decide) rfl (fun ls hl => ?_)
          refine lv_lload_n hx hb dX3_runYear_46 rfl (lv_at hl 0 rfl) ?_
          refine lv_ldc2 hx hb hown (hW _ w_6_13 rfl) dX3_runYear_47 ?_
          refine lv_ldiv hx hb dX3_runYear_50 (by decide) ?_
          refine tw_tj (lo := 0) (hi := 32767) (jv_div h38 (jv_c (x := 65536) (n := 65536) (by decide)) ⟨by decide, by decide⟩ ⟨by decide, by decide⟩) (fun x39 h40 => ?_)
          refine lv_aload_n hx hb dX3_runYear_51 rfl (lv_at hl 2 rfl) ?_
          have k41 : R15 a0 0 = some b7 := (Fr.kp (k := 0) g18 hk_a0 rfl).trans k8
          refine tw_getrk hx hb hW hown hK hS f_X3_21_3 hz_a0 hk_a0 (b := b7) k41 dX3_runYear_52 ?_
          refine tw_getk hx hb hW hown hK hS f_X3_97_9 hz_b7 hk_b7 (v := x27) k26 dX3_runYear_55 ?_
          refine lv_i2l hx hb dX3_runYear_58 rfl ?_
          refine lv_lrem hx hb dX3_runYear_59 (lnz (jv_o h32) (by decide)) ?_
          refine tw_tj (lo := 0) (hi := 11) (jv_rem h40 (jv_o h32) ⟨by decide, by decide⟩ ⟨by decide, by decide⟩) (fun x42 h43 => ?_)
          refine lv_l2i hx hb dX3_runYear_60 rfl ?_
          refine tw_ti (jv_l2i h43 ⟨by decide, by decide⟩) (fun x45 h44 => ?_)
          refine lv_istore (lv' := [(6, .int x45), (3, .long x37), (5, .int x13), (0, .ref (base + a0)), (1, .int a1), (2, .int a2)]) hx hb dX3_runYear_61 hl (by decide) rfl (fun ls hl => ?_)
          refine lv_aload_n hx hb dX3_runYear_63 rfl (lv_at hl 3 rfl) ?_
          refine tw_getr hx hb hW hown hK hS f_X3_25_3 hz_a0 hk_a0 (t := 6) (n := 0) rfl dX3_runYear_64 (fun b46 k47 hz_b46 hk_b46 hn_b46 => ?_)
          refine lv_iload hx hb dX3_runYear_67 (lv_at hl 0 rfl) ?_
          refine lv_aload_n hx hb dX3_runYear_69 rfl (lv_at hl 3 rfl) ?_
          refine tw_getr hx hb hW hown hK hS f_X3_9_3 hz_a0 hk_a0 (t := 20) (n := 10) rfl dX3_runYear_70 (fun b48 k49 hz_b48 hk_b48 hn_b48 => ?_)
          have hn_b48 := hn_b48 (by decide)
          refine lv_aload_n hx hb dX3_runYear_73 rfl (lv_at hl 3 rfl) ?_
          have k50 : R15 a0 0 = some b7 := (Fr.kp (k := 0) g18 hk_a0 rfl).trans k8
          refine tw_getrk hx hb hW hown hK hS f_X3_21_3 hz_a0 hk_a0 (b := b7) k50 dX3_runYear_74 ?_
          refine tw_geti hx hb hW hown hK hS f_X3_60_9 hz_b7 hk_b7 (lo := (-2147483648)) (hi := 2147483647) rfl dX3_runYear_77 (fun x53 k52 h51 => ?_)
          refine lv_iload hx hb dX3_runYear_80 (lv_at hl 2 rfl) ?_
          refine lv_iadd hx hb dX3_runYear_82 ?_
          refine tw_top (fun x55 => ?_)
          have h54 := iv_any x55
          refine tw_gov hS (md_runV (As := [.int x45, .ref (base + b48), .int x55]) (rest := []) hx hb hml hown hW hK hT hS.1 (t_X5_bringAlone l D cy tx base Z K N M14 R15 J16 hS.2.1 b46 hz_b46 hk_b46 x45 h44 b48 hz_b48 hk_b48 hn_b48 x55 h54) s_X3_108 ⟨rfl, rfl, ⟨Nat.le_of_ble_eq_true rfl, Nat.le_of_ble_eq_true rfl⟩, ⟨Nat.le_of_ble_eq_true rfl, Nat.le_of_ble_eq_true rfl⟩⟩ hz_b46 hk_b46 (by decide) rfl rfl hl.1 rfl (Nat.le_of_ble_eq_true rfl) dX3_runYear_83) rfl rfl (fun H locs M59 R60 J58 hS f56 g57 E61 => ?_)
          have p62 := E61
          clear E61
          have k63 : RowOK N M59 R60 b46 := p62
          refine lv_aload_n hx hb dX3_runYear_86 rfl (lv_at hl 3 rfl) ?_
          have k64 : R60 a0 1 = some b46 := (Fr.kp (k := 1) g57 hk_a0 rfl).trans k47
          refine tw_getrk hx hb hW hown hK hS f_X3_25_3 hz_a0 hk_a0 (b := b46) k64 dX3_runYear_87 ?_
          refine lv_aload_n hx hb dX3_runYear_90 rfl (lv_at hl 3 rfl) ?_
          have k65 : R60 a0 0 = some b7 := ((Fr.kp (k := 0) g57 hk_a0 rfl).trans (Fr.kp (k := 0) g18 hk_a0 rfl)).trans k8
          refine tw_getrk hx hb hW hown hK hS f_X3_21_3 hz_a0 hk_a0 (b := b7) k65 dX3_runYear_91 ?_
          refine tw_geti hx hb hW hown hK hS f_X3_69_9 hz_b7 hk_b7 (lo := (-2147483648)) (hi := 2147483647) rfl dX3_runYear_94 (fun x68 k67 h66 => ?_)
          refine tw_gov hS (md_runV (As := [.int x68]) (rest := []) hx hb hml hown hW hK hT hS.1 (t_X5_ask l D cy tx base Z K N M59 R60 J58 hS.2.1 b46 hz_b46 hk_b46 x68 h66 k63) s_X3_72 ⟨rfl, rfl, ⟨Nat.le_of_ble_eq_true rfl, Nat.le_of_ble_eq_true rfl⟩, ⟨Nat.le_of_ble_eq_true rfl, Nat.le_of_ble_eq_true rfl⟩⟩ hz_b46 hk_b46 (by decide) rfl rfl hl.1 rfl (Nat.le_of_ble_eq_true rfl) dX3_runYear_97) rfl rfl (fun H locs M72 R73 J71 hS f69 g70 E74 => ?_)
          have eR73 := Fr.nil g70 rfl
          subst eR73
          refine lv_aload_n hx hb dX3_runYear_100 rfl (lv_at hl 3 rfl) ?_
          refine lv_aload_n hx hb dX3_runYear_101 rfl (lv_at hl 3 rfl) ?_
          refine tw_getrk hx hb hW hown hK hS f_X3_25_3 hz_a0 hk_a0 (b := b46) k64 dX3_runYear_102 ?_
          refine lv_aload_n hx hb dX3_runYear_105 rfl (lv_at hl 3 rfl) ?_
          have k75 : R60 a0 2 = some b48 := (Fr.kp (k := 2) g57 hk_a0 rfl).trans k49
          refine tw_getrk hx hb hW hown hK hS f_X3_9_3 hz_a0 hk_a0 (b := b48) k75 dX3_runYear_106 ?_
          refine lv_aload_n hx hb dX3_runYear_109 rfl (lv_at hl 3 rfl) ?_
          refine tw_getrk hx hb hW hown hK hS f_X3_25_3 hz_a0 hk_a0 (b := b46) k64 dX3_runYear_110 ?_
          refine tw_geti hx hb hW hown hK hS f_X3_76_5 hz_b46 hk_b46 (lo := (-2147483648)) (hi := 2147483647) rfl dX3_runYear_113 (fun x78 k77 h76 => ?_)
          refine lv_aload_n hx hb dX3_runYear_116 rfl (lv_at hl 3 rfl) ?_
          refine tw_getrk hx hb hW hown hK hS f_X3_25_3 hz_a0 hk_a0 (b := b46) k64 dX3_runYear_117 ?_
          refine tw_geti hx hb hW hown hK hS f_X3_79_5 hz_b46 hk_b46 (lo := (-2147483648)) (hi := 2147483647) rfl dX3_runYear_120 (fun x81 k80 h79 => ?_)
          refine tw_goi hS (md_runV (As := [.ref (base + b48), .int x78, .int x81]) (rest := [.ref (base + a0)]) hx hb hml hown hW hK hT hS.1 (t_X5_hold l D cy tx base Z K N M72 R60 J71 hS.2.1 b46 hz_b46 hk_b46 b48 hz_b48 hk_b48 hn_b48 x78 h76 x81 h79) s_X3_82 ⟨rfl, rfl, ⟨Nat.le_of_ble_eq_true rfl, Nat.le_of_ble_eq_true rfl⟩, ⟨Nat.le_of_ble_eq_true rfl, Nat.le_of_ble_eq_true rfl⟩⟩ hz_b46 hk_b46 (by decide) rfl rfl hl.1 rfl (Nat.le_of_ble_eq_true rfl) dX3_runYear_123) rfl rfl (fun x88 H locs M85 R86 J84 hS f82 g83 E87 => ?_)
          have eR86 := Fr.nil g83 rfl
          subst eR86
          have h_x88 := E87
          clear E87
          refine lv_iload_n hx hb dX3_runYear_126 rfl (lv_at hl 5 rfl) ?_
          refine lv_iload hx hb dX3_runYear_127 (lv_at hl 0 rfl) ?_
          refine tw_gov hS (md_runV (As := [.int x88, .int a2, .int x45]) (rest := []) hx hb hml hown hW hK hT hS.1 (t_X3_mark l D cy tx base Z K N M85 R60 J84 hS.2.1 a0 hz_a0 hk_a0 x88 h_x88 a2 h_a2 x45 h44) s_X3_86 ⟨rfl, rfl, ⟨Nat.le_of_ble_eq_true rfl, Nat.le_of_ble_eq_true rfl⟩, ⟨Nat.le_of_ble_eq_true rfl, Nat.le_of_ble_eq_true rfl⟩⟩ hz_a0 hk_a0 (by decide) rfl rfl hl.1 rfl (Nat.le_of_ble_eq_true rfl) dX3_runYear_129) rfl rfl (fun H locs M92 R93 J91 hS f89 g90 E94 => ?_)
          have eR93 := Fr.nil g90 rfl
          subst eR93
          refine lv_iconst (v := 0) hx hb dX3_runYear_132 (by decide) ?_
          refine lv_istore (lv' := [(7, .int 0), (6, .int x45), (3, .long x37), (5, .int x13), (0, .ref (base + a0)), (1, .int a1), (2, .int a2)]) hx hb dX3_runYear_133 hl (by decide) rfl (fun ls hl => ?_)
          have W135_96 : ∀ (n_96 : Nat) (x95 : Int32) (M96 : MT) (R97 : RT) (J98 : JT) (H : Heap) (locs : List Loc) (ls : Array Slot) (h_x95 : iv 0 10 x95) (hm_96 : 10 - x95.toInt < (n_96 : Int)) (hS : SB D cy base Z K N Lt_X3_runYear LRt_X3_runYear Ma Ra M96 R97 J98 s H locs) (hl : lv_has ls 8 [(7, .int x95), (6, .int x45), (3, .long x37), (5, .int x13), (0, .ref (base + a0)), (1, .int a1), (2, .int a2)]), W p l e (md_rm 5 0 0) s m args below meth c H locs 0 0 Q (F0 m 135 ls []) := by
            intro n_96
            induction n_96 with
            | zero =>
              intro x95 M96 R97 J98 H locs ls h_x95 hm_96 hS hl
              exfalso
              have := (h_a1).1; have := (h_a1).2; have := (h_a2).1; have := (h_a2).2; have := (h_x95).1; have := (h_x95).2; omega
            | succ n_96 ih_96 =>
              intro x95 M96 R97 J98 H locs ls h_x95 hm_96 hS hl
              have f99 := hS.2.2.1
              have g100 := hS.2.2.2
              refine lv_iload hx hb dX3_runYear_135 (lv_at hl 0 rfl) ?_
              refine lv_aload_n hx hb dX3_runYear_137 rfl (lv_at hl 4 rfl) ?_
              have k101 : R97 a0 0 = some b7 := (Fr.kp (k := 0) g100 hk_a0 rfl).trans k8
              refine tw_getrk hx hb hW hown hK hS f_X3_21_3 hz_a0 hk_a0 (b := b7) k101 dX3_runYear_138 ?_
              refine tw_geti hx hb hW hown hK hS f_X3_112_9 hz_b7 hk_b7 (lo := (-2147483648)) (hi := 10) rfl dX3_runYear_141 (fun x104 k103 h102 => ?_)
              refine lv_icmp_ge (tgt := 171) hx hb dX3_runYear_144 (by decide) (fun c105 => ?_) (fun c105 => ?_)
              · have q106 : x104.toInt ≤ x95.toInt := ti_le c105
                refine tw_iinc (lv' := fun x109 => [(5, .int x109), (7, .int x95), (6, .int x45), (3, .long x37), (0, .ref (base + a0)), (1, .int a1), (2, .int a2)]) (lo := 1) (hi := 400) hx hb dX3_runYear_171 hl (k := 3) rfl h23 (by decide) ⟨by decide, by decide⟩ ⟨by decide, by decide⟩ (by decide) (fun _ => rfl) (fun x109 ls e108 h107 hl => ?_)
                refine lv_goto (tgt := 16) hx hb dX3_runYear_174 (by decide) ?_
                have hm110 : 400 - x109.toInt < (n_14 : Int) := by
                  have := (h_a1).1; have := (h_a1).2; have := (h_a2).1; have := (h_a2).2; have := (h107).1; have := (h107).2; have := (h23).1; have := (h23).2; omega
                exact ih_14 (x37) x109 M96 R97 J98 H locs _ (jv_mono h38 (by decide) (by decide)) (iv_mono h107 (by decide) (by decide)) hm110 hS (lv_sub hl [3, 0, 4, 5, 6] rfl)
              · have q111 : x95.toInt < x104.toInt := ti_nle c105
                have h112 : iv 0 9 x95 := iv_ltL (y := x104) h_x95 h102 q111 (by decide)
                have h113 : iv 1 10 x104 := iv_gtL (y := x95) h102 h_x95 q111 (by decide)
                refine lv_aload_n hx hb dX3_runYear_147 rfl (lv_at hl 4 rfl) ?_
                refine lv_aload_n hx hb dX3_runYear_148 rfl (lv_at hl 4 rfl) ?_
                refine tw_geti hx hb hW hown hK hS f_X3_45_3 hz_a0 hk_a0 (lo := (-2147483648)) (hi := 2147483647) rfl dX3_runYear_149 (fun x116 k115 h114 => ?_)
                refine lv_aload_n hx hb dX3_runYear_152 rfl (lv_at hl 4 rfl) ?_
                refine tw_getr hx hb hW hown hK hS f_X3_9_3 hz_a0 hk_a0 (t := 20) (n := 10) rfl dX3_runYear_153 (fun b117 k118 hz_b117 hk_b117 hn_b117 => ?_)
                have hn_b117 := hn_b117 (by decide)
                refine lv_iload hx hb dX3_runYear_156 (lv_at hl 0 rfl) ?_
                refine tw_iald hx hb hK hS hz_b117 hk_b117 (Or.inr (by decide)) hn_b117 (lo := (-2147483648)) (hi := 2147483647) h112 ⟨by decide, by decide⟩ rg_u20 dX3_runYear_158 (fun x121 k120 h119 => ?_)
                refine va_mmax hx hb (hml.trans hl.1.symm) hown (hW _ w_6_15 rfl) (hW _ w_4_75 rfl) (hW _ w_1_13 rfl) (hW _ w_4_76 rfl) (Nat.le_of_ble_eq_true rfl) (Nat.le_of_ble_eq_true rfl) (Nat.le_of_ble_eq_true rfl) (Nat.le_of_ble_eq_true rfl) dX3_runYear_159 ?_
                refine tw_mmax (lo := (-2147483648)) (hi := 2147483647) h114 h119 (by decide) (fun x124 e123 h122 => ?_)
                refine tw_puti hx hb hW hown hK hS f_X3_45_3 hz_a0 hk_a0 rfl rfl (lo := (-2147483648)) (hi := 2147483647) rfl h122 rfl dX3_runYear_162 (fun H locs M127 hS k125 f126 => ?_)
                refine tw_iinc (lv' := fun x130 => [(7, .int x130), (6, .int x45), (3, .long x37), (5, .int x13), (0, .ref (base + a0)), (1, .int a1), (2, .int a2)]) (lo := 1) (hi := 10) hx hb dX3_runYear_165 hl (k := 0) rfl h112 (by decide) ⟨by decide, by decide⟩ ⟨by decide, by decide⟩ (by decide) (fun _ => rfl) (fun x130 ls e129 h128 hl => ?_)
                refine lv_goto (tgt := 135) hx hb dX3_runYear_168 (by decide) ?_
                have hm131 : 10 - x130.toInt < (n_96 : Int) := by
                  have := (h_a1).1; have := (h_a1).2; have := (h_a2).1; have := (h_a2).2; have := (h128).1; have := (h128).2; have := (h112).1; have := (h112).2; omega
                exact ih_96 x130 M127 R97 J98 H locs _ (iv_mono h128 (by decide) (by decide)) hm131 hS hl
          have hm132 : 10 - (0 : Int32).toInt < (((11 : Nat) : Int) : Int) := by
            have := (h_a1).1; have := (h_a1).2; have := (h_a2).1; have := (h_a2).2; have : (0 : Int32).toInt = 0 := (by decide); omega
          exact W135_96 11 0 M92 R60 J91 H locs _ (iv_mono (iv_c (c := 0) (n := 0) (by decide)) (by decide) (by decide)) hm132 hS hl
  have hm133 : 400 - (0 : Int32).toInt < (((401 : Nat) : Int) : Int) := by
    have := (h_a1).1; have := (h_a1).2; have := (h_a2).1; have := (h_a2).2; have : (0 : Int32).toInt = 0 := (by decide); omega
  exact W16_14 401 (x11.toInt64) 0 M4 Ra J3 H locs _ (jv_mono (jv_o h9) (by decide) (by decide)) (iv_mono (iv_c (c := 0) (n := 0) (by decide)) (by decide) (by decide)) hm133 hS (lv_sub hl [1, 0, 2, 3, 4] rfl)
def Lt_X11_year : WL := [(4, 5, 8), (6, 2, 4), (6, 6, 15), (20, 0, 2000000)]
def LRt_X11_year : WL := [(6, 4, 5)]
set_option maxRecDepth 100000 in
set_option maxHeartbeats 4000000 in
theorem t_X11_year (l : Launch) (D : va_G) (cy : Nat → ClassId) (tx : (Nat → Nat) × (Nat → Nat)) (base Z : Nat) (K N : Nat → Nat) (Ma : MT) (Ra : RT) (Ja : JT) (hTy : Ty Z K N Ma Ra) (a0 : Nat) (hz_a0 : a0 < Z) (hk_a0 : K a0 = 11) (a1 : Int32) (h_a1 : iv (-2147483648) 2147483647 a1) (a2 : Int32) (h_a2 : iv (-2147483648) 2147483647 a2) (a3 : Int32) (h_a3 : iv (-2147483648) 2147483647 a3) : Met l yX11_year [Cond.code yX11_year cX11_year 5 (some .int)] (md_rm 6 0 0) (va_Pc [.ref (base + a0), .int a1, .int a2, .int a3] (md_U D cy tx base Z K N Ma Ra Ja)) (mQi D cy tx base (fun r u => TP Z K N Lt_X11_year LRt_X11_year Ma Ra u ∧ (iv (-2147483648) 2147483647 r))) 0 0 (fun q => base ≤ q) := by
  refine tw_ofW (L := Lt_X11_year) (LR := LRt_X11_year) (by decide) (Nat.le_of_ble_eq_true rfl) hTy ?_
  intro p e s m args below meth c Q ls hx hb hr hlocks hown hml hW hK hT hS hQ hl
  have hl : lv_has ls 5 [(0, .ref (base + a0)), (1, .int a1), (2, .int a2), (3, .int a3)] := hl
  refine lv_aload_n hx hb dX11_year_0 rfl (lv_at hl 0 rfl) ?_
  refine tw_getr hx hb hW hown hK hS f_X11_31_10 hz_a0 hk_a0 (t := 10) (n := 0) rfl dX11_year_1 (fun b1 k2 hz_b1 hk_b1 hn_b1 => ?_)
  refine lv_iload_n hx hb dX11_year_4 rfl (lv_at hl 2 rfl) ?_
  refine tw_goi hS (md_runV (As := [.int a2]) (rest := []) hx hb hml hown hW hK hT hS.1 (t_X9_hasMember l D cy tx base Z K N Ma Ra Ja hS.2.1 b1 hz_b1 hk_b1 a2 h_a2) s_X11_132 ⟨rfl, rfl, ⟨Nat.le_of_ble_eq_true rfl, Nat.le_of_ble_eq_true rfl⟩, ⟨Nat.le_of_ble_eq_true rfl, Nat.le_of_ble_eq_true rfl⟩⟩ hz_b1 hk_b1 (by decide) rfl rfl hl.1 rfl (Nat.le_of_ble_eq_true rfl) dX11_year_5) rfl rfl (fun x9 H locs M6 R7 J5 hS f3 g4 E8 => ?_)
  have eM6 := Fr.nil f3 rfl
  subst eM6
  have eR7 := Fr.nil g4 rfl
  subst eR7
  obtain ⟨h_x9, p10⟩ := E8
  have J25_11 : ∀  (M11 : MT) (R12 : RT) (J13 : JT) (H : Heap) (locs : List Loc) (ls : Array Slot) (hS : SB D cy base Z K N Lt_X11_year LRt_X11_year Ma Ra M11 R12 J13 s H locs) (hl : lv_has ls 5 [(0, .ref (base + a0)), (1, .int a1), (2, .int a2), (3, .int a3)]), W p l e (md_rm 6 0 0) s m args below meth c H locs 0 0 Q (F0 m 25 ls []) := by
    intro  M11 R12 J13 H locs ls  hS hl
    have f14 := hS.2.2.1
    have g15 := hS.2.2.2
    refine lv_iconst (v := 0) hx hb dX11_year_25 (by decide) ?_
    refine lv_istore (lv' := [(4, .int 0), (0, .ref (base + a0)), (1, .int a1), (2, .int a2), (3, .int a3)]) hx hb dX11_year_26 hl (by decide) rfl (fun ls hl => ?_)
    refine lv_iload hx hb dX11_year_28 (lv_at hl 0 rfl) ?_
    refine lv_if_eq (tgt := 54) hx hb dX11_year_30 (by decide) (fun _ => ?_) (fun h => absurd h (by decide))
    refine lv_ldc hx hb hown (hW _ w_4_221 rfl) dX11_year_54 ?_
    exact tw_endi hx hb hr hlocks hK hT hS hQ ((iv_mono (iv_c (c := (-1000000)) (n := (-1000000)) (by decide)) (by decide) (by decide))) dX11_year_56
  refine lv_if_eq (tgt := 25) hx hb dX11_year_8 (by decide) (fun c16 => ?_) (fun c16 => ?_)
  · have q17 : x9.toInt = 0 := ti_eq c16
    have h18 : iv 0 0 x9 := ⟨by have := (h_x9).1; have := ((iv_c (c := 0) (n := 0) (by decide))).1; omega, by have := (h_x9).2; have := ((iv_c (c := 0) (n := 0) (by decide))).2; omega⟩
    exact J25_11  Ma Ra J5 H locs _  hS hl
  · have q19 : ¬ x9.toInt = 0 := ti_ne c16
    have h20 : iv 1 1 x9 := ⟨by have := (h_x9).1; have := ((iv_c (c := 0) (n := 0) (by decide))).1; have := ((iv_c (c := 0) (n := 0) (by decide))).2; omega, by have := (h_x9).2; have := ((iv_c (c := 0) (n := 0) (by decide))).1; have := ((iv_c (c := 0) (n := 0) (by decide))).2; omega⟩
    have h21 : iv 0 9 a2 := ⟨by have := (p10 c16).1; have := (h_a2).1; omega, by have := (p10 c16).2; have := (h_a2).2; omega⟩
    refine lv_aload_n hx hb dX11_year_11 rfl (lv_at hl 0 rfl) ?_
    refine tw_getrk hx hb hW hown hK hS f_X11_31_10 hz_a0 hk_a0 (b := b1) k2 dX11_year_12 ?_
    refine tw_geti hx hb hW hown hK hS f_X11_310_9 hz_b1 hk_b1 (lo := 0) (hi := 12) rfl dX11_year_15 (fun x24 k23 h22 => ?_)
    refine lv_if_le (tgt := 25) hx hb dX11_year_18 (by decide) (fun c25 => ?_) (fun c25 => ?_)
    · have q26 : x24.toInt ≤ 0 := ti_le c25
      have h27 : iv 0 0 x24 := iv_leL (y := 0) h22 (iv_c (c := 0) (n := 0) (by decide)) q26 (by decide)
      exact J25_11  Ma Ra J5 H locs _  hS hl
    · have q28 : 0 < x24.toInt := ti_nle c25
      have h29 : iv 1 12 x24 := iv_gtL (y := 0) h22 (iv_c (c := 0) (n := 0) (by decide)) q28 (by decide)
      refine lv_iconst (v := 1) hx hb dX11_year_21 (by decide) ?_
      refine lv_goto (tgt := 26) hx hb dX11_year_22 (by decide) ?_
      refine lv_istore (lv' := [(4, .int 1), (0, .ref (base + a0)), (1, .int a1), (2, .int a2), (3, .int a3)]) hx hb dX11_year_26 hl (by decide) rfl (fun ls hl => ?_)
      refine lv_iload hx hb dX11_year_28 (lv_at hl 0 rfl) ?_
      refine lv_if_eq (tgt := 54) hx hb dX11_year_30 (by decide) (fun h => absurd h (by decide)) (fun _ => ?_)
      refine lv_iload_n hx hb dX11_year_33 rfl (lv_at hl 2 rfl) ?_
      refine lv_iconst (v := 1) hx hb dX11_year_34 (by decide) ?_
      refine lv_icmp_lt (tgt := 54) hx hb dX11_year_35 (by decide) (fun c30 => ?_) (fun c30 => ?_)
      · have q31 : a1.toInt < 1 := ti_lt c30
        have h32 : iv (-2147483648) 0 a1 := iv_ltL (y := 1) h_a1 (iv_c (c := 1) (n := 1) (by decide)) q31 (by decide)
        refine lv_ldc hx hb hown (hW _ w_4_221 rfl) dX11_year_54 ?_
        exact tw_endi hx hb hr hlocks hK hT hS hQ ((iv_mono (iv_c (c := (-1000000)) (n := (-1000000)) (by decide)) (by decide) (by decide))) dX11_year_56
      · have q33 : 1 ≤ a1.toInt := ti_nlt c30
        have h34 : iv 1 2147483647 a1 := iv_geL (y := 1) h_a1 (iv_c (c := 1) (n := 1) (by decide)) q33 (by decide)
        refine lv_iload_n hx hb dX11_year_38 rfl (lv_at hl 2 rfl) ?_
        refine lv_sipush (v := 400) hx hb dX11_year_39 (by decide) ?_
        refine lv_icmp_gt (tgt := 54) hx hb dX11_year_42 (by decide) (fun c35 => ?_) (fun c35 => ?_)
        · have q36 : 400 < a1.toInt := ti_lt c35
          have h37 : iv 401 2147483647 a1 := iv_gtL (y := 400) h34 (iv_c (c := 400) (n := 400) (by decide)) q36 (by decide)
          refine lv_ldc hx hb hown (hW _ w_4_221 rfl) dX11_year_54 ?_
          exact tw_endi hx hb hr hlocks hK hT hS hQ ((iv_mono (iv_c (c := (-1000000)) (n := (-1000000)) (by decide)) (by decide) (by decide))) dX11_year_56
        · have q38 : a1.toInt ≤ 400 := ti_nlt c35
          have h39 : iv 1 400 a1 := iv_leL (y := 400) h34 (iv_c (c := 400) (n := 400) (by decide)) q38 (by decide)
          refine lv_iload_n hx hb dX11_year_45 rfl (lv_at hl 4 rfl) ?_
          refine lv_if_lt (tgt := 54) hx hb dX11_year_46 (by decide) (fun c40 => ?_) (fun c40 => ?_)
          · have q41 : a3.toInt < 0 := ti_lt c40
            have h42 : iv (-2147483648) (-1) a3 := iv_ltL (y := 0) h_a3 (iv_c (c := 0) (n := 0) (by decide)) q41 (by decide)
            refine lv_ldc hx hb hown (hW _ w_4_221 rfl) dX11_year_54 ?_
            exact tw_endi hx hb hr hlocks hK hT hS hQ ((iv_mono (iv_c (c := (-1000000)) (n := (-1000000)) (by decide)) (by decide) (by decide))) dX11_year_56
          · have q43 : 0 ≤ a3.toInt := ti_nlt c40
            have h44 : iv 0 2147483647 a3 := iv_geL (y := 0) h_a3 (iv_c (c := 0) (n := 0) (by decide)) q43 (by decide)
            refine lv_iload_n hx hb dX11_year_49 rfl (lv_at hl 4 rfl) ?_
            refine lv_iconst (v := 2) hx hb dX11_year_50 (by decide) ?_
            refine lv_icmp_le (tgt := 57) hx hb dX11_year_51 (by decide) (fun c45 => ?_) (fun c45 => ?_)
            · have q46 : a3.toInt ≤ 2 := ti_le c45
              have h47 : iv 0 2 a3 := iv_leL (y := 2) h44 (iv_c (c := 2) (n := 2) (by decide)) q46 (by decide)
              refine lv_aload_n hx hb dX11_year_57 rfl (lv_at hl 1 rfl) ?_
              refine tw_getr hx hb hW hown hK hS f_X11_62_10 hz_a0 hk_a0 (t := 4) (n := 0) rfl dX11_year_58 (fun b48 k49 hz_b48 hk_b48 hn_b48 => ?_)
              refine lv_iload_n hx hb dX11_year_61 rfl (lv_at hl 2 rfl) ?_
              refine lv_iload_n hx hb dX11_year_62 rfl (lv_at hl 3 rfl) ?_
              refine tw_gov hS (md_runV (As := [.int a1, .int a2]) (rest := []) hx hb hml hown hW hK hT hS.1 (t_X3_runYear l D cy tx base Z K N Ma Ra J5 hS.2.1 b48 hz_b48 hk_b48 a1 h39 a2 h21) s_X11_313 ⟨rfl, rfl, ⟨Nat.le_of_ble_eq_true rfl, Nat.le_of_ble_eq_true rfl⟩, ⟨Nat.le_of_ble_eq_true rfl, Nat.le_of_ble_eq_true rfl⟩⟩ hz_b48 hk_b48 (by decide) rfl rfl hl.1 rfl (Nat.le_of_ble_eq_true rfl) dX11_year_63) rfl rfl (fun H locs M53 R54 J52 hS f50 g51 E55 => ?_)
              refine lv_iload_n hx hb dX11_year_66 rfl (lv_at hl 4 rfl) ?_
              by_cases c56 : a3 = 0
              · subst c56
                refine lv_lookup (off := 25) (tgt := 92) hx hb dX11_year_67 (by decide) rfl (by decide) ?_
                refine lv_aload_n hx hb dX11_year_92 rfl (lv_at hl 1 rfl) ?_
                have k57 : R54 a0 10 = some b48 := (Fr.kp (k := 10) g51 hk_a0 rfl).trans k49
                refine tw_getrk hx hb hW hown hK hS f_X11_62_10 hz_a0 hk_a0 (b := b48) k57 dX11_year_93 ?_
                refine tw_geti hx hb hW hown hK hS f_X11_223_3 hz_b48 hk_b48 (lo := (-2147483648)) (hi := 2147483647) rfl dX11_year_96 (fun x60 k59 h58 => ?_)
                exact tw_endi hx hb hr hlocks hK hT hS hQ (h58) dX11_year_99
              by_cases c61 : a3 = 1
              · subst c61
                refine lv_lookup (off := 33) (tgt := 100) hx hb dX11_year_67 (by decide) rfl (by decide) ?_
                refine lv_aload_n hx hb dX11_year_100 rfl (lv_at hl 1 rfl) ?_
                have k62 : R54 a0 10 = some b48 := (Fr.kp (k := 10) g51 hk_a0 rfl).trans k49
                refine tw_getrk hx hb hW hown hK hS f_X11_62_10 hz_a0 hk_a0 (b := b48) k62 dX11_year_101 ?_
                refine tw_geti hx hb hW hown hK hS f_X11_220_3 hz_b48 hk_b48 (lo := (-2147483648)) (hi := 2147483647) rfl dX11_year_104 (fun x65 k64 h63 => ?_)
                exact tw_endi hx hb hr hlocks hK hT hS hQ (h63) dX11_year_107
              refine lv_lookup (off := 41) (tgt := 108) hx hb dX11_year_67 (by decide) ((lv_osw c56 (by decide)).trans ((lv_osw c61 (by decide)).trans rfl)) (by decide) ?_
              refine lv_aload_n hx hb dX11_year_108 rfl (lv_at hl 1 rfl) ?_
              have k66 : R54 a0 10 = some b48 := (Fr.kp (k := 10) g51 hk_a0 rfl).trans k49
              refine tw_getrk hx hb hW hown hK hS f_X11_62_10 hz_a0 hk_a0 (b := b48) k66 dX11_year_109 ?_
              refine tw_geti hx hb hW hown hK hS f_X11_317_3 hz_b48 hk_b48 (lo := (-2147483648)) (hi := 2147483647) rfl dX11_year_112 (fun x69 k68 h67 => ?_)
              exact tw_endi hx hb hr hlocks hK hT hS hQ (h67) dX11_year_115
            · have q70 : 2 < a3.toInt := ti_nle c45
              have h71 : iv 3 2147483647 a3 := iv_gtL (y := 2) h44 (iv_c (c := 2) (n := 2) (by decide)) q70 (by decide)
              refine lv_ldc hx hb hown (hW _ w_4_221 rfl) dX11_year_54 ?_
              exact tw_endi hx hb hr hlocks hK hT hS hQ ((iv_mono (iv_c (c := (-1000000)) (n := (-1000000)) (by decide)) (by decide) (by decide))) dX11_year_56
def Lt_X12_in : WL := []
def LRt_X12_in : WL := []
set_option maxRecDepth 100000 in
set_option maxHeartbeats 4000000 in
theorem t_X12_in (l : Launch) (D : va_G) (cy : Nat → ClassId) (tx : (Nat → Nat) × (Nat → Nat)) (base Z : Nat) (K N : Nat → Nat) (Ma : MT) (Ra : RT) (Ja : JT) (hTy : Ty Z K N Ma Ra) (a0 : Int64) (a1 : Int64) (a2 : Int64) : Met l yX12_in [Cond.code yX12_in cX12_in 6 (some .boolean)] (md_rm 1 0 0) (va_Pc [.long a0, .long a1, .long a2] (md_U D cy tx base Z K N Ma Ra Ja)) (mQi D cy tx base (fun r u => TP Z K N Lt_X12_in LRt_X12_in Ma Ra u ∧ (iv 0 1 r ∧ ((¬ r = 0 → a1.toInt ≤ a0.toInt ∧ a0.toInt ≤ a2.toInt) ∧ (r = 0 → a0.toInt < a1.toInt ∨ a2.toInt < a0.toInt))))) 0 0 (fun q => base ≤ q) := by
  refine tw_ofW (L := Lt_X12_in) (LR := LRt_X12_in) (by decide) (Nat.le_of_ble_eq_true rfl) hTy ?_
  intro p e s m args below meth c Q ls hx hb hr hlocks hown hml hW hK hT hS hQ hl
  have hl : lv_has ls 6 [(0, .long a0), (2, .long a1), (4, .long a2)] := hl
  refine lv_lload_n hx hb dX12_in_0 rfl (lv_at hl 0 rfl) ?_
  refine lv_lload_n hx hb dX12_in_1 rfl (lv_at hl 1 rfl) ?_
  refine W.lcmp hx hb dX12_in_2 ?_
  refine lv_topi (fun x3 e2 => ?_)
  have h1 := iv_any x3
  refine lv_if_lt (tgt := 17) hx hb dX12_in_3 (by decide) (fun c4 => ?_) (fun c4 => ?_)
  · have q5 : x3.toInt < 0 := ti_lt c4
    have n6 := lcm_lt e2 q5
    have h7 : iv (-2147483648) (-1) x3 := iv_ltL (y := 0) h1 (iv_c (c := 0) (n := 0) (by decide)) q5 (by decide)
    refine lv_iconst (v := 0) hx hb dX12_in_17 (by decide) ?_
    exact tw_endz hx hb hr hlocks hK hT hS hQ rfl (⟨(iv_mono (iv_c (c := 0) (n := 0) (by decide)) (by decide) (by decide)), ⟨fun h => absurd rfl h, fun _ => by omega⟩⟩) dX12_in_18
  · have q8 : 0 ≤ x3.toInt := ti_nlt c4
    have n9 := lcm_ge e2 q8
    have h10 : iv 0 2147483647 x3 := iv_geL (y := 0) h1 (iv_c (c := 0) (n := 0) (by decide)) q8 (by decide)
    refine lv_lload_n hx hb dX12_in_6 rfl (lv_at hl 0 rfl) ?_
    refine lv_lload hx hb dX12_in_7 (lv_at hl 2 rfl) ?_
    refine W.lcmp hx hb dX12_in_9 ?_
    refine lv_topi (fun x13 e12 => ?_)
    have h11 := iv_any x13
    refine lv_if_gt (tgt := 17) hx hb dX12_in_10 (by decide) (fun c14 => ?_) (fun c14 => ?_)
    · have q15 : 0 < x13.toInt := ti_lt c14
      have n16 := lcm_gt e12 q15
      have h17 : iv 1 2147483647 x13 := iv_gtL (y := 0) h11 (iv_c (c := 0) (n := 0) (by decide)) q15 (by decide)
      refine lv_iconst (v := 0) hx hb dX12_in_17 (by decide) ?_
      exact tw_endz hx hb hr hlocks hK hT hS hQ rfl (⟨(iv_mono (iv_c (c := 0) (n := 0) (by decide)) (by decide) (by decide)), ⟨fun h => absurd rfl h, fun _ => by omega⟩⟩) dX12_in_18
    · have q18 : x13.toInt ≤ 0 := ti_nlt c14
      have n19 := lcm_le e12 q18
      have h20 : iv (-2147483648) 0 x13 := iv_leL (y := 0) h11 (iv_c (c := 0) (n := 0) (by decide)) q18 (by decide)
      refine lv_iconst (v := 1) hx hb dX12_in_13 (by decide) ?_
      refine lv_goto (tgt := 18) hx hb dX12_in_14 (by decide) ?_
      exact tw_endz hx hb hr hlocks hK hT hS hQ rfl (⟨(iv_mono (iv_c (c := 1) (n := 1) (by decide)) (by decide) (by decide)), ⟨(fun _ => ⟨n9, n19⟩), fun h => absurd h (by decide)⟩⟩) dX12_in_18
def Lt_X12_isOf : WL := []
def LRt_X12_isOf : WL := []
set_option maxRecDepth 100000 in
set_option maxHeartbeats 4000000 in
theorem t_X12_isOf (l : Launch) (D : va_G) (cy : Nat → ClassId) (tx : (Nat → Nat) × (Nat → Nat)) (base Z : Nat) (K N : Nat → Nat) (Ma : MT) (Ra : RT) (Ja : JT) (hTy : Ty Z K N Ma Ra) (a0 : Int32) (h_a0 : iv (-2147483648) 2147483647 a0) (a1 : Int32) (h_a1 : iv 0 9 a1) : Met l yX12_isOf [Cond.code yX12_isOf cX12_isOf 2 (some .boolean)] (md_rm 1 0 0) (va_Pc [.int a0, .int a1] (md_U D cy tx base Z K N Ma Ra Ja)) (mQi D cy tx base (fun r u => TP Z K N Lt_X12_isOf LRt_X12_isOf Ma Ra u ∧ (iv 0 1 r))) 0 0 (fun q => base ≤ q) := by
  refine tw_ofW (L := Lt_X12_isOf) (LR := LRt_X12_isOf) (by decide) (Nat.le_of_ble_eq_true rfl) hTy ?_
  intro p e s m args below meth c Q ls hx hb hr hlocks hown hml hW hK hT hS hQ hl
  have hl : lv_has ls 2 [(0, .int a0), (1, .int a1)] := hl
  refine lv_iload_n hx hb dX12_isOf_0 rfl (lv_at hl 0 rfl) ?_
  refine lv_iload_n hx hb dX12_isOf_1 rfl (lv_at hl 1 rfl) ?_
  refine lv_ishr hx hb dX12_isOf_2 ?_
  refine tw_top (fun x2 => ?_)
  have h1 := iv_any x2
  refine lv_iconst (v := 1) hx hb dX12_isOf_3 (by decide) ?_
  refine tw_iand (hi := 1) hx hb (iv_mono (iv_c (c := 1) (n := 1) (by decide)) (lo := 0) (hi := 1) (by decide) (by decide)) (by decide) dX12_isOf_4 (fun x5 h3 => ?_)
  refine lv_iconst (v := 1) hx hb dX12_isOf_5 (by decide) ?_
  refine lv_icmp_ne (tgt := 13) hx hb dX12_isOf_6 (by decide) (fun c6 => ?_) (fun c6 => ?_)
  · have q7 : ¬ x5.toInt = 1 := ti_ne c6
    have h8 : iv 0 0 x5 := ⟨by have := (h3).1; have := ((iv_c (c := 1) (n := 1) (by decide))).1; have := ((iv_c (c := 1) (n := 1) (by decide))).2; omega, by have := (h3).2; have := ((iv_c (c := 1) (n := 1) (by decide))).1; have := ((iv_c (c := 1) (n := 1) (by decide))).2; omega⟩
    refine lv_iconst (v := 0) hx hb dX12_isOf_13 (by decide) ?_
    exact tw_endz hx hb hr hlocks hK hT hS hQ rfl ((iv_mono (iv_c (c := 0) (n := 0) (by decide)) (by decide) (by decide))) dX12_isOf_14
  · have q9 : x5.toInt = 1 := ti_eq c6
    have h10 : iv 1 1 x5 := ⟨by have := (h3).1; have := ((iv_c (c := 1) (n := 1) (by decide))).1; omega, by have := (h3).2; have := ((iv_c (c := 1) (n := 1) (by decide))).2; omega⟩
    refine lv_iconst (v := 1) hx hb dX12_isOf_9 (by decide) ?_
    refine lv_goto (tgt := 14) hx hb dX12_isOf_10 (by decide) ?_
    exact tw_endz hx hb hr hlocks hK hT hS hQ rfl ((iv_mono (iv_c (c := 1) (n := 1) (by decide)) (by decide) (by decide))) dX12_isOf_14
def Lt_X12_plain : WL := []
def LRt_X12_plain : WL := []
set_option maxRecDepth 100000 in
set_option maxHeartbeats 4000000 in
theorem t_X12_plain (l : Launch) (D : va_G) (cy : Nat → ClassId) (tx : (Nat → Nat) × (Nat → Nat)) (base Z : Nat) (K N : Nat → Nat) (Ma : MT) (Ra : RT) (Ja : JT) (hTy : Ty Z K N Ma Ra) (a0 : Int32) (h_a0 : iv (-2147483648) 2147483647 a0) : Met l yX12_plain [Cond.code yX12_plain cX12_plain 1 (some .int)] (md_rm 1 0 0) (va_Pc [.int a0] (md_U D cy tx base Z K N Ma Ra Ja)) (mQi D cy tx base (fun r u => TP Z K N Lt_X12_plain LRt_X12_plain Ma Ra u ∧ (iv (-2147483648) 2147483647 r))) 0 0 (fun q => base ≤ q) := by
  refine tw_ofW (L := Lt_X12_plain) (LR := LRt_X12_plain) (by decide) (Nat.le_of_ble_eq_true rfl) hTy ?_
  intro p e s m args below meth c Q ls hx hb hr hlocks hown hml hW hK hT hS hQ hl
  have hl : lv_has ls 1 [(0, .int a0)] := hl
  refine lv_iload_n hx hb dX12_plain_0 rfl (lv_at hl 0 rfl) ?_
  refine lv_if_ge (tgt := 9) hx hb dX12_plain_1 (by decide) (fun c1 => ?_) (fun c1 => ?_)
  · have q2 : 0 ≤ a0.toInt := ti_le c1
    have h3 : iv 0 2147483647 a0 := iv_geL (y := 0) h_a0 (iv_c (c := 0) (n := 0) (by decide)) q2 (by decide)
    refine lv_iload_n hx hb dX12_plain_9 rfl (lv_at hl 0 rfl) ?_
    exact tw_endi hx hb hr hlocks hK hT hS hQ ((iv_mono h3 (by decide) (by decide))) dX12_plain_10
  · have q4 : a0.toInt < 0 := ti_nle c1
    have h5 : iv (-2147483648) (-1) a0 := iv_ltL (y := 0) h_a0 (iv_c (c := 0) (n := 0) (by decide)) q4 (by decide)
    refine lv_iload_n hx hb dX12_plain_4 rfl (lv_at hl 0 rfl) ?_
    refine lv_ineg hx hb dX12_plain_5 ?_
    refine tw_top (fun x7 => ?_)
    have h6 := iv_any x7
    refine lv_goto (tgt := 10) hx hb dX12_plain_6 (by decide) ?_
    exact tw_endi hx hb hr hlocks hK hT hS hQ (h6) dX12_plain_10
def Lt_X12_one : WL := []
def LRt_X12_one : WL := []
set_option maxRecDepth 100000 in
set_option maxHeartbeats 4000000 in
theorem t_X12_one (l : Launch) (D : va_G) (cy : Nat → ClassId) (tx : (Nat → Nat) × (Nat → Nat)) (base Z : Nat) (K N : Nat → Nat) (Ma : MT) (Ra : RT) (Ja : JT) (hTy : Ty Z K N Ma Ra) (a0 : Int32) (h_a0 : iv 2 15 a0) (a1 : Int64) (a2 : Int64) : Met l yX12_one [Cond.code yX12_one cX12_one 5 (some .long)] (md_rm 1 0 0) (va_Pc [.int a0, .long a1, .long a2] (md_U D cy tx base Z K N Ma Ra Ja)) (mQl D cy tx base (fun r u => TP Z K N Lt_X12_one LRt_X12_one Ma Ra u ∧ (True))) 0 0 (fun q => base ≤ q) := by
  refine tw_ofW (L := Lt_X12_one) (LR := LRt_X12_one) (by decide) (Nat.le_of_ble_eq_true rfl) hTy ?_
  intro p e s m args below meth c Q ls hx hb hr hlocks hown hml hW hK hT hS hQ hl
  have hl : lv_has ls 5 [(0, .int a0), (1, .long a1), (3, .long a2)] := hl
  refine lv_iload_n hx hb dX12_one_0 rfl (lv_at hl 0 rfl) ?_
  by_cases c1 : a0 = 2
  · subst c1
    refine lv_tableIn (off := 59) (tgt := 60) hx hb dX12_one_1 (by decide) (by decide) rfl (by decide) ?_
    refine lv_lload_n hx hb dX12_one_60 rfl (lv_at hl 1 rfl) ?_
    refine lv_lload_n hx hb dX12_one_61 rfl (lv_at hl 2 rfl) ?_
    refine lv_ladd hx hb dX12_one_62 ?_
    refine tw_topl (fun x2 => ?_)
    exact tw_endl hx hb hr hlocks hK hT hS hQ (trivial) dX12_one_63
  have q3 : ¬ a0.toInt = 2 := ti_ne c1
  by_cases c4 : a0 = 3
  · subst c4
    refine lv_tableIn (off := 63) (tgt := 64) hx hb dX12_one_1 (by decide) (by decide) rfl (by decide) ?_
    refine lv_lload_n hx hb dX12_one_64 rfl (lv_at hl 1 rfl) ?_
    refine lv_lload_n hx hb dX12_one_65 rfl (lv_at hl 2 rfl) ?_
    refine lv_lsub hx hb dX12_one_66 ?_
    refine tw_topl (fun x5 => ?_)
    exact tw_endl hx hb hr hlocks hK hT hS hQ (trivial) dX12_one_67
  have q6 : ¬ a0.toInt = 3 := ti_ne c4
  by_cases c7 : a0 = 4
  · subst c7
    refine lv_tableIn (off := 67) (tgt := 68) hx hb dX12_one_1 (by decide) (by decide) rfl (by decide) ?_
    refine lv_lload_n hx hb dX12_one_68 rfl (lv_at hl 1 rfl) ?_
    refine lv_lload_n hx hb dX12_one_69 rfl (lv_at hl 2 rfl) ?_
    refine lv_lmul hx hb dX12_one_70 ?_
    refine tw_topl (fun x8 => ?_)
    exact tw_endl hx hb hr hlocks hK hT hS hQ (trivial) dX12_one_71
  have q9 : ¬ a0.toInt = 4 := ti_ne c7
  by_cases c10 : a0 = 5
  · subst c10
    refine lv_tableIn (off := 71) (tgt := 72) hx hb dX12_one_1 (by decide) (by decide) rfl (by decide) ?_
    refine lv_lload_n hx hb dX12_one_72 rfl (lv_at hl 2 rfl) ?_
    refine lv_lconst (v := 0) hx hb dX12_one_73 (by decide) ?_
    refine W.lcmp hx hb dX12_one_74 ?_
    refine lv_topi (fun x13 e12 => ?_)
    have h11 := iv_any x13
    refine lv_if_ne (tgt := 82) hx hb dX12_one_75 (by decide) (fun c14 => ?_) (fun c14 => ?_)
    · have q15 : ¬ x13.toInt = 0 := ti_ne c14
      have n16 := md_lne e12 c14
      refine lv_lload_n hx hb dX12_one_82 rfl (lv_at hl 1 rfl) ?_
      refine lv_lload_n hx hb dX12_one_83 rfl (lv_at hl 2 rfl) ?_
      refine lv_ldiv hx hb dX12_one_84 n16 ?_
      refine tw_topl (fun x17 => ?_)
      exact tw_endl hx hb hr hlocks hK hT hS hQ (trivial) dX12_one_85
    · have q18 : x13.toInt = 0 := ti_eq c14
      have h19 : iv 0 0 x13 := ⟨by have := (h11).1; have := ((iv_c (c := 0) (n := 0) (by decide))).1; omega, by have := (h11).2; have := ((iv_c (c := 0) (n := 0) (by decide))).2; omega⟩
      refine lv_lconst (v := 0) hx hb dX12_one_78 (by decide) ?_
      refine lv_goto (tgt := 85) hx hb dX12_one_79 (by decide) ?_
      exact tw_endl hx hb hr hlocks hK hT hS hQ (trivial) dX12_one_85
  have q20 : ¬ a0.toInt = 5 := ti_ne c10
  by_cases c21 : a0 = 6
  · subst c21
    refine lv_tableIn (off := 85) (tgt := 86) hx hb dX12_one_1 (by decide) (by decide) rfl (by decide) ?_
    refine lv_lload_n hx hb dX12_one_86 rfl (lv_at hl 1 rfl) ?_
    refine lv_lload_n hx hb dX12_one_87 rfl (lv_at hl 2 rfl) ?_
    refine W.lcmp hx hb dX12_one_88 ?_
    refine lv_topi (fun x24 e23 => ?_)
    have h22 := iv_any x24
    refine lv_if_ge (tgt := 96) hx hb dX12_one_89 (by decide) (fun c25 => ?_) (fun c25 => ?_)
    · have q26 : 0 ≤ x24.toInt := ti_le c25
      have n27 := lcm_ge e23 q26
      have h28 : iv 0 2147483647 x24 := iv_geL (y := 0) h22 (iv_c (c := 0) (n := 0) (by decide)) q26 (by decide)
      refine lv_lconst (v := 0) hx hb dX12_one_96 (by decide) ?_
      exact tw_endl hx hb hr hlocks hK hT hS hQ (trivial) dX12_one_97
    · have q29 : x24.toInt < 0 := ti_nle c25
      have n30 := lcm_lt e23 q29
      have h31 : iv (-2147483648) (-1) x24 := iv_ltL (y := 0) h22 (iv_c (c := 0) (n := 0) (by decide)) q29 (by decide)
      refine lv_lconst (v := 1) hx hb dX12_one_92 (by decide) ?_
      refine lv_goto (tgt := 97) hx hb dX12_one_93 (by decide) ?_
      exact tw_endl hx hb hr hlocks hK hT hS hQ (trivial) dX12_one_97
  have q32 : ¬ a0.toInt = 6 := ti_ne c21
  by_cases c33 : a0 = 7
  · subst c33
    refine lv_tableIn (off := 97) (tgt := 98) hx hb dX12_one_1 (by decide) (by decide) rfl (by decide) ?_
    refine lv_lload_n hx hb dX12_one_98 rfl (lv_at hl 1 rfl) ?_
    refine lv_lload_n hx hb dX12_one_99 rfl (lv_at hl 2 rfl) ?_
    refine W.lcmp hx hb dX12_one_100 ?_
    refine lv_topi (fun x36 e35 => ?_)
    have h34 := iv_any x36
    refine lv_if_gt (tgt := 108) hx hb dX12_one_101 (by decide) (fun c37 => ?_) (fun c37 => ?_)
    · have q38 : 0 < x36.toInt := ti_lt c37
      have n39 := lcm_gt e35 q38
      have h40 : iv 1 2147483647 x36 := iv_gtL (y := 0) h34 (iv_c (c := 0) (n := 0) (by decide)) q38 (by decide)
      refine lv_lconst (v := 0) hx hb dX12_one_108 (by decide) ?_
      exact tw_endl hx hb hr hlocks hK hT hS hQ (trivial) dX12_one_109
    · have q41 : x36.toInt ≤ 0 := ti_nlt c37
      have n42 := lcm_le e35 q41
      have h43 : iv (-2147483648) 0 x36 := iv_leL (y := 0) h34 (iv_c (c := 0) (n := 0) (by decide)) q41 (by decide)
      refine lv_lconst (v := 1) hx hb dX12_one_104 (by decide) ?_
      refine lv_goto (tgt := 109) hx hb dX12_one_105 (by decide) ?_
      exact tw_endl hx hb hr hlocks hK hT hS hQ (trivial) dX12_one_109
  have q44 : ¬ a0.toInt = 7 := ti_ne c33
  by_cases c45 : a0 = 8
  · subst c45
    refine lv_tableIn (off := 109) (tgt := 110) hx hb dX12_one_1 (by decide) (by decide) rfl (by decide) ?_
    refine lv_lload_n hx hb dX12_one_110 rfl (lv_at hl 1 rfl) ?_
    refine lv_lload_n hx hb dX12_one_111 rfl (lv_at hl 2 rfl) ?_
    refine W.lcmp hx hb dX12_one_112 ?_
    refine lv_topi (fun x48 e47 => ?_)
    have h46 := iv_any x48
    refine lv_if_ne (tgt := 120) hx hb dX12_one_113 (by decide) (fun c49 => ?_) (fun c49 => ?_)
    · have q50 : ¬ x48.toInt = 0 := ti_ne c49
      have n51 := md_lne e47 c49
      refine lv_lconst (v := 0) hx hb dX12_one_120 (by decide) ?_
      exact tw_endl hx hb hr hlocks hK hT hS hQ (trivial) dX12_one_121
    · have q52 : x48.toInt = 0 := ti_eq c49
      have h53 : iv 0 0 x48 := ⟨by have := (h46).1; have := ((iv_c (c := 0) (n := 0) (by decide))).1; omega, by have := (h46).2; have := ((iv_c (c := 0) (n := 0) (by decide))).2; omega⟩
      refine lv_lconst (v := 1) hx hb dX12_one_116 (by decide) ?_
      refine lv_goto (tgt := 121) hx hb dX12_one_117 (by decide) ?_
      exact tw_endl hx hb hr hlocks hK hT hS hQ (trivial) dX12_one_121
  have q54 : ¬ a0.toInt = 8 := ti_ne c45
  by_cases c55 : a0 = 9
  · subst c55
    refine lv_tableIn (off := 121) (tgt := 122) hx hb dX12_one_1 (by decide) (by decide) rfl (by decide) ?_
    refine lv_lload_n hx hb dX12_one_122 rfl (lv_at hl 1 rfl) ?_
    refine lv_lload_n hx hb dX12_one_123 rfl (lv_at hl 2 rfl) ?_
    refine W.lcmp hx hb dX12_one_124 ?_
    refine lv_topi (fun x58 e57 => ?_)
    have h56 := iv_any x58
    refine lv_if_lt (tgt := 132) hx hb dX12_one_125 (by decide) (fun c59 => ?_) (fun c59 => ?_)
    · have q60 : x58.toInt < 0 := ti_lt c59
      have n61 := lcm_lt e57 q60
      have h62 : iv (-2147483648) (-1) x58 := iv_ltL (y := 0) h56 (iv_c (c := 0) (n := 0) (by decide)) q60 (by decide)
      refine lv_lconst (v := 0) hx hb dX12_one_132 (by decide) ?_
      exact tw_endl hx hb hr hlocks hK hT hS hQ (trivial) dX12_one_133
    · have q63 : 0 ≤ x58.toInt := ti_nlt c59
      have n64 := lcm_ge e57 q63
      have h65 : iv 0 2147483647 x58 := iv_geL (y := 0) h56 (iv_c (c := 0) (n := 0) (by decide)) q63 (by decide)
      refine lv_lconst (v := 1) hx hb dX12_one_128 (by decide) ?_
      refine lv_goto (tgt := 133) hx hb dX12_one_129 (by decide) ?_
      exact tw_endl hx hb hr hlocks hK hT hS hQ (trivial) dX12_one_133
  have q66 : ¬ a0.toInt = 9 := ti_ne c55
  by_cases c67 : a0 = 10
  · subst c67
    refine lv_tableIn (off := 133) (tgt := 134) hx hb dX12_one_1 (by decide) (by decide) rfl (by decide) ?_
    refine lv_lload_n hx hb dX12_one_134 rfl (lv_at hl 1 rfl) ?_
    refine lv_lload_n hx hb dX12_one_135 rfl (lv_at hl 2 rfl) ?_
    refine W.lcmp hx hb dX12_one_136 ?_
    refine lv_topi (fun x70 e69 => ?_)
    have h68 := iv_any x70
    refine lv_if_le (tgt := 144) hx hb dX12_one_137 (by decide) (fun c71 => ?_) (fun c71 => ?_)
    · have q72 : x70.toInt ≤ 0 := ti_le c71
      have n73 := lcm_le e69 q72
      have h74 : iv (-2147483648) 0 x70 := iv_leL (y := 0) h68 (iv_c (c := 0) (n := 0) (by decide)) q72 (by decide)
      refine lv_lconst (v := 0) hx hb dX12_one_144 (by decide) ?_
      exact tw_endl hx hb hr hlocks hK hT hS hQ (trivial) dX12_one_145
    · have q75 : 0 < x70.toInt := ti_nle c71
      have n76 := lcm_gt e69 q75
      have h77 : iv 1 2147483647 x70 := iv_gtL (y := 0) h68 (iv_c (c := 0) (n := 0) (by decide)) q75 (by decide)
      refine lv_lconst (v := 1) hx hb dX12_one_140 (by decide) ?_
      refine lv_goto (tgt := 145) hx hb dX12_one_141 (by decide) ?_
      exact tw_endl hx hb hr hlocks hK hT hS hQ (trivial) dX12_one_145
  have q78 : ¬ a0.toInt = 10 := ti_ne c67
  by_cases c79 : a0 = 11
  · subst c79
    refine lv_tableIn (off := 149) (tgt := 150) hx hb dX12_one_1 (by decide) (by decide) rfl (by decide) ?_
    refine lv_lload_n hx hb dX12_one_150 rfl (lv_at hl 1 rfl) ?_
    refine lv_lload_n hx hb dX12_one_151 rfl (lv_at hl 2 rfl) ?_
    refine lv_lor hx hb dX12_one_152 ?_
    refine tw_topl (fun x80 => ?_)
    exact tw_endl hx hb hr hlocks hK hT hS hQ (trivial) dX12_one_153
  have q81 : ¬ a0.toInt = 11 := ti_ne c79
  by_cases c82 : a0 = 12
  · subst c82
    refine lv_tableIn (off := 145) (tgt := 146) hx hb dX12_one_1 (by decide) (by decide) rfl (by decide) ?_
    refine lv_lload_n hx hb dX12_one_146 rfl (lv_at hl 1 rfl) ?_
    refine lv_lload_n hx hb dX12_one_147 rfl (lv_at hl 2 rfl) ?_
    refine lv_land hx hb dX12_one_148 ?_
    refine tw_topl (fun x83 => ?_)
    exact tw_endl hx hb hr hlocks hK hT hS hQ (trivial) dX12_one_149
  have q84 : ¬ a0.toInt = 12 := ti_ne c82
  refine lv_tableOut (tgt := 150) hx hb dX12_one_1 (by have := (h_a0).1; have := (h_a0).2; omega) (by decide) ?_
  have h85 : iv 13 15 a0 := ⟨by have := (h_a0).1; omega, (h_a0).2⟩
  refine lv_lload_n hx hb dX12_one_150 rfl (lv_at hl 1 rfl) ?_
  refine lv_lload_n hx hb dX12_one_151 rfl (lv_at hl 2 rfl) ?_
  refine lv_lor hx hb dX12_one_152 ?_
  refine tw_topl (fun x86 => ?_)
  exact tw_endl hx hb hr hlocks hK hT hS hQ (trivial) dX12_one_153
def Lt_X12_pop : WL := [(12, 23, 24)]
def LRt_X12_pop : WL := []
set_option maxRecDepth 100000 in
set_option maxHeartbeats 4000000 in
theorem t_X12_pop (l : Launch) (D : va_G) (cy : Nat → ClassId) (tx : (Nat → Nat) × (Nat → Nat)) (base Z : Nat) (K N : Nat → Nat) (Ma : MT) (Ra : RT) (Ja : JT) (hTy : Ty Z K N Ma Ra) (a0 : Nat) (hz_a0 : a0 < Z) (hk_a0 : K a0 = 12) (tp : Int32) (k_tp : Ma a0 23 = tp) (h_tp : iv 1 64 tp) : Met l yX12_pop [Cond.code yX12_pop cX12_pop 1 (some .long)] (md_rm 1 0 0) (va_Pc [.ref (base + a0)] (md_U D cy tx base Z K N Ma Ra Ja)) (mQl D cy tx base (fun r u => TP Z K N Lt_X12_pop LRt_X12_pop Ma Ra u ∧ ((∃ x : Int32, u.2.2.2.1 a0 23 = x ∧ iv 0 63 x ∧ (x.toInt = tp.toInt - 1))))) 0 0 (fun q => base ≤ q) := by
  refine tw_ofW (L := Lt_X12_pop) (LR := LRt_X12_pop) (by decide) (Nat.le_of_ble_eq_true rfl) hTy ?_
  intro p e s m args below meth c Q ls hx hb hr hlocks hown hml hW hK hT hS hQ hl
  have hl : lv_has ls 1 [(0, .ref (base + a0))] := hl
  refine lv_aload_n hx hb dX12_pop_0 rfl (lv_at hl 0 rfl) ?_
  refine lv_dup hx hb dX12_pop_1 rfl ?_
  refine tw_getk hx hb hW hown hK hS f_X12_304_11 hz_a0 hk_a0 (v := tp) k_tp dX12_pop_2 ?_
  refine lv_iconst (v := 1) hx hb dX12_pop_5 (by decide) ?_
  refine tw_isub (lo := 0) (hi := 63) hx hb h_tp (iv_c (c := 1) (n := 1) (by decide)) ⟨by decide, by decide⟩ ⟨by decide, by decide⟩ dX12_pop_6 (fun x3 e2 h1 => ?_)
  have e2 : x3.toInt = tp.toInt - 1 := e2
  refine tw_puti hx hb hW hown hK hS f_X12_304_11 hz_a0 hk_a0 rfl rfl (lo := 0) (hi := 64) rfl (iv_mono h1 (by decide) (by decide)) rfl dX12_pop_7 (fun H locs M6 hS k4 f5 => ?_)
  refine lv_aload_n hx hb dX12_pop_10 rfl (lv_at hl 0 rfl) ?_
  refine tw_getr hx hb hW hown hK hS f_X12_38_11 hz_a0 hk_a0 (t := 15) (n := 64) rfl dX12_pop_11 (fun b7 k8 hz_b7 hk_b7 hn_b7 => ?_)
  have hn_b7 := hn_b7 (by decide)
  refine lv_aload_n hx hb dX12_pop_14 rfl (lv_at hl 0 rfl) ?_
  refine tw_getk hx hb hW hown hK hS f_X12_304_11 hz_a0 hk_a0 (v := x3) k4 dX12_pop_15 ?_
  refine tw_lald hx hb hK hS hz_b7 hk_b7 hn_b7 h1 ⟨by decide, by decide⟩ dX12_pop_18 (fun x9 => ?_)
  have q10 : x3.toInt = tp.toInt - 1 := by
    have := (h_tp).1; have := (h_tp).2; have := (h1).1; have := (h1).2; omega
  exact tw_endl hx hb hr hlocks hK hT hS hQ (⟨x3, k4, h1, q10⟩) dX12_pop_19
def Lt_X12_push : WL := [(12, 23, 24)]
def LRt_X12_push : WL := []
set_option maxRecDepth 100000 in
set_option maxHeartbeats 4000000 in
theorem t_X12_push (l : Launch) (D : va_G) (cy : Nat → ClassId) (tx : (Nat → Nat) × (Nat → Nat)) (base Z : Nat) (K N : Nat → Nat) (Ma : MT) (Ra : RT) (Ja : JT) (hTy : Ty Z K N Ma Ra) (a0 : Nat) (hz_a0 : a0 < Z) (hk_a0 : K a0 = 12) (a1 : Int64) (tp : Int32) (k_tp : Ma a0 23 = tp) (h_tp : iv 0 63 tp) : Met l yX12_push [Cond.code yX12_push cX12_push 3 none] (md_rm 1 0 0) (va_Pc [.ref (base + a0), .long a1] (md_U D cy tx base Z K N Ma Ra Ja)) (mQv D cy tx base (fun u => TP Z K N Lt_X12_push LRt_X12_push Ma Ra u ∧ ((∃ x : Int32, u.2.2.2.1 a0 23 = x ∧ iv 1 64 x ∧ (x.toInt = tp.toInt + 1))))) 0 0 (fun q => base ≤ q) := by
  refine tw_ofW (L := Lt_X12_push) (LR := LRt_X12_push) (by decide) (Nat.le_of_ble_eq_true rfl) hTy ?_
  intro p e s m args below meth c Q ls hx hb hr hlocks hown hml hW hK hT hS hQ hl
  have hl : lv_has ls 3 [(0, .ref (base + a0)), (1, .long a1)] := hl
  refine lv_aload_n hx hb dX12_push_0 rfl (lv_at hl 0 rfl) ?_
  refine tw_getr hx hb hW hown hK hS f_X12_38_11 hz_a0 hk_a0 (t := 15) (n := 64) rfl dX12_push_1 (fun b1 k2 hz_b1 hk_b1 hn_b1 => ?_)
  have hn_b1 := hn_b1 (by decide)
  refine lv_aload_n hx hb dX12_push_4 rfl (lv_at hl 0 rfl) ?_
  refine tw_getk hx hb hW hown hK hS f_X12_304_11 hz_a0 hk_a0 (v := tp) k_tp dX12_push_5 ?_
  refine lv_lload_n hx hb dX12_push_8 rfl (lv_at hl 1 rfl) ?_
  refine tw_last hx hb hK hS hz_b1 hk_b1 hn_b1 h_tp ⟨by decide, by decide⟩ dX12_push_9 (fun H locs J3 hS => ?_)
  refine lv_aload_n hx hb dX12_push_10 rfl (lv_at hl 0 rfl) ?_
  refine lv_dup hx hb dX12_push_11 rfl ?_
  refine tw_getk hx hb hW hown hK hS f_X12_304_11 hz_a0 hk_a0 (v := tp) k_tp dX12_push_12 ?_
  refine lv_iconst (v := 1) hx hb dX12_push_15 (by decide) ?_
  refine tw_iadd (lo := 1) (hi := 64) hx hb h_tp (iv_c (c := 1) (n := 1) (by decide)) ⟨by decide, by decide⟩ ⟨by decide, by decide⟩ dX12_push_16 (fun x6 e5 h4 => ?_)
  have e5 : x6.toInt = tp.toInt + 1 := e5
  refine tw_puti hx hb hW hown hK hS f_X12_304_11 hz_a0 hk_a0 rfl rfl (lo := 0) (hi := 64) rfl (iv_mono h4 (by decide) (by decide)) rfl dX12_push_17 (fun H locs M9 hS k7 f8 => ?_)
  have q10 : x6.toInt = tp.toInt + 1 := by
    have := (h_tp).1; have := (h_tp).2; have := (h4).1; have := (h4).2; omega
  exact tw_endv hx hb hr hlocks hK hT hS hQ (⟨x6, k7, h4, q10⟩) dX12_push_20
def Lt_X12_reckons : WL := [(12, 23, 24)]
def LRt_X12_reckons : WL := []
set_option maxRecDepth 100000 in
set_option maxHeartbeats 4000000 in
theorem t_X12_reckons (l : Launch) (D : va_G) (cy : Nat → ClassId) (tx : (Nat → Nat) × (Nat → Nat)) (base Z : Nat) (K N : Nat → Nat) (Ma : MT) (Ra : RT) (Ja : JT) (hTy : Ty Z K N Ma Ra) (a0 : Nat) (hz_a0 : a0 < Z) (hk_a0 : K a0 = 12) (a1 : Int32) (h_a1 : iv 0 5 a1) (a2 : Int32) (h_a2 : iv 0 400 a2) (a3 : Int32) (h_a3 : iv 0 400 a3) (sg : Nat) (k_sg : Ra a0 3 = some sg) (hbe : a2.toInt ≤ a3.toInt) (hsg : SEG Ma sg a1.toNatClampNeg a2.toNatClampNeg a3.toNatClampNeg 1) : Met l yX12_reckons [Cond.code yX12_reckons cX12_reckons 11 (some .long)] (md_rm 2 0 0) (va_Pc [.ref (base + a0), .int a1, .int a2, .int a3] (md_U D cy tx base Z K N Ma Ra Ja)) (mQl D cy tx base (fun r u => TP Z K N Lt_X12_reckons LRt_X12_reckons Ma Ra u ∧ (True))) 0 0 (fun q => base ≤ q) := by
  refine tw_ofW (L := Lt_X12_reckons) (LR := LRt_X12_reckons) (by decide) (Nat.le_of_ble_eq_true rfl) hTy ?_
  intro p e s m args below meth c Q ls hx hb hr hlocks hown hml hW hK hT hS hQ hl
  have hl : lv_has ls 11 [(0, .ref (base + a0)), (1, .int a1), (2, .int a2), (3, .int a3)] := hl
  obtain ⟨hz_sg, hk_sg, hn_sg⟩ := hTy.refn hz_a0 hk_a0 (show rtR 12 3 = (25, 2400, 0) from rfl) k_sg
  have hn_sg := hn_sg (by decide)
  refine lv_aload_n hx hb dX12_reckons_0 rfl (lv_at hl 0 rfl) ?_
  refine lv_iconst (v := 0) hx hb dX12_reckons_1 (by decide) ?_
  refine tw_puti hx hb hW hown hK hS f_X12_304_11 hz_a0 hk_a0 rfl rfl (lo := 0) (hi := 64) rfl (iv_mono (iv_c (c := 0) (n := 0) (by decide)) (by decide) (by decide)) rfl dX12_reckons_2 (fun H locs M3 hS k1 f2 => ?_)
  refine lv_iload_n hx hb dX12_reckons_5 rfl (lv_at hl 2 rfl) ?_
  refine lv_istore (lv' := [(4, .int a2), (0, .ref (base + a0)), (1, .int a1), (2, .int a2), (3, .int a3)]) hx hb dX12_reckons_6 hl (by decide) rfl (fun ls hl => ?_)
  have W8_5 : ∀ (n_5 : Nat) (x4 : Int32) (x10 : Int32) (M5 : MT) (R6 : RT) (J7 : JT) (H : Heap) (locs : List Loc) (ls : Array Slot) (h_x4 : iv 0 400 x4) (h_x10 : iv 0 64 x10) (k11 : M5 a0 23 = x10) (w0_5 : a2.toInt ≤ x4.toInt ∧ x4.toInt ≤ a3.toInt) (w1_5 : SEG Ma sg a1.toNatClampNeg a2.toNatClampNeg x4.toNatClampNeg x10.toNatClampNeg) (hm_5 : 400 - x4.toInt < (n_5 : Int)) (hS : SB D cy base Z K N Lt_X12_reckons LRt_X12_reckons Ma Ra M5 R6 J7 s H locs) (hl : lv_has ls 11 [(4, .int x4), (0, .ref (base + a0)), (1, .int a1), (2, .int a2), (3, .int a3)]), W p l e (md_rm 2 0 0) s m args below meth c H locs 0 0 Q (F0 m 8 ls []) := by
    intro n_5
    induction n_5 with
    | zero =>
      intro x4 x10 M5 R6 J7 H locs ls h_x4 h_x10 k11 w0_5 w1_5 hm_5 hS hl
      exfalso
      have := (h_a1).1; have := (h_a1).2; have := (h_a2).1; have := (h_a2).2; have := (h_a3).1; have := (h_a3).2; have := (h_x10).1; have := (h_x10).2; have := (h_x4).1; have := (h_x4).2; omega
    | succ n_5 ih_5 =>
      intro x4 x10 M5 R6 J7 H locs ls h_x4 h_x10 k11 w0_5 w1_5 hm_5 hS hl
      have f8 := hS.2.2.1
      have g9 := hS.2.2.2
      refine lv_iload hx hb dX12_reckons_8 (lv_at hl 0 rfl) ?_
      refine lv_iload_n hx hb dX12_reckons_10 rfl (lv_at hl 4 rfl) ?_
      refine lv_icmp_ge (tgt := 135) hx hb dX12_reckons_11 (by decide) (fun c12 => ?_) (fun c12 => ?_)
      · have q13 : a3.toInt ≤ x4.toInt := ti_le c12
        have zi14 := ti_cl (x := x4) (by have := (h_x4).1; omega); have ze14 := ti_cl (h_a3).1; have zp14 := ti_cl (x := x10) (by have := (h_x10).1; omega)
        have zw14 := (SEG.cast w1_5 (show x4.toNatClampNeg = a3.toNatClampNeg by omega) rfl).un hsg
        have h14 : iv 1 1 x10 := ⟨by omega, by omega⟩
        refine lv_aload_n hx hb dX12_reckons_135 rfl (lv_at hl 1 rfl) ?_
        refine tw_gol hS (md_runV (As := []) (rest := []) hx hb hml hown hW hK hT hS.1 (t_X12_pop l D cy tx base Z K N M5 R6 J7 hS.2.1 a0 hz_a0 hk_a0 x10 k11 (iv_mono h14 (by decide) (by decide))) s_X12_311 ⟨rfl, rfl, ⟨Nat.le_of_ble_eq_true rfl, Nat.le_of_ble_eq_true rfl⟩, ⟨Nat.le_of_ble_eq_true rfl, Nat.le_of_ble_eq_true rfl⟩⟩ hz_a0 hk_a0 (by decide) rfl rfl hl.1 rfl (Nat.le_of_ble_eq_true rfl) dX12_reckons_136) rfl rfl (fun x21 H locs M18 R19 J17 hS f15 g16 E20 => ?_)
        have eR19 := Fr.nil g16 rfl
        subst eR19
        have p22 := E20
        clear E20
        obtain ⟨x25, k23, h24, q26⟩ := p22
        have k23 : M18 a0 23 = x25 := k23
        exact tw_endl hx hb hr hlocks hK hT hS hQ (trivial) dX12_reckons_139
      · have q27 : x4.toInt < a3.toInt := ti_nle c12
        have h28 : iv 0 399 x4 := iv_ltL (y := a3) h_x4 h_a3 q27 (by decide)
        have h29 : iv 1 400 a3 := iv_gtL (y := x4) h_a3 h_x4 q27 (by decide)
        refine lv_aload_n hx hb dX12_reckons_14 rfl (lv_at hl 1 rfl) ?_
        have k30 : R6 a0 3 = some sg := (Fr.kp (k := 3) g9 hk_a0 rfl).trans k_sg
        refine tw_getrk hx hb hW hown hK hS f_X12_13_11 hz_a0 hk_a0 (b := sg) k30 dX12_reckons_15 ?_
        refine lv_sipush (v := 400) hx hb dX12_reckons_18 (by decide) ?_
        refine lv_iload_n hx hb dX12_reckons_21 rfl (lv_at hl 2 rfl) ?_
        refine tw_icmul (k := 400) (lo := 0) (hi := 2000) hx hb (by decide) h_a1 (by decide) ⟨by decide, by decide⟩ ⟨by decide, by decide⟩ dX12_reckons_22 (fun x33 e32 h31 => ?_)
        refine lv_iload hx hb dX12_reckons_23 (lv_at hl 0 rfl) ?_
        refine tw_iadd (lo := 0) (hi := 2399) hx hb h31 h28 ⟨by decide, by decide⟩ ⟨by decide, by decide⟩ dX12_reckons_25 (fun x36 e35 h34 => ?_)
        refine tw_iald hx hb hK hS hz_sg hk_sg (Or.inr (by decide)) hn_sg (lo := (-2147483648)) (hi := 2147483647) h34 ⟨by decide, by decide⟩ rg_u25 dX12_reckons_26 (fun x39 k38 h37 => ?_)
        refine lv_bipush (v := 15) hx hb dX12_reckons_27 (by decide) ?_
        refine lv_iand hx hb dX12_reckons_29 ?_
        refine lv_topi (fun x42 e41 => ?_)
        have h40 : iv 0 15 x42 := by rw [e41]; exact iv_and (iv_mono (iv_c (c := 15) (n := 15) (by decide)) (lo := 0) (hi := 15) (by decide) (by decide)) (by decide)
        refine lv_istore (lv' := [(5, .int x42), (4, .int x4), (0, .ref (base + a0)), (1, .int a1), (2, .int a2), (3, .int a3)]) hx hb dX12_reckons_30 hl (by decide) rfl (fun ls hl => ?_)
        refine lv_aload_n hx hb dX12_reckons_32 rfl (lv_at hl 2 rfl) ?_
        have k43 : R6 a0 3 = some sg := (Fr.kp (k := 3) g9 hk_a0 rfl).trans k_sg
        refine tw_getrk hx hb hW hown hK hS f_X12_13_11 hz_a0 hk_a0 (b := sg) k43 dX12_reckons_33 ?_
        refine lv_sipush (v := 400) hx hb dX12_reckons_36 (by decide) ?_
        refine lv_iload_n hx hb dX12_reckons_39 rfl (lv_at hl 3 rfl) ?_
        refine tw_icmul (k := 400) (lo := 0) (hi := 2000) hx hb (by decide) h_a1 (by decide) ⟨by decide, by decide⟩ ⟨by decide, by decide⟩ dX12_reckons_40 (fun x46 e45 h44 => ?_)
        refine lv_iload hx hb dX12_reckons_41 (lv_at hl 1 rfl) ?_
        refine tw_iadd (lo := 0) (hi := 2399) hx hb h44 h28 ⟨by decide, by decide⟩ ⟨by decide, by decide⟩ dX12_reckons_43 (fun x49 e48 h47 => ?_)
        refine tw_iald hx hb hK hS hz_sg hk_sg (Or.inr (by decide)) hn_sg (lo := (-2147483648)) (hi := 2147483647) h47 ⟨by decide, by decide⟩ rg_u25 dX12_reckons_44 (fun x52 k51 h50 => ?_)
        refine lv_iconst (v := 4) hx hb dX12_reckons_45 (by decide) ?_
        refine lv_ishr hx hb dX12_reckons_46 ?_
        refine lv_topi (fun x55 e54 => ?_)
        have h53 : iv (-134217728) 134217727 x55 := by rw [e54]; exact iv_shr4 _
        refine lv_istore (lv' := [(6, .int x55), (5, .int x42), (4, .int x4), (0, .ref (base + a0)), (1, .int a1), (2, .int a2), (3, .int a3)]) hx hb dX12_reckons_47 hl (by decide) rfl (fun ls hl => ?_)
        have zt55 := ti_cl (h_a1).1; have zi55 := ti_cl (x := x4) (by have := (h28).1; omega); have zp55 := ti_cl (x := x10) (by have := (h_x10).1; omega); have zb55 := ti_cl (h_a2).1; have ze55 := ti_cl (h_a3).1; have zx55 := ti_cl (x := x36) (by have := (h34).1; omega); have zy55 := ti_cl (x := x49) (by have := (h47).1; omega)
        have zj55 : x36.toNatClampNeg = 400 * a1.toNatClampNeg + x4.toNatClampNeg := by omega
        have zq55 : x52 = x39 := by rw [← k51, ← k38, show x49.toNatClampNeg = x36.toNatClampNeg by omega]
        obtain ⟨zh55, zs55, zg55⟩ := seg_step hsg (by omega) (by omega) w1_5
        have zc55 : Ma sg (400 * a1.toNatClampNeg + x4.toNatClampNeg) = x39 := by rw [← zj55]; exact (Fr.kpa f8 hk_sg rfl _).symm.trans k38
        rw [zc55] at zs55
        rw [zq55] at e54
        refine lv_iload hx hb dX12_reckons_49 (lv_at hl 1 rfl) ?_
        refine lv_if_ne (tgt := 64) hx hb dX12_reckons_51 (by decide) (fun c56 => ?_) (fun c56 => ?_)
        · have q57 : ¬ x42.toInt = 0 := ti_ne c56
          have h58 : iv 1 15 x42 := ⟨by have := (h40).1; have := ((iv_c (c := 0) (n := 0) (by decide))).1; have := ((iv_c (c := 0) (n := 0) (by decide))).2; omega, by have := (h40).2; have := ((iv_c (c := 0) (n := 0) (by decide))).1; have := ((iv_c (c := 0) (n := 0) (by decide))).2; omega⟩
          refine lv_iload hx hb dX12_reckons_64 (lv_at hl 1 rfl) ?_
          refine lv_iconst (v := 1) hx hb dX12_reckons_66 (by decide) ?_
          refine lv_icmp_ne (tgt := 84) hx hb dX12_reckons_67 (by decide) (fun c59 => ?_) (fun c59 => ?_)
          · have q60 : ¬ x42.toInt = 1 := ti_ne c59
            have h61 : iv 2 15 x42 := ⟨by have := (h58).1; have := ((iv_c (c := 1) (n := 1) (by decide))).1; have := ((iv_c (c := 1) (n := 1) (by decide))).2; omega, by have := (h58).2; have := ((iv_c (c := 1) (n := 1) (by decide))).1; have := ((iv_c (c := 1) (n := 1) (by decide))).2; omega⟩
            refine lv_iload hx hb dX12_reckons_84 (lv_at hl 1 rfl) ?_
            refine lv_bipush (v := 11) hx hb dX12_reckons_86 (by decide) ?_
            refine lv_icmp_ne (tgt := 104) hx hb dX12_reckons_88 (by decide) (fun c62 => ?_) (fun c62 => ?_)
            · have q63 : ¬ x42.toInt = 11 := ti_ne c62
              have g64 := stp_b e41 zs55 c56 c59 c62
              have h65 : iv 2 64 x10 := ⟨by have := (h_x10).1; omega, by have := (h_x10).2; omega⟩
              refine lv_aload_n hx hb dX12_reckons_104 rfl (lv_at hl 3 rfl) ?_
              refine tw_gol hS (md_runV (As := []) (rest := []) hx hb hml hown hW hK hT hS.1 (t_X12_pop l D cy tx base Z K N M5 R6 J7 hS.2.1 a0 hz_a0 hk_a0 x10 k11 (iv_mono h65 (by decide) (by decide))) s_X12_311 ⟨rfl, rfl, ⟨Nat.le_of_ble_eq_true rfl, Nat.le_of_ble_eq_true rfl⟩, ⟨Nat.le_of_ble_eq_true rfl, Nat.le_of_ble_eq_true rfl⟩⟩ hz_a0 hk_a0 (by decide) rfl rfl hl.1 rfl (Nat.le_of_ble_eq_true rfl) dX12_reckons_105) rfl rfl (fun x72 H locs M69 R70 J68 hS f66 g67 E71 => ?_)
              have eR70 := Fr.nil g67 rfl
              subst eR70
              have p73 := E71
              clear E71
              obtain ⟨x76, k74, h75, q77⟩ := p73
              have k74 : M69 a0 23 = x76 := k74
              refine lv_lstore (lv' := [(7, .long x72), (6, .int x55), (5, .int x42), (4, .int x4), (0, .ref (base + a0)), (1, .int a1), (2, .int a2), (3, .int a3)]) hx hb dX12_reckons_108 hl (by decide) rfl (fun ls hl => ?_)
              refine lv_aload_n hx hb dX12_reckons_110 rfl (lv_at hl 4 rfl) ?_
              have h78 : iv 1 64 x76 := by
                have := (h_a1).1; have := (h_a1).2; have := (h_a2).1; have := (h_a2).2; have := (h29).1; have := (h29).2; have := (h65).1; have := (h65).2; have := (h31).1; have := (h31).2; have := (h34).1; have := (h34).2; have := (h28).1; have := (h28).2; have := (h44).1; have := (h44).2; have := (h47).1; have := (h47).2; have := (h75).1; have := (h75).2; exact ⟨by omega, by omega⟩
              refine tw_gol hS (md_runV (As := []) (rest := []) hx hb hml hown hW hK hT hS.1 (t_X12_pop l D cy tx base Z K N M69 R6 J68 hS.2.1 a0 hz_a0 hk_a0 x76 k74 h78) s_X12_311 ⟨rfl, rfl, ⟨Nat.le_of_ble_eq_true rfl, Nat.le_of_ble_eq_true rfl⟩, ⟨Nat.le_of_ble_eq_true rfl, Nat.le_of_ble_eq_true rfl⟩⟩ hz_a0 hk_a0 (by decide) rfl rfl hl.1 rfl (Nat.le_of_ble_eq_true rfl) dX12_reckons_111) rfl rfl (fun x85 H locs M82 R83 J81 hS f79 g80 E84 => ?_)
              have eR83 := Fr.nil g80 rfl
              subst eR83
              have p86 := E84
              clear E84
              obtain ⟨x89, k87, h88, q90⟩ := p86
              have k87 : M82 a0 23 = x89 := k87
              refine lv_lstore (lv' := [(9, .long x85), (7, .long x72), (6, .int x55), (5, .int x42), (4, .int x4), (0, .ref (base + a0)), (1, .int a1), (2, .int a2), (3, .int a3)]) hx hb dX12_reckons_114 hl (by decide) rfl (fun ls hl => ?_)
              refine lv_aload_n hx hb dX12_reckons_116 rfl (lv_at hl 5 rfl) ?_
              refine lv_iload hx hb dX12_reckons_117 (lv_at hl 3 rfl) ?_
              refine lv_lload hx hb dX12_reckons_119 (lv_at hl 0 rfl) ?_
              refine lv_lload hx hb dX12_reckons_121 (lv_at hl 1 rfl) ?_
              refine tw_gol hS (md_runS (As := [.int x42, .long x85, .long x72]) (rest := [.ref (base + a0)]) hx hb hml hown hW hK hT hS.1 (t_X12_one l D cy tx base Z K N M82 R6 J81 hS.2.1 x42 h61 (x85) (x72)) s_X12_315 ⟨rfl, rfl, ⟨Nat.le_of_ble_eq_true rfl, Nat.le_of_ble_eq_true rfl⟩, ⟨Nat.le_of_ble_eq_true rfl, Nat.le_of_ble_eq_true rfl⟩⟩ rfl hl.1 rfl (Nat.le_of_ble_eq_true rfl) dX12_reckons_123) rfl rfl (fun x97 H locs M94 R95 J93 hS f91 g92 E96 => ?_)
              have eM94 := Fr.nil f91 rfl
              subst eM94
              have eR95 := Fr.nil g92 rfl
              subst eR95
              refine tw_gov hS (md_runV (As := [.long x97]) (rest := []) hx hb hml hown hW hK hT hS.1 (t_X12_push l D cy tx base Z K N M82 R6 J93 hS.2.1 a0 hz_a0 hk_a0 (x97) x89 k87 (iv_mono h88 (by decide) (by decide))) s_X12_307 ⟨rfl, rfl, ⟨Nat.le_of_ble_eq_true rfl, Nat.le_of_ble_eq_true rfl⟩, ⟨Nat.le_of_ble_eq_true rfl, Nat.le_of_ble_eq_true rfl⟩⟩ hz_a0 hk_a0 (by decide) rfl rfl hl.1 rfl (Nat.le_of_ble_eq_true rfl) dX12_reckons_126) rfl rfl (fun H locs M101 R102 J100 hS f98 g99 E103 => ?_)
              have eR102 := Fr.nil g99 rfl
              subst eR102
              have p104 := E103
              clear E103
              obtain ⟨x107, k105, h106, q108⟩ := p104
              have k105 : M101 a0 23 = x107 := k105
              refine tw_iinc (lv' := fun x111 => [(4, .int x111), (9, .long x85), (7, .long x72), (6, .int x55), (5, .int x42), (0, .ref (base + a0)), (1, .int a1), (2, .int a2), (3, .int a3)]) (lo := 1) (hi := 400) hx hb dX12_reckons_129 hl (k := 4) rfl h28 (by decide) ⟨by decide, by decide⟩ ⟨by decide, by decide⟩ (by decide) (fun _ => rfl) (fun x111 ls e110 h109 hl => ?_)
              refine lv_goto (tgt := 8) hx hb dX12_reckons_132 (by decide) ?_
              have w112 : a2.toInt ≤ x111.toInt ∧ x111.toInt ≤ a3.toInt := by
                have := (h_a1).1; have := (h_a1).2; have := (h_a2).1; have := (h_a2).2; have := (h29).1; have := (h29).2; have := (h65).1; have := (h65).2; have := (h109).1; have := (h109).2; have := (h31).1; have := (h31).2; have := (h34).1; have := (h34).2; have := (h28).1; have := (h28).2; have := (h44).1; have := (h44).2; have := (h47).1; have := (h47).2; have := (h75).1; have := (h75).2; omega
              have zu113 := ti_cl (x := x111) (by have := (h109).1; omega); have zv113 := ti_cl (x := x107) (by have := (h106).1; omega)
              have w113 : SEG Ma sg a1.toNatClampNeg a2.toNatClampNeg x111.toNatClampNeg x107.toNatClampNeg := SEG.cast zg55 (by omega) (by omega)
              have hm114 : 400 - x111.toInt < (n_5 : Int) := by
                have := (h_a1).1; have := (h_a1).2; have := (h_a2).1; have := (h_a2).2; have := (h29).1; have := (h29).2; have := (h65).1; have := (h65).2; have := (h109).1; have := (h109).2; have := (h31).1; have := (h31).2; have := (h34).1; have := (h34).2; have := (h28).1; have := (h28).2; have := (h44).1; have := (h44).2; have := (h47).1; have := (h47).2; have := (h75).1; have := (h75).2; omega
              exact ih_5 x111 x107 M101 R6 J100 H locs _ (iv_mono h109 (by decide) (by decide)) (iv_mono h106 (by decide) (by decide)) k105 w112 w113 hm114 hS (lv_sub hl [0, 5, 6, 7, 8] rfl)
            · have q115 : x42.toInt = 11 := ti_eq c62
              have h116 : iv 11 11 x42 := ⟨by have := (h61).1; have := ((iv_c (c := 11) (n := 11) (by decide))).1; omega, by have := (h61).2; have := ((iv_c (c := 11) (n := 11) (by decide))).2; omega⟩
              have g117 := stp_n e41 zs55 c56 c59 c62
              have h118 : iv 1 64 x10 := ⟨by have := (h_x10).1; omega, by have := (h_x10).2; omega⟩
              refine lv_aload_n hx hb dX12_reckons_91 rfl (lv_at hl 3 rfl) ?_
              refine lv_lconst (v := 1) hx hb dX12_reckons_92 (by decide) ?_
              refine lv_aload_n hx hb dX12_reckons_93 rfl (lv_at hl 3 rfl) ?_
              refine tw_gol hS (md_runV (As := []) (rest := [.long 1, .ref (base + a0)]) hx hb hml hown hW hK hT hS.1 (t_X12_pop l D cy tx base Z K N M5 R6 J7 hS.2.1 a0 hz_a0 hk_a0 x10 k11 (iv_mono h118 (by decide) (by decide))) s_X12_311 ⟨rfl, rfl, ⟨Nat.le_of_ble_eq_true rfl, Nat.le_of_ble_eq_true rfl⟩, ⟨Nat.le_of_ble_eq_true rfl, Nat.le_of_ble_eq_true rfl⟩⟩ hz_a0 hk_a0 (by decide) rfl rfl hl.1 rfl (Nat.le_of_ble_eq_true rfl) dX12_reckons_94) rfl rfl (fun x125 H locs M122 R123 J121 hS f119 g120 E124 => ?_)
              have eR123 := Fr.nil g120 rfl
              subst eR123
              have p126 := E124
              clear E124
              obtain ⟨x129, k127, h128, q130⟩ := p126
              have k127 : M122 a0 23 = x129 := k127
              refine lv_lsub hx hb dX12_reckons_97 ?_
              refine tw_topl (fun x131 => ?_)
              refine tw_gov hS (md_runV (As := [.long x131]) (rest := []) hx hb hml hown hW hK hT hS.1 (t_X12_push l D cy tx base Z K N M122 R6 J121 hS.2.1 a0 hz_a0 hk_a0 (x131) x129 k127 (iv_mono h128 (by decide) (by decide))) s_X12_307 ⟨rfl, rfl, ⟨Nat.le_of_ble_eq_true rfl, Nat.le_of_ble_eq_true rfl⟩, ⟨Nat.le_of_ble_eq_true rfl, Nat.le_of_ble_eq_true rfl⟩⟩ hz_a0 hk_a0 (by decide) rfl rfl hl.1 rfl (Nat.le_of_ble_eq_true rfl) dX12_reckons_98) rfl rfl (fun H locs M135 R136 J134 hS f132 g133 E137 => ?_)
              have eR136 := Fr.nil g133 rfl
              subst eR136
              have p138 := E137
              clear E137
              obtain ⟨x141, k139, h140, q142⟩ := p138
              have k139 : M135 a0 23 = x141 := k139
              refine lv_goto (tgt := 129) hx hb dX12_reckons_101 (by decide) ?_
              refine tw_iinc (lv' := fun x145 => [(4, .int x145), (6, .int x55), (5, .int x42), (0, .ref (base + a0)), (1, .int a1), (2, .int a2), (3, .int a3)]) (lo := 1) (hi := 400) hx hb dX12_reckons_129 hl (k := 2) rfl h28 (by decide) ⟨by decide, by decide⟩ ⟨by decide, by decide⟩ (by decide) (fun _ => rfl) (fun x145 ls e144 h143 hl => ?_)
              refine lv_goto (tgt := 8) hx hb dX12_reckons_132 (by decide) ?_
              have w146 : a2.toInt ≤ x145.toInt ∧ x145.toInt ≤ a3.toInt := by
                have := (h_a1).1; have := (h_a1).2; have := (h_a2).1; have := (h_a2).2; have := (h29).1; have := (h29).2; have := (h118).1; have := (h118).2; have := (h128).1; have := (h128).2; have := (h143).1; have := (h143).2; have := (h31).1; have := (h31).2; have := (h34).1; have := (h34).2; have := (h28).1; have := (h28).2; have := (h44).1; have := (h44).2; have := (h47).1; have := (h47).2; omega
              have zu147 := ti_cl (x := x145) (by have := (h143).1; omega); have zv147 := ti_cl (x := x141) (by have := (h140).1; omega)
              have w147 : SEG Ma sg a1.toNatClampNeg a2.toNatClampNeg x145.toNatClampNeg x141.toNatClampNeg := SEG.cast zg55 (by omega) (by omega)
              have hm148 : 400 - x145.toInt < (n_5 : Int) := by
                have := (h_a1).1; have := (h_a1).2; have := (h_a2).1; have := (h_a2).2; have := (h29).1; have := (h29).2; have := (h118).1; have := (h118).2; have := (h128).1; have := (h128).2; have := (h143).1; have := (h143).2; have := (h31).1; have := (h31).2; have := (h34).1; have := (h34).2; have := (h28).1; have := (h28).2; have := (h44).1; have := (h44).2; have := (h47).1; have := (h47).2; omega
              exact ih_5 x145 x141 M135 R6 J134 H locs _ (iv_mono h143 (by decide) (by decide)) (iv_mono h140 (by decide) (by decide)) k139 w146 w147 hm148 hS (lv_sub hl [0, 3, 4, 5, 6] rfl)
          · have q149 : x42.toInt = 1 := ti_eq c59
            have h150 : iv 1 1 x42 := ⟨by have := (h58).1; have := ((iv_c (c := 1) (n := 1) (by decide))).1; omega, by have := (h58).2; have := ((iv_c (c := 1) (n := 1) (by decide))).2; omega⟩
            have g151 := stp_1 e41 e54 zs55 c56 c59
            have h153 : iv 0 9 x55 := ⟨g151.2.2.1, g151.2.2.2⟩
            have h152 : iv 0 63 x10 := ⟨by have := (h_x10).1; omega, by have := (h_x10).2; omega⟩
            refine lv_aload_n hx hb dX12_reckons_70 rfl (lv_at hl 3 rfl) ?_
            refine lv_aload_n hx hb dX12_reckons_71 rfl (lv_at hl 3 rfl) ?_
            refine tw_getr hx hb hW hown hK hS f_X12_42_11 hz_a0 hk_a0 (t := 15) (n := 10) rfl dX12_reckons_72 (fun b154 k155 hz_b154 hk_b154 hn_b154 => ?_)
            have hn_b154 := hn_b154 (by decide)
            refine lv_iload hx hb dX12_reckons_75 (lv_at hl 0 rfl) ?_
            refine tw_lald hx hb hK hS hz_b154 hk_b154 hn_b154 h153 ⟨by decide, by decide⟩ dX12_reckons_77 (fun x156 => ?_)
            refine tw_gov hS (md_runV (As := [.long x156]) (rest := []) hx hb hml hown hW hK hT hS.1 (t_X12_push l D cy tx base Z K N M5 R6 J7 hS.2.1 a0 hz_a0 hk_a0 (x156) x10 k11 (iv_mono h152 (by decide) (by decide))) s_X12_307 ⟨rfl, rfl, ⟨Nat.le_of_ble_eq_true rfl, Nat.le_of_ble_eq_true rfl⟩, ⟨Nat.le_of_ble_eq_true rfl, Nat.le_of_ble_eq_true rfl⟩⟩ hz_a0 hk_a0 (by decide) rfl rfl hl.1 rfl (Nat.le_of_ble_eq_true rfl) dX12_reckons_78) rfl rfl (fun H locs M160 R161 J159 hS f157 g158 E162 => ?_)
            have eR161 := Fr.nil g158 rfl
            subst eR161
            have p163 := E162
            clear E162
            obtain ⟨x166, k164, h165, q167⟩ := p163
            have k164 : M160 a0 23 = x166 := k164
            refine lv_goto (tgt := 129) hx hb dX12_reckons_81 (by decide) ?_
            refine tw_iinc (lv' := fun x170 => [(4, .int x170), (6, .int x55), (5, .int x42), (0, .ref (base + a0)), (1, .int a1), (2, .int a2), (3, .int a3)]) (lo := 1) (hi := 400) hx hb dX12_reckons_129 hl (k := 2) rfl h28 (by decide) ⟨by decide, by decide⟩ ⟨by decide, by decide⟩ (by decide) (fun _ => rfl) (fun x170 ls e169 h168 hl => ?_)
            refine lv_goto (tgt := 8) hx hb dX12_reckons_132 (by decide) ?_
            have w171 : a2.toInt ≤ x170.toInt ∧ x170.toInt ≤ a3.toInt := by
              have := (h_a1).1; have := (h_a1).2; have := (h_a2).1; have := (h_a2).2; have := (h29).1; have := (h29).2; have := (h152).1; have := (h152).2; have := (h165).1; have := (h165).2; have := (h168).1; have := (h168).2; have := (h31).1; have := (h31).2; have := (h34).1; have := (h34).2; have := (h28).1; have := (h28).2; have := (h44).1; have := (h44).2; have := (h47).1; have := (h47).2; omega
            have zu172 := ti_cl (x := x170) (by have := (h168).1; omega); have zv172 := ti_cl (x := x166) (by have := (h165).1; omega)
            have w172 : SEG Ma sg a1.toNatClampNeg a2.toNatClampNeg x170.toNatClampNeg x166.toNatClampNeg := SEG.cast zg55 (by omega) (by omega)
            have hm173 : 400 - x170.toInt < (n_5 : Int) := by
              have := (h_a1).1; have := (h_a1).2; have := (h_a2).1; have := (h_a2).2; have := (h29).1; have := (h29).2; have := (h152).1; have := (h152).2; have := (h165).1; have := (h165).2; have := (h168).1; have := (h168).2; have := (h31).1; have := (h31).2; have := (h34).1; have := (h34).2; have := (h28).1; have := (h28).2; have := (h44).1; have := (h44).2; have := (h47).1; have := (h47).2; omega
            exact ih_5 x170 x166 M160 R6 J159 H locs _ (iv_mono h168 (by decide) (by decide)) (iv_mono h165 (by decide) (by decide)) k164 w171 w172 hm173 hS (lv_sub hl [0, 3, 4, 5, 6] rfl)
        · have q174 : x42.toInt = 0 := ti_eq c56
          have h175 : iv 0 0 x42 := ⟨by have := (h40).1; have := ((iv_c (c := 0) (n := 0) (by decide))).1; omega, by have := (h40).2; have := ((iv_c (c := 0) (n := 0) (by decide))).2; omega⟩
          have g176 := stp_0 e41 zs55 c56
          have h177 : iv 0 63 x10 := ⟨by have := (h_x10).1; omega, by have := (h_x10).2; omega⟩
          refine lv_aload_n hx hb dX12_reckons_54 rfl (lv_at hl 3 rfl) ?_
          refine lv_iload hx hb dX12_reckons_55 (lv_at hl 0 rfl) ?_
          refine lv_i2l hx hb dX12_reckons_57 rfl ?_
          refine tw_gov hS (md_runV (As := [.long x55.toInt64]) (rest := []) hx hb hml hown hW hK hT hS.1 (t_X12_push l D cy tx base Z K N M5 R6 J7 hS.2.1 a0 hz_a0 hk_a0 (x55.toInt64) x10 k11 (iv_mono h177 (by decide) (by decide))) s_X12_307 ⟨rfl, rfl, ⟨Nat.le_of_ble_eq_true rfl, Nat.le_of_ble_eq_true rfl⟩, ⟨Nat.le_of_ble_eq_true rfl, Nat.le_of_ble_eq_true rfl⟩⟩ hz_a0 hk_a0 (by decide) rfl rfl hl.1 rfl (Nat.le_of_ble_eq_true rfl) dX12_reckons_58) rfl rfl (fun H locs M181 R182 J180 hS f178 g179 E183 => ?_)
          have eR182 := Fr.nil g179 rfl
          subst eR182
          have p184 := E183
          clear E183
          obtain ⟨x187, k185, h186, q188⟩ := p184
          have k185 : M181 a0 23 = x187 := k185
          refine lv_goto (tgt := 129) hx hb dX12_reckons_61 (by decide) ?_
          refine tw_iinc (lv' := fun x191 => [(4, .int x191), (6, .int x55), (5, .int x42), (0, .ref (base + a0)), (1, .int a1), (2, .int a2), (3, .int a3)]) (lo := 1) (hi := 400) hx hb dX12_reckons_129 hl (k := 2) rfl h28 (by decide) ⟨by decide, by decide⟩ ⟨by decide, by decide⟩ (by decide) (fun _ => rfl) (fun x191 ls e190 h189 hl => ?_)
          refine lv_goto (tgt := 8) hx hb dX12_reckons_132 (by decide) ?_
          have w192 : a2.toInt ≤ x191.toInt ∧ x191.toInt ≤ a3.toInt := by
            have := (h_a1).1; have := (h_a1).2; have := (h_a2).1; have := (h_a2).2; have := (h29).1; have := (h29).2; have := (h177).1; have := (h177).2; have := (h186).1; have := (h186).2; have := (h189).1; have := (h189).2; have := (h31).1; have := (h31).2; have := (h34).1; have := (h34).2; have := (h28).1; have := (h28).2; have := (h44).1; have := (h44).2; have := (h47).1; have := (h47).2; omega
          have zu193 := ti_cl (x := x191) (by have := (h189).1; omega); have zv193 := ti_cl (x := x187) (by have := (h186).1; omega)
          have w193 : SEG Ma sg a1.toNatClampNeg a2.toNatClampNeg x191.toNatClampNeg x187.toNatClampNeg := SEG.cast zg55 (by omega) (by omega)
          have hm194 : 400 - x191.toInt < (n_5 : Int) := by
            have := (h_a1).1; have := (h_a1).2; have := (h_a2).1; have := (h_a2).2; have := (h29).1; have := (h29).2; have := (h177).1; have := (h177).2; have := (h186).1; have := (h186).2; have := (h189).1; have := (h189).2; have := (h31).1; have := (h31).2; have := (h34).1; have := (h34).2; have := (h28).1; have := (h28).2; have := (h44).1; have := (h44).2; have := (h47).1; have := (h47).2; omega
          exact ih_5 x191 x187 M181 R6 J180 H locs _ (iv_mono h189 (by decide) (by decide)) (iv_mono h186 (by decide) (by decide)) k185 w192 w193 hm194 hS (lv_sub hl [0, 3, 4, 5, 6] rfl)
  have w195 : a2.toInt ≤ a2.toInt ∧ a2.toInt ≤ a3.toInt := by
    have := (h_a1).1; have := (h_a1).2; have := (h_a2).1; have := (h_a2).2; have := (h_a3).1; have := (h_a3).2; omega
  have w196 : SEG Ma sg a1.toNatClampNeg a2.toNatClampNeg a2.toNatClampNeg (0 : Int32).toNatClampNeg := SEG.cast SEG.new rfl (by decide)
  have hm197 : 400 - a2.toInt < (((401 : Nat) : Int) : Int) := by
    have := (h_a1).1; have := (h_a1).2; have := (h_a2).1; have := (h_a2).2; have := (h_a3).1; have := (h_a3).2; omega
  exact W8_5 401 a2 0 M3 Ra Ja H locs _ h_a2 (iv_mono (iv_c (c := 0) (n := 0) (by decide)) (by decide) (by decide)) k1 w195 w196 hm197 hS hl
def Lt_X12_truly : WL := []
def LRt_X12_truly : WL := []
set_option maxRecDepth 100000 in
set_option maxHeartbeats 4000000 in
theorem t_X12_truly (l : Launch) (D : va_G) (cy : Nat → ClassId) (tx : (Nat → Nat) × (Nat → Nat)) (base Z : Nat) (K N : Nat → Nat) (Ma : MT) (Ra : RT) (Ja : JT) (hTy : Ty Z K N Ma Ra) (a0 : Int32) (h_a0 : iv (-2147483648) 2147483647 a0) : Met l yX12_truly [Cond.code yX12_truly cX12_truly 1 (some .int)] (md_rm 1 0 0) (va_Pc [.int a0] (md_U D cy tx base Z K N Ma Ra Ja)) (mQi D cy tx base (fun r u => TP Z K N Lt_X12_truly LRt_X12_truly Ma Ra u ∧ (iv 0 2 r))) 0 0 (fun q => base ≤ q) := by
  refine tw_ofW (L := Lt_X12_truly) (LR := LRt_X12_truly) (by decide) (Nat.le_of_ble_eq_true rfl) hTy ?_
  intro p e s m args below meth c Q ls hx hb hr hlocks hown hml hW hK hT hS hQ hl
  have hl : lv_has ls 1 [(0, .int a0)] := hl
  refine lv_iload_n hx hb dX12_truly_0 rfl (lv_at hl 0 rfl) ?_
  refine lv_if_le (tgt := 8) hx hb dX12_truly_1 (by decide) (fun c1 => ?_) (fun c1 => ?_)
  · have q2 : a0.toInt ≤ 0 := ti_le c1
    have h3 : iv (-2147483648) 0 a0 := iv_leL (y := 0) h_a0 (iv_c (c := 0) (n := 0) (by decide)) q2 (by decide)
    refine lv_iload_n hx hb dX12_truly_8 rfl (lv_at hl 0 rfl) ?_
    refine lv_if_ge (tgt := 16) hx hb dX12_truly_9 (by decide) (fun c4 => ?_) (fun c4 => ?_)
    · have q5 : 0 ≤ a0.toInt := ti_le c4
      have h6 : iv 0 0 a0 := iv_geL (y := 0) h3 (iv_c (c := 0) (n := 0) (by decide)) q5 (by decide)
      refine lv_iconst (v := 2) hx hb dX12_truly_16 (by decide) ?_
      exact tw_endi hx hb hr hlocks hK hT hS hQ ((iv_mono (iv_c (c := 2) (n := 2) (by decide)) (by decide) (by decide))) dX12_truly_17
    · have q7 : a0.toInt < 0 := ti_nle c4
      have h8 : iv (-2147483648) (-1) a0 := iv_ltL (y := 0) h3 (iv_c (c := 0) (n := 0) (by decide)) q7 (by decide)
      refine lv_iconst (v := 0) hx hb dX12_truly_12 (by decide) ?_
      refine lv_goto (tgt := 17) hx hb dX12_truly_13 (by decide) ?_
      exact tw_endi hx hb hr hlocks hK hT hS hQ ((iv_mono (iv_c (c := 0) (n := 0) (by decide)) (by decide) (by decide))) dX12_truly_17
  · have q9 : 0 < a0.toInt := ti_nle c1
    have h10 : iv 1 2147483647 a0 := iv_gtL (y := 0) h_a0 (iv_c (c := 0) (n := 0) (by decide)) q9 (by decide)
    refine lv_iconst (v := 1) hx hb dX12_truly_4 (by decide) ?_
    refine lv_goto (tgt := 17) hx hb dX12_truly_5 (by decide) ?_
    exact tw_endi hx hb hr hlocks hK hT hS hQ ((iv_mono (iv_c (c := 1) (n := 1) (by decide)) (by decide) (by decide))) dX12_truly_17
def Lt_X12_worthOf : WL := []
def LRt_X12_worthOf : WL := []
set_option maxRecDepth 100000 in
set_option maxHeartbeats 4000000 in
theorem t_X12_worthOf (l : Launch) (D : va_G) (cy : Nat → ClassId) (tx : (Nat → Nat) × (Nat → Nat)) (base Z : Nat) (K N : Nat → Nat) (Ma : MT) (Ra : RT) (Ja : JT) (hTy : Ty Z K N Ma Ra) (a0 : Nat) (hz_a0 : a0 < Z) (hk_a0 : K a0 = 12) (a1 : Int32) (h_a1 : iv 0 9 a1) (a2 : Int32) (h_a2 : iv 0 11 a2) : Met l yX12_worthOf [Cond.code yX12_worthOf cX12_worthOf 3 (some .int)] (md_rm 1 0 0) (va_Pc [.ref (base + a0), .int a1, .int a2] (md_U D cy tx base Z K N Ma Ra Ja)) (mQi D cy tx base (fun r u => TP Z K N Lt_X12_worthOf LRt_X12_worthOf Ma Ra u ∧ (iv (-2147483648) 2147483647 r))) 0 0 (fun q => base ≤ q) := by
  refine tw_ofW (L := Lt_X12_worthOf) (LR := LRt_X12_worthOf) (by decide) (Nat.le_of_ble_eq_true rfl) hTy ?_
  intro p e s m args below meth c Q ls hx hb hr hlocks hown hml hW hK hT hS hQ hl
  have hl : lv_has ls 3 [(0, .ref (base + a0)), (1, .int a1), (2, .int a2)] := hl
  refine lv_aload_n hx hb dX12_worthOf_0 rfl (lv_at hl 0 rfl) ?_
  refine tw_getr hx hb hW hown hK hS f_X12_45_11 hz_a0 hk_a0 (t := 23) (n := 226) rfl dX12_worthOf_1 (fun b1 k2 hz_b1 hk_b1 hn_b1 => ?_)
  have hn_b1 := hn_b1 (by decide)
  refine lv_bipush (v := 50) hx hb dX12_worthOf_4 (by decide) ?_
  refine lv_bipush (v := 10) hx hb dX12_worthOf_6 (by decide) ?_
  refine lv_iload_n hx hb dX12_worthOf_8 rfl (lv_at hl 2 rfl) ?_
  refine tw_icmul (k := 10) (lo := 0) (hi := 110) hx hb (by decide) h_a2 (by decide) ⟨by decide, by decide⟩ ⟨by decide, by decide⟩ dX12_worthOf_9 (fun x5 e4 h3 => ?_)
  refine tw_iadd (lo := 50) (hi := 160) hx hb (iv_c (c := 50) (n := 50) (by decide)) h3 ⟨by decide, by decide⟩ ⟨by decide, by decide⟩ dX12_worthOf_10 (fun x8 e7 h6 => ?_)
  have e7 : x8.toInt = 50 + x5.toInt := e7
  refine lv_iload_n hx hb dX12_worthOf_11 rfl (lv_at hl 1 rfl) ?_
  refine tw_iadd (lo := 50) (hi := 169) hx hb h6 h_a1 ⟨by decide, by decide⟩ ⟨by decide, by decide⟩ dX12_worthOf_12 (fun x11 e10 h9 => ?_)
  refine tw_iald hx hb hK hS hz_b1 hk_b1 (Or.inr (by decide)) hn_b1 (lo := (-2147483648)) (hi := 2147483647) h9 ⟨by decide, by decide⟩ rg_full dX12_worthOf_13 (fun x14 k13 h12 => ?_)
  exact tw_endi hx hb hr hlocks hK hT hS hQ (h12) dX12_worthOf_14
