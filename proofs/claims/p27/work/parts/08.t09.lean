def Lt_X11_voice : WL := []
def LRt_X11_voice : WL := []
set_option maxRecDepth 100000 in
set_option maxHeartbeats 4000000 in
theorem t_X11_voice (l : Launch) (D : va_G) (cy : Nat → ClassId) (tx : (Nat → Nat) × (Nat → Nat)) (base Z : Nat) (K N : Nat → Nat) (Ma : MT) (Ra : RT) (Ja : JT) (hTy : Ty Z K N Ma Ra) (a0 : Nat) (hz_a0 : a0 < Z) (hk_a0 : K a0 = 11) (a1 : Int32) (h_a1 : iv (-2147483648) 2147483647 a1) (a2 : Int32) (h_a2 : iv (-2147483648) 2147483647 a2) : Met l yX11_voice [Cond.code yX11_voice cX11_voice 3 (some .int)] (md_rm 2 0 0) (va_Pc [.ref (base + a0), .int a1, .int a2] (md_U D cy tx base Z K N Ma Ra Ja)) (mQi D cy tx base (fun r u => TP Z K N Lt_X11_voice LRt_X11_voice Ma Ra u ∧ (iv (-2147483648) 2147483647 r))) 0 0 (fun q => base ≤ q) := by
  refine tw_ofW (L := Lt_X11_voice) (LR := LRt_X11_voice) (by decide) (Nat.le_of_ble_eq_true rfl) hTy ?_
  intro p e s m args below meth c Q ls hx hb hr hlocks hown hml hW hK hT hS hQ hl
  have hl : lv_has ls 3 [(0, .ref (base + a0)), (1, .int a1), (2, .int a2)] := hl
  refine lv_aload_n hx hb dX11_voice_0 rfl (lv_at hl 0 rfl) ?_
  refine tw_getr hx hb hW hown hK hS f_X11_31_10 hz_a0 hk_a0 (t := 10) (n := 0) rfl dX11_voice_1 (fun b1 k2 hz_b1 hk_b1 hn_b1 => ?_)
  refine lv_iload_n hx hb dX11_voice_4 rfl (lv_at hl 1 rfl) ?_
  refine tw_goi hS (md_runV (As := [.int a1]) (rest := []) hx hb hml hown hW hK hT hS.1 (t_X9_hasMember l D cy tx base Z K N Ma Ra Ja hS.2.1 b1 hz_b1 hk_b1 a1 h_a1) s_X11_132 ⟨rfl, rfl, ⟨Nat.le_of_ble_eq_true rfl, Nat.le_of_ble_eq_true rfl⟩, ⟨Nat.le_of_ble_eq_true rfl, Nat.le_of_ble_eq_true rfl⟩⟩ hz_b1 hk_b1 (by decide) rfl rfl hl.1 rfl (Nat.le_of_ble_eq_true rfl) dX11_voice_5) rfl rfl (fun x9 H locs M5 R6 J7 hS f3 g4 E8 => ?_)
  obtain ⟨h_x9, p10⟩ := E8
  refine lv_if_ne (tgt := 13) hx hb dX11_voice_8 (by decide) (fun c11 => ?_) (fun c11 => ?_)
  · have q12 : ¬ x9.toInt = 0 := ti_ne c11
    have h13 : iv 1 1 x9 := ⟨by have := (h_x9).1; have := ((iv_c (c := 0) (n := 0) (by decide))).1; have := ((iv_c (c := 0) (n := 0) (by decide))).2; omega, by have := (h_x9).2; have := ((iv_c (c := 0) (n := 0) (by decide))).1; have := ((iv_c (c := 0) (n := 0) (by decide))).2; omega⟩
    have h14 : iv 0 9 a1 := ⟨by have := (p10 c11).1; have := (h_a1).1; omega, by have := (p10 c11).2; have := (h_a1).2; omega⟩
    refine lv_iload_n hx hb dX11_voice_13 rfl (lv_at hl 2 rfl) ?_
    by_cases c15 : a2 = 0
    · subst c15
      refine lv_tableIn (off := 34) (tgt := 48) hx hb dX11_voice_14 (by decide) (by decide) rfl (by decide) ?_
      refine lv_aload_n hx hb dX11_voice_48 rfl (lv_at hl 0 rfl) ?_
      have k16 : R6 a0 3 = some b1 := (Fr.kp (k := 3) g4 hk_a0 rfl).trans k2
      refine tw_getrk hx hb hW hown hK hS f_X11_31_10 hz_a0 hk_a0 (b := b1) k16 dX11_voice_49 ?_
      refine tw_getr hx hb hW hown hK hS f_X11_136_9 hz_b1 hk_b1 (t := 20) (n := 10) rfl dX11_voice_52 (fun b17 k18 hz_b17 hk_b17 hn_b17 => ?_)
      have hn_b17 := hn_b17 (by decide)
      refine lv_iload_n hx hb dX11_voice_55 rfl (lv_at hl 1 rfl) ?_
      refine tw_iald hx hb hK hS hz_b17 hk_b17 (Or.inr (by decide)) hn_b17 (lo := (-2147483648)) (hi := 2147483647) h14 ⟨by decide, by decide⟩ rg_u20 dX11_voice_56 (fun x21 k20 h19 => ?_)
      exact tw_endi hx hb hr hlocks hK hT hS hQ (h19) dX11_voice_57
    have q22 : ¬ a2.toInt = 0 := ti_ne c15
    by_cases c23 : a2 = 1
    · subst c23
      refine lv_tableIn (off := 44) (tgt := 58) hx hb dX11_voice_14 (by decide) (by decide) rfl (by decide) ?_
      refine lv_aload_n hx hb dX11_voice_58 rfl (lv_at hl 0 rfl) ?_
      have k24 : R6 a0 3 = some b1 := (Fr.kp (k := 3) g4 hk_a0 rfl).trans k2
      refine tw_getrk hx hb hW hown hK hS f_X11_31_10 hz_a0 hk_a0 (b := b1) k24 dX11_voice_59 ?_
      refine tw_getr hx hb hW hown hK hS f_X11_139_9 hz_b1 hk_b1 (t := 14) (n := 10) rfl dX11_voice_62 (fun b25 k26 hz_b25 hk_b25 hn_b25 => ?_)
      have hn_b25 := hn_b25 (by decide)
      refine lv_iload_n hx hb dX11_voice_65 rfl (lv_at hl 1 rfl) ?_
      refine tw_iald hx hb hK hS hz_b25 hk_b25 (Or.inl rfl) hn_b25 (lo := (-2147483648)) (hi := 2147483647) h14 ⟨by decide, by decide⟩ rg_u14 dX11_voice_66 (fun x29 k28 h27 => ?_)
      exact tw_endi hx hb hr hlocks hK hT hS hQ (h27) dX11_voice_67
    have q30 : ¬ a2.toInt = 1 := ti_ne c23
    by_cases c31 : a2 = 2
    · subst c31
      refine lv_tableIn (off := 54) (tgt := 68) hx hb dX11_voice_14 (by decide) (by decide) rfl (by decide) ?_
      refine lv_aload_n hx hb dX11_voice_68 rfl (lv_at hl 0 rfl) ?_
      have k32 : R6 a0 3 = some b1 := (Fr.kp (k := 3) g4 hk_a0 rfl).trans k2
      refine tw_getrk hx hb hW hown hK hS f_X11_31_10 hz_a0 hk_a0 (b := b1) k32 dX11_voice_69 ?_
      refine tw_geti hx hb hW hown hK hS f_X11_142_9 hz_b1 hk_b1 (lo := (-2147483648)) (hi := 2147483647) rfl dX11_voice_72 (fun x35 k34 h33 => ?_)
      refine lv_iload_n hx hb dX11_voice_75 rfl (lv_at hl 1 rfl) ?_
      refine lv_ishr hx hb dX11_voice_76 ?_
      refine tw_top (fun x37 => ?_)
      have h36 := iv_any x37
      refine lv_iconst (v := 1) hx hb dX11_voice_77 (by decide) ?_
      refine tw_iand (hi := 1) hx hb (iv_mono (iv_c (c := 1) (n := 1) (by decide)) (lo := 0) (hi := 1) (by decide) (by decide)) (by decide) dX11_voice_78 (fun x40 h38 => ?_)
      exact tw_endi hx hb hr hlocks hK hT hS hQ ((iv_mono h38 (by decide) (by decide))) dX11_voice_79
    have q41 : ¬ a2.toInt = 2 := ti_ne c31
    by_cases c42 : a2 = 3
    · subst c42
      refine lv_tableIn (off := 66) (tgt := 80) hx hb dX11_voice_14 (by decide) (by decide) rfl (by decide) ?_
      refine lv_aload_n hx hb dX11_voice_80 rfl (lv_at hl 0 rfl) ?_
      have k43 : R6 a0 3 = some b1 := (Fr.kp (k := 3) g4 hk_a0 rfl).trans k2
      refine tw_getrk hx hb hW hown hK hS f_X11_31_10 hz_a0 hk_a0 (b := b1) k43 dX11_voice_81 ?_
      refine tw_getr hx hb hW hown hK hS f_X11_145_9 hz_b1 hk_b1 (t := 14) (n := 10) rfl dX11_voice_84 (fun b44 k45 hz_b44 hk_b44 hn_b44 => ?_)
      have hn_b44 := hn_b44 (by decide)
      refine lv_iload_n hx hb dX11_voice_87 rfl (lv_at hl 1 rfl) ?_
      refine tw_iald hx hb hK hS hz_b44 hk_b44 (Or.inl rfl) hn_b44 (lo := (-2147483648)) (hi := 2147483647) h14 ⟨by decide, by decide⟩ rg_u14 dX11_voice_88 (fun x48 k47 h46 => ?_)
      exact tw_endi hx hb hr hlocks hK hT hS hQ (h46) dX11_voice_89
    have q49 : ¬ a2.toInt = 3 := ti_ne c42
    by_cases c50 : a2 = 4
    · subst c50
      refine lv_tableIn (off := 76) (tgt := 90) hx hb dX11_voice_14 (by decide) (by decide) rfl (by decide) ?_
      refine lv_aload_n hx hb dX11_voice_90 rfl (lv_at hl 0 rfl) ?_
      have k51 : R6 a0 3 = some b1 := (Fr.kp (k := 3) g4 hk_a0 rfl).trans k2
      refine tw_getrk hx hb hW hown hK hS f_X11_31_10 hz_a0 hk_a0 (b := b1) k51 dX11_voice_91 ?_
      refine tw_getr hx hb hW hown hK hS f_X11_148_9 hz_b1 hk_b1 (t := 14) (n := 10) rfl dX11_voice_94 (fun b52 k53 hz_b52 hk_b52 hn_b52 => ?_)
      have hn_b52 := hn_b52 (by decide)
      refine lv_iload_n hx hb dX11_voice_97 rfl (lv_at hl 1 rfl) ?_
      refine tw_iald hx hb hK hS hz_b52 hk_b52 (Or.inl rfl) hn_b52 (lo := (-2147483648)) (hi := 2147483647) h14 ⟨by decide, by decide⟩ rg_u14 dX11_voice_98 (fun x56 k55 h54 => ?_)
      exact tw_endi hx hb hr hlocks hK hT hS hQ (h54) dX11_voice_99
    have q57 : ¬ a2.toInt = 4 := ti_ne c50
    refine lv_tableOut (tgt := 100) hx hb dX11_voice_14 (by have := (h_a2).1; have := (h_a2).2; omega) (by decide) ?_
    refine lv_iconst (v := (-1)) hx hb dX11_voice_100 (by decide) ?_
    exact tw_endi hx hb hr hlocks hK hT hS hQ ((iv_mono (iv_c (c := (-1)) (n := (-1)) (by decide)) (by decide) (by decide))) dX11_voice_101
  · have q58 : x9.toInt = 0 := ti_eq c11
    have h59 : iv 0 0 x9 := ⟨by have := (h_x9).1; have := ((iv_c (c := 0) (n := 0) (by decide))).1; omega, by have := (h_x9).2; have := ((iv_c (c := 0) (n := 0) (by decide))).2; omega⟩
    refine lv_iconst (v := (-1)) hx hb dX11_voice_11 (by decide) ?_
    exact tw_endi hx hb hr hlocks hK hT hS hQ ((iv_mono (iv_c (c := (-1)) (n := (-1)) (by decide)) (by decide) (by decide))) dX11_voice_12
def Lt_X11_vote : WL := [(6, 2, 4), (6, 6, 15), (10, 3, 4), (14, 0, 2000000), (20, 0, 2000000)]
def LRt_X11_vote : WL := [(6, 4, 5)]
set_option maxRecDepth 100000 in
set_option maxHeartbeats 4000000 in
theorem t_X11_vote (l : Launch) (D : va_G) (cy : Nat → ClassId) (tx : (Nat → Nat) × (Nat → Nat)) (base Z : Nat) (K N : Nat → Nat) (Ma : MT) (Ra : RT) (Ja : JT) (hTy : Ty Z K N Ma Ra) (a0 : Nat) (hz_a0 : a0 < Z) (hk_a0 : K a0 = 11) (a1 : Int32) (h_a1 : iv (-2147483648) 2147483647 a1) : Met l yX11_vote [Cond.code yX11_vote cX11_vote 2 (some .int)] (md_rm 5 0 0) (va_Pc [.ref (base + a0), .int a1] (md_U D cy tx base Z K N Ma Ra Ja)) (mQi D cy tx base (fun r u => TP Z K N Lt_X11_vote LRt_X11_vote Ma Ra u ∧ (iv (-2) 2 r))) 0 0 (fun q => base ≤ q) := by
  refine tw_ofW (L := Lt_X11_vote) (LR := LRt_X11_vote) (by decide) (Nat.le_of_ble_eq_true rfl) hTy ?_
  intro p e s m args below meth c Q ls hx hb hr hlocks hown hml hW hK hT hS hQ hl
  have hl : lv_has ls 2 [(0, .ref (base + a0)), (1, .int a1)] := hl
  refine lv_aload_n hx hb dX11_vote_0 rfl (lv_at hl 0 rfl) ?_
  refine tw_getr hx hb hW hown hK hS f_X11_31_10 hz_a0 hk_a0 (t := 10) (n := 0) rfl dX11_vote_1 (fun b1 k2 hz_b1 hk_b1 hn_b1 => ?_)
  refine lv_iload_n hx hb dX11_vote_4 rfl (lv_at hl 1 rfl) ?_
  refine tw_goi hS (md_runV (As := [.int a1]) (rest := []) hx hb hml hown hW hK hT hS.1 (t_X9_hasPoint l D cy tx base Z K N Ma Ra Ja hS.2.1 b1 hz_b1 hk_b1 a1 h_a1) s_X11_151 ⟨rfl, rfl, ⟨Nat.le_of_ble_eq_true rfl, Nat.le_of_ble_eq_true rfl⟩, ⟨Nat.le_of_ble_eq_true rfl, Nat.le_of_ble_eq_true rfl⟩⟩ hz_b1 hk_b1 (by decide) rfl rfl hl.1 rfl (Nat.le_of_ble_eq_true rfl) dX11_vote_5) rfl rfl (fun x9 H locs M5 R6 J7 hS f3 g4 E8 => ?_)
  obtain ⟨h_x9, p10⟩ := E8
  refine lv_if_ne (tgt := 17) hx hb dX11_vote_8 (by decide) (fun c11 => ?_) (fun c11 => ?_)
  · have q12 : ¬ x9.toInt = 0 := ti_ne c11
    have h13 : iv 1 1 x9 := ⟨by have := (h_x9).1; have := ((iv_c (c := 0) (n := 0) (by decide))).1; have := ((iv_c (c := 0) (n := 0) (by decide))).2; omega, by have := (h_x9).2; have := ((iv_c (c := 0) (n := 0) (by decide))).1; have := ((iv_c (c := 0) (n := 0) (by decide))).2; omega⟩
    have h14 : iv 0 11 a1 := ⟨by have := (p10 c11).1; have := (h_a1).1; omega, by have := (p10 c11).2; have := (h_a1).2; omega⟩
    refine lv_aload_n hx hb dX11_vote_17 rfl (lv_at hl 0 rfl) ?_
    refine tw_getr hx hb hW hown hK hS f_X11_39_10 hz_a0 hk_a0 (t := 6) (n := 0) rfl dX11_vote_18 (fun b15 k16 hz_b15 hk_b15 hn_b15 => ?_)
    refine lv_iload_n hx hb dX11_vote_21 rfl (lv_at hl 1 rfl) ?_
    refine lv_aload_n hx hb dX11_vote_22 rfl (lv_at hl 0 rfl) ?_
    have k17 : R6 a0 3 = some b1 := (Fr.kp (k := 3) g4 hk_a0 rfl).trans k2
    refine tw_getrk hx hb hW hown hK hS f_X11_31_10 hz_a0 hk_a0 (b := b1) k17 dX11_vote_23 ?_
    refine tw_getr hx hb hW hown hK hS f_X11_136_9 hz_b1 hk_b1 (t := 20) (n := 10) rfl dX11_vote_26 (fun b18 k19 hz_b18 hk_b18 hn_b18 => ?_)
    have hn_b18 := hn_b18 (by decide)
    refine lv_aload_n hx hb dX11_vote_29 rfl (lv_at hl 0 rfl) ?_
    have k20 : R6 a0 3 = some b1 := (Fr.kp (k := 3) g4 hk_a0 rfl).trans k2
    refine tw_getrk hx hb hW hown hK hS f_X11_31_10 hz_a0 hk_a0 (b := b1) k20 dX11_vote_30 ?_
    refine tw_geti hx hb hW hown hK hS f_X11_180_9 hz_b1 hk_b1 (lo := (-2147483648)) (hi := 2147483647) rfl dX11_vote_33 (fun x23 k22 h21 => ?_)
    refine tw_gov hS (md_runV (As := [.int a1, .ref (base + b18), .int x23]) (rest := []) hx hb hml hown hW hK hT hS.1 (t_X5_bringAlone l D cy tx base Z K N M5 R6 J7 hS.2.1 b15 hz_b15 hk_b15 a1 h14 b18 hz_b18 hk_b18 hn_b18 x23 h21) s_X11_183 ⟨rfl, rfl, ⟨Nat.le_of_ble_eq_true rfl, Nat.le_of_ble_eq_true rfl⟩, ⟨Nat.le_of_ble_eq_true rfl, Nat.le_of_ble_eq_true rfl⟩⟩ hz_b15 hk_b15 (by decide) rfl rfl hl.1 rfl (Nat.le_of_ble_eq_true rfl) dX11_vote_36) rfl rfl (fun H locs M26 R27 J28 hS f24 g25 E29 => ?_)
    have p30 := E29
    have k31 : RowOK N M26 R27 b15 := p30
    refine lv_aload_n hx hb dX11_vote_39 rfl (lv_at hl 0 rfl) ?_
    have k32 : R27 a0 9 = some b15 := (Fr.kp (k := 9) g25 hk_a0 rfl).trans k16
    refine tw_getrk hx hb hW hown hK hS f_X11_39_10 hz_a0 hk_a0 (b := b15) k32 dX11_vote_40 ?_
    refine lv_aload_n hx hb dX11_vote_43 rfl (lv_at hl 0 rfl) ?_
    have k33 : R27 a0 3 = some b1 := ((Fr.kp (k := 3) g25 hk_a0 rfl).trans (Fr.kp (k := 3) g4 hk_a0 rfl)).trans k2
    refine tw_getrk hx hb hW hown hK hS f_X11_31_10 hz_a0 hk_a0 (b := b1) k33 dX11_vote_44 ?_
    refine tw_geti hx hb hW hown hK hS f_X11_142_9 hz_b1 hk_b1 (lo := (-2147483648)) (hi := 2147483647) rfl dX11_vote_47 (fun x36 k35 h34 => ?_)
    refine tw_gov hS (md_runV (As := [.int x36]) (rest := []) hx hb hml hown hW hK hT hS.1 (t_X5_ask l D cy tx base Z K N M26 R27 J28 hS.2.1 b15 hz_b15 hk_b15 x36 h34 k31) s_X11_187 ⟨rfl, rfl, ⟨Nat.le_of_ble_eq_true rfl, Nat.le_of_ble_eq_true rfl⟩, ⟨Nat.le_of_ble_eq_true rfl, Nat.le_of_ble_eq_true rfl⟩⟩ hz_b15 hk_b15 (by decide) rfl rfl hl.1 rfl (Nat.le_of_ble_eq_true rfl) dX11_vote_50) rfl rfl (fun H locs M39 R40 J41 hS f37 g38 E42 => ?_)
    refine lv_aload_n hx hb dX11_vote_53 rfl (lv_at hl 0 rfl) ?_
    have k43 : R40 a0 9 = some b15 := (Fr.kp (k := 9) g38 hk_a0 rfl).trans k32
    refine tw_getrk hx hb hW hown hK hS f_X11_39_10 hz_a0 hk_a0 (b := b15) k43 dX11_vote_54 ?_
    refine lv_aload_n hx hb dX11_vote_57 rfl (lv_at hl 0 rfl) ?_
    refine tw_getrk hx hb hW hown hK hS f_X11_39_10 hz_a0 hk_a0 (b := b15) k43 dX11_vote_58 ?_
    refine tw_geti hx hb hW hown hK hS f_X11_190_5 hz_b15 hk_b15 (lo := (-2147483648)) (hi := 2147483647) rfl dX11_vote_61 (fun x46 k45 h44 => ?_)
    refine lv_aload_n hx hb dX11_vote_64 rfl (lv_at hl 0 rfl) ?_
    refine tw_getrk hx hb hW hown hK hS f_X11_39_10 hz_a0 hk_a0 (b := b15) k43 dX11_vote_65 ?_
    refine tw_geti hx hb hW hown hK hS f_X11_193_5 hz_b15 hk_b15 (lo := (-2147483648)) (hi := 2147483647) rfl dX11_vote_68 (fun x49 k48 h47 => ?_)
    refine tw_goi hS (md_runV (As := [.int x46, .int x49]) (rest := []) hx hb hml hown hW hK hT hS.1 (t_X5_holdForGood l D cy tx base Z K N M39 R40 J41 hS.2.1 b15 hz_b15 hk_b15 x46 h44 x49 h47) s_X11_196 ⟨rfl, rfl, ⟨Nat.le_of_ble_eq_true rfl, Nat.le_of_ble_eq_true rfl⟩, ⟨Nat.le_of_ble_eq_true rfl, Nat.le_of_ble_eq_true rfl⟩⟩ hz_b15 hk_b15 (by decide) rfl rfl hl.1 rfl (Nat.le_of_ble_eq_true rfl) dX11_vote_71) rfl rfl (fun x56 H locs M52 R53 J54 hS f50 g51 E55 => ?_)
    have h_x56 := E55
    exact tw_endi hx hb hr hlocks hK hT hS hQ ((iv_mono h_x56 (by decide) (by decide))) dX11_vote_74
  · have q57 : x9.toInt = 0 := ti_eq c11
    have h58 : iv 0 0 x9 := ⟨by have := (h_x9).1; have := ((iv_c (c := 0) (n := 0) (by decide))).1; omega, by have := (h_x9).2; have := ((iv_c (c := 0) (n := 0) (by decide))).2; omega⟩
    refine lv_aload_n hx hb dX11_vote_11 rfl (lv_at hl 0 rfl) ?_
    refine lv_iconst (v := 0) hx hb dX11_vote_12 (by decide) ?_
    refine tw_goi hS (md_runV (As := [.int 0]) (rest := []) hx hb hml hown hW hK hT hS.1 (t_X11_refuse l D cy tx base Z K N M5 R6 J7 hS.2.1 a0 hz_a0 hk_a0 0 (iv_mono (iv_c (c := 0) (n := 0) (by decide)) (by decide) (by decide))) s_X11_158 ⟨rfl, rfl, ⟨Nat.le_of_ble_eq_true rfl, Nat.le_of_ble_eq_true rfl⟩, ⟨Nat.le_of_ble_eq_true rfl, Nat.le_of_ble_eq_true rfl⟩⟩ hz_a0 hk_a0 (by decide) rfl rfl hl.1 rfl (Nat.le_of_ble_eq_true rfl) dX11_vote_13) rfl rfl (fun x65 H locs M61 R62 J63 hS f59 g60 E64 => ?_)
    have h_x65 := E64
    exact tw_endi hx hb hr hlocks hK hT hS hQ ((iv_mono h_x65 (by decide) (by decide))) dX11_vote_16
def Lt_X11_worth : WL := []
def LRt_X11_worth : WL := []
set_option maxRecDepth 100000 in
set_option maxHeartbeats 4000000 in
theorem t_X11_worth (l : Launch) (D : va_G) (cy : Nat → ClassId) (tx : (Nat → Nat) × (Nat → Nat)) (base Z : Nat) (K N : Nat → Nat) (Ma : MT) (Ra : RT) (Ja : JT) (hTy : Ty Z K N Ma Ra) (a0 : Nat) (hz_a0 : a0 < Z) (hk_a0 : K a0 = 11) (a1 : Int32) (h_a1 : iv (-2147483648) 2147483647 a1) (a2 : Int32) (h_a2 : iv (-2147483648) 2147483647 a2) : Met l yX11_worth [Cond.code yX11_worth cX11_worth 3 (some .int)] (md_rm 2 0 0) (va_Pc [.ref (base + a0), .int a1, .int a2] (md_U D cy tx base Z K N Ma Ra Ja)) (mQi D cy tx base (fun r u => TP Z K N Lt_X11_worth LRt_X11_worth Ma Ra u ∧ (iv (-2147483648) 2147483647 r))) 0 0 (fun q => base ≤ q) := by
  refine tw_ofW (L := Lt_X11_worth) (LR := LRt_X11_worth) (by decide) (Nat.le_of_ble_eq_true rfl) hTy ?_
  intro p e s m args below meth c Q ls hx hb hr hlocks hown hml hW hK hT hS hQ hl
  have hl : lv_has ls 3 [(0, .ref (base + a0)), (1, .int a1), (2, .int a2)] := hl
  refine lv_aload_n hx hb dX11_worth_0 rfl (lv_at hl 0 rfl) ?_
  refine tw_getr hx hb hW hown hK hS f_X11_31_10 hz_a0 hk_a0 (t := 10) (n := 0) rfl dX11_worth_1 (fun b1 k2 hz_b1 hk_b1 hn_b1 => ?_)
  refine lv_iload_n hx hb dX11_worth_4 rfl (lv_at hl 1 rfl) ?_
  refine tw_goi hS (md_runV (As := [.int a1]) (rest := []) hx hb hml hown hW hK hT hS.1 (t_X9_hasMember l D cy tx base Z K N Ma Ra Ja hS.2.1 b1 hz_b1 hk_b1 a1 h_a1) s_X11_132 ⟨rfl, rfl, ⟨Nat.le_of_ble_eq_true rfl, Nat.le_of_ble_eq_true rfl⟩, ⟨Nat.le_of_ble_eq_true rfl, Nat.le_of_ble_eq_true rfl⟩⟩ hz_b1 hk_b1 (by decide) rfl rfl hl.1 rfl (Nat.le_of_ble_eq_true rfl) dX11_worth_5) rfl rfl (fun x9 H locs M5 R6 J7 hS f3 g4 E8 => ?_)
  obtain ⟨h_x9, p10⟩ := E8
  refine lv_if_eq (tgt := 34) hx hb dX11_worth_8 (by decide) (fun c11 => ?_) (fun c11 => ?_)
  · have q12 : x9.toInt = 0 := ti_eq c11
    have h13 : iv 0 0 x9 := ⟨by have := (h_x9).1; have := ((iv_c (c := 0) (n := 0) (by decide))).1; omega, by have := (h_x9).2; have := ((iv_c (c := 0) (n := 0) (by decide))).2; omega⟩
    refine lv_sipush (v := (-1000)) hx hb dX11_worth_34 (by decide) ?_
    exact tw_endi hx hb hr hlocks hK hT hS hQ ((iv_mono (iv_c (c := (-1000)) (n := (-1000)) (by decide)) (by decide) (by decide))) dX11_worth_37
  · have q14 : ¬ x9.toInt = 0 := ti_ne c11
    have h15 : iv 1 1 x9 := ⟨by have := (h_x9).1; have := ((iv_c (c := 0) (n := 0) (by decide))).1; have := ((iv_c (c := 0) (n := 0) (by decide))).2; omega, by have := (h_x9).2; have := ((iv_c (c := 0) (n := 0) (by decide))).1; have := ((iv_c (c := 0) (n := 0) (by decide))).2; omega⟩
    have h16 : iv 0 9 a1 := ⟨by have := (p10 c11).1; have := (h_a1).1; omega, by have := (p10 c11).2; have := (h_a1).2; omega⟩
    refine lv_aload_n hx hb dX11_worth_11 rfl (lv_at hl 0 rfl) ?_
    have k17 : R6 a0 3 = some b1 := (Fr.kp (k := 3) g4 hk_a0 rfl).trans k2
    refine tw_getrk hx hb hW hown hK hS f_X11_31_10 hz_a0 hk_a0 (b := b1) k17 dX11_worth_12 ?_
    refine lv_iload_n hx hb dX11_worth_15 rfl (lv_at hl 2 rfl) ?_
    refine tw_goi hS (md_runV (As := [.int a2]) (rest := []) hx hb hml hown hW hK hT hS.1 (t_X9_hasPoint l D cy tx base Z K N M5 R6 J7 hS.2.1 b1 hz_b1 hk_b1 a2 h_a2) s_X11_151 ⟨rfl, rfl, ⟨Nat.le_of_ble_eq_true rfl, Nat.le_of_ble_eq_true rfl⟩, ⟨Nat.le_of_ble_eq_true rfl, Nat.le_of_ble_eq_true rfl⟩⟩ hz_b1 hk_b1 (by decide) rfl rfl hl.1 rfl (Nat.le_of_ble_eq_true rfl) dX11_worth_16) rfl rfl (fun x24 H locs M20 R21 J22 hS f18 g19 E23 => ?_)
    obtain ⟨h_x24, p25⟩ := E23
    refine lv_if_eq (tgt := 34) hx hb dX11_worth_19 (by decide) (fun c26 => ?_) (fun c26 => ?_)
    · have q27 : x24.toInt = 0 := ti_eq c26
      have h28 : iv 0 0 x24 := ⟨by have := (h_x24).1; have := ((iv_c (c := 0) (n := 0) (by decide))).1; omega, by have := (h_x24).2; have := ((iv_c (c := 0) (n := 0) (by decide))).2; omega⟩
      refine lv_sipush (v := (-1000)) hx hb dX11_worth_34 (by decide) ?_
      exact tw_endi hx hb hr hlocks hK hT hS hQ ((iv_mono (iv_c (c := (-1000)) (n := (-1000)) (by decide)) (by decide) (by decide))) dX11_worth_37
    · have q29 : ¬ x24.toInt = 0 := ti_ne c26
      have h30 : iv 1 1 x24 := ⟨by have := (h_x24).1; have := ((iv_c (c := 0) (n := 0) (by decide))).1; have := ((iv_c (c := 0) (n := 0) (by decide))).2; omega, by have := (h_x24).2; have := ((iv_c (c := 0) (n := 0) (by decide))).1; have := ((iv_c (c := 0) (n := 0) (by decide))).2; omega⟩
      have h31 : iv 0 11 a2 := ⟨by have := (p25 c26).1; have := (h_a2).1; omega, by have := (p25 c26).2; have := (h_a2).2; omega⟩
      refine lv_aload_n hx hb dX11_worth_22 rfl (lv_at hl 0 rfl) ?_
      have k32 : R21 a0 3 = some b1 := ((Fr.kp (k := 3) g19 hk_a0 rfl).trans (Fr.kp (k := 3) g4 hk_a0 rfl)).trans k2
      refine tw_getrk hx hb hW hown hK hS f_X11_31_10 hz_a0 hk_a0 (b := b1) k32 dX11_worth_23 ?_
      refine lv_iload_n hx hb dX11_worth_26 rfl (lv_at hl 1 rfl) ?_
      refine lv_iload_n hx hb dX11_worth_27 rfl (lv_at hl 2 rfl) ?_
      refine tw_goi hS (md_runV (As := [.int a1, .int a2]) (rest := []) hx hb hml hown hW hK hT hS.1 (t_X9_worthOf l D cy tx base Z K N M20 R21 J22 hS.2.1 b1 hz_b1 hk_b1 a1 h16 a2 h31) s_X11_154 ⟨rfl, rfl, ⟨Nat.le_of_ble_eq_true rfl, Nat.le_of_ble_eq_true rfl⟩, ⟨Nat.le_of_ble_eq_true rfl, Nat.le_of_ble_eq_true rfl⟩⟩ hz_b1 hk_b1 (by decide) rfl rfl hl.1 rfl (Nat.le_of_ble_eq_true rfl) dX11_worth_28) rfl rfl (fun x39 H locs M35 R36 J37 hS f33 g34 E38 => ?_)
      have h_x39 := E38
      refine lv_goto (tgt := 37) hx hb dX11_worth_31 (by decide) ?_
      exact tw_endi hx hb hr hlocks hK hT hS hQ (h_x39) dX11_worth_37
def Lt_X3_runYear : WL := [(4, 5, 8), (6, 2, 4), (6, 6, 15), (20, 0, 2000000)]
def LRt_X3_runYear : WL := [(6, 4, 5)]
set_option maxRecDepth 100000 in
set_option maxHeartbeats 4000000 in
theorem t_X3_runYear (l : Launch) (D : va_G) (cy : Nat → ClassId) (tx : (Nat → Nat) × (Nat → Nat)) (base Z : Nat) (K N : Nat → Nat) (Ma : MT) (Ra : RT) (Ja : JT) (hTy : Ty Z K N Ma Ra) (a0 : Nat) (hz_a0 : a0 < Z) (hk_a0 : K a0 = 4) (a1 : Int32) (h_a1 : iv 1 400 a1) (a2 : Int32) (h_a2 : iv 0 9 a2) : Met l yX3_runYear [Cond.code yX3_runYear cX3_runYear 8 none] (md_rm 5 0 0) (va_Pc [.ref (base + a0), .int a1, .int a2] (md_U D cy tx base Z K N Ma Ra Ja)) (mQv D cy tx base (fun u => TP Z K N Lt_X3_runYear LRt_X3_runYear Ma Ra u ∧ (True))) 0 0 (fun q => base ≤ q) := by
  refine tw_ofW (L := Lt_X3_runYear) (LR := LRt_X3_runYear) (by decide) (Nat.le_of_ble_eq_true rfl) hTy ?_
  intro p e s m args below meth c Q ls hx hb hr hlocks hown hml hW hK hT hS hQ hl
  have hl : lv_has ls 8 [(0, .ref (base + a0)), (1, .int a1), (2, .int a2)] := hl
  refine lv_aload_n hx hb dX3_runYear_0 rfl (lv_at hl 0 rfl) ?_
  refine tw_gov hS (md_runV (As := []) (rest := []) hx hb hml hown hW hK hT hS.1 (t_X3_start l D cy tx base Z K N Ma Ra Ja hS.2.1 a0 hz_a0 hk_a0) s_X3_48 ⟨rfl, rfl, ⟨Nat.le_of_ble_eq_true rfl, Nat.le_of_ble_eq_true rfl⟩, ⟨Nat.le_of_ble_eq_true rfl, Nat.le_of_ble_eq_true rfl⟩⟩ hz_a0 hk_a0 (by decide) rfl rfl hl.1 rfl (Nat.le_of_ble_eq_true rfl) dX3_runYear_1) rfl rfl (fun H locs M3 R4 J5 hS f1 g2 E6 => ?_)
  refine lv_aload_n hx hb dX3_runYear_4 rfl (lv_at hl 0 rfl) ?_
  refine tw_getr hx hb hW hown hK hS f_X3_21_3 hz_a0 hk_a0 (t := 10) (n := 0) rfl dX3_runYear_5 (fun b7 k8 hz_b7 hk_b7 hn_b7 => ?_)
  refine tw_geti hx hb hW hown hK hS f_X3_94_9 hz_b7 hk_b7 (lo := 0) (hi := 2147483647) rfl dX3_runYear_8 (fun x11 k10 h9 => ?_)
  refine lv_i2l hx hb dX3_runYear_11 rfl ?_
  refine lv_lstore_n (lv' := [(3, .long x11.toInt64), (0, .ref (base + a0)), (1, .int a1), (2, .int a2)]) hx hb dX3_runYear_12 rfl hl (by decide) rfl (fun ls hl => ?_)
  refine lv_iconst (v := 0) hx hb dX3_runYear_13 (by decide) ?_
  refine lv_istore (lv' := [(5, .int 0), (3, .long x11.toInt64), (0, .ref (base + a0)), (1, .int a1), (2, .int a2)]) hx hb dX3_runYear_14 hl (by decide) rfl (fun ls hl => ?_)
  have W16_14 : ∀ (n_14 : Nat) (x12 : Int64) (x13 : Int32) (M14 : MT) (R15 : RT) (J16 : JT) (H : Heap) (locs : List Loc) (ls : Array Slot) (h_x12 : jv 0 2147483647 x12) (h_x13 : iv 0 400 x13) (hm_14 : 400 - x13.toInt < (n_14 : Int)) (hS : SB D cy base Z K N Lt_X3_runYear LRt_X3_runYear Ma Ra M14 R15 J16 s H locs) (hl : lv_has ls 8 [(3, .long x12), (5, .int x13), (0, .ref (base + a0)), (1, .int a1), (2, .int a2)]), W p l e (md_rm 5 0 0) s m args below meth c H locs 0 0 Q (F0 m 16 ls []) := by
    intro n_14
    induction n_14 with
    | zero =>
      intro x12 x13 M14 R15 J16 H locs ls h_x12 h_x13 hm_14 hS hl
      exfalso
      have := (h_a1).1; have := (h_a1).2; have := (h_a2).1; have := (h_a2).2; have := (h_x13).1; have := (h_x13).2; omega
    | succ n_14 ih_14 =>
      intro x12 x13 M14 R15 J16 H locs ls h_x12 h_x13 hm_14 hS hl
      have f17 := hS.2.2.1
      have g18 := hS.2.2.2
      refine lv_iload hx hb dX3_runYear_16 (lv_at hl 1 rfl) ?_
      refine lv_iload_n hx hb dX3_runYear_18 rfl (lv_at hl 3 rfl) ?_
      refine lv_icmp_ge (tgt := 177) hx hb dX3_runYear_19 (by decide) (fun c19 => ?_) (fun c19 => ?_)
      · have q20 : a1.toInt ≤ x13.toInt := ti_le c19
        have h21 : iv 1 400 x13 := iv_geL (y := a1) h_x13 h_a1 q20 (by decide)
        exact tw_endv hx hb hr hlocks hK hT hS hQ (trivial) dX3_runYear_177
      · have q22 : x13.toInt < a1.toInt := ti_nle c19
        have h23 : iv 0 399 x13 := iv_ltL (y := a1) h_x13 h_a1 q22 (by decide)
        refine lv_aload_n hx hb dX3_runYear_22 rfl (lv_at hl 2 rfl) ?_
        refine tw_getr hx hb hW hown hK hS f_X3_21_3 hz_a0 hk_a0 (t := 10) (n := 0) rfl dX3_runYear_23 (fun b24 k25 hz_b24 hk_b24 hn_b24 => ?_)
        refine tw_geti hx hb hW hown hK hS f_X3_97_9 hz_b24 hk_b24 (lo := 0) (hi := 12) rfl dX3_runYear_26 (fun x28 k27 h26 => ?_)
        refine lv_if_le (tgt := 177) hx hb dX3_runYear_29 (by decide) (fun c29 => ?_) (fun c29 => ?_)
        · have q30 : x28.toInt ≤ 0 := ti_le c29
          have h31 : iv 0 0 x28 := iv_leL (y := 0) h26 (iv_c (c := 0) (n := 0) (by decide)) q30 (by decide)
          exact tw_endv hx hb hr hlocks hK hT hS hQ (trivial) dX3_runYear_177
        · have q32 : 0 < x28.toInt := ti_nle c29
          have h33 : iv 1 12 x28 := iv_gtL (y := 0) h26 (iv_c (c := 0) (n := 0) (by decide)) q32 (by decide)
          refine lv_lload_n hx hb dX3_runYear_32 rfl (lv_at hl 0 rfl) ?_
          refine lv_ldc2 hx hb hown (hW _ w_6_10 rfl) dX3_runYear_33 ?_
          refine lv_lmul hx hb dX3_runYear_36 ?_
          refine tw_tj (lo := 0) (hi := 2369780942852698515) (jv_mul h_x12 (jv_c (x := 1103515245) (n := 1103515245) (by decide)) ⟨by decide, by decide⟩ (by decide) ⟨by decide, by decide⟩) (fun x34 h35 => ?_)
          refine lv_ldc2 hx hb hown (hW _ w_6_11 rfl) dX3_runYear_37 ?_
          refine lv_ladd hx hb dX3_runYear_40 ?_
          refine tw_tj (lo := 12345) (hi := 2369780942852710860) (jv_add h35 (jv_c (x := 12345) (n := 12345) (by decide)) ⟨by decide, by decide⟩ ⟨by decide, by decide⟩) (fun x36 h37 => ?_)
          refine lv_ldc2 hx hb hown (hW _ w_6_12 rfl) dX3_runYear_41 ?_
          refine lv_land hx hb dX3_runYear_44 ?_
          refine tw_tj (lo := 0) (hi := 2147483647) (jv_and (jv_mono (jv_c (x := 2147483647) (n := 2147483647) (by decide)) (lo := 0) (hi := 2147483647) (by decide) (by decide)) (by decide)) (fun x38 h39 => ?_)
          refine lv_lstore_n (lv' := [(3, .long x38), (5, .int x13), (0, .ref (base + a0)), (1, .int a1), (2, .int a2)]) hx hb dX3_runYear_45 rfl hl (by decide) rfl (fun ls hl => ?_)
          refine lv_lload_n hx hb dX3_runYear_46 rfl (lv_at hl 0 rfl) ?_
          refine lv_ldc2 hx hb hown (hW _ w_6_13 rfl) dX3_runYear_47 ?_
          refine lv_ldiv hx hb dX3_runYear_50 (by decide) ?_
          refine tw_tj (lo := 0) (hi := 32767) (jv_div h39 (jv_c (x := 65536) (n := 65536) (by decide)) ⟨by decide, by decide⟩ ⟨by decide, by decide⟩) (fun x40 h41 => ?_)
          refine lv_aload_n hx hb dX3_runYear_51 rfl (lv_at hl 2 rfl) ?_
          refine tw_getrk hx hb hW hown hK hS f_X3_21_3 hz_a0 hk_a0 (b := b24) k25 dX3_runYear_52 ?_
          refine tw_getk hx hb hW hown hK hS f_X3_97_9 hz_b24 hk_b24 (v := x28) k27 dX3_runYear_55 ?_
          refine lv_i2l hx hb dX3_runYear_58 rfl ?_
          refine lv_lrem hx hb dX3_runYear_59 (lnz (jv_o h33) (by decide)) ?_
          refine tw_tj (lo := 0) (hi := 11) (jv_rem h41 (jv_o h33) ⟨by decide, by decide⟩ ⟨by decide, by decide⟩) (fun x42 h43 => ?_)
          refine lv_l2i hx hb dX3_runYear_60 rfl ?_
          refine tw_ti (jv_l2i h43 ⟨by decide, by decide⟩) (fun x45 h44 => ?_)
          refine lv_istore (lv' := [(6, .int x45), (3, .long x38), (5, .int x13), (0, .ref (base + a0)), (1, .int a1), (2, .int a2)]) hx hb dX3_runYear_61 hl (by decide) rfl (fun ls hl => ?_)
          refine lv_aload_n hx hb dX3_runYear_63 rfl (lv_at hl 3 rfl) ?_
          refine tw_getr hx hb hW hown hK hS f_X3_25_3 hz_a0 hk_a0 (t := 6) (n := 0) rfl dX3_runYear_64 (fun b46 k47 hz_b46 hk_b46 hn_b46 => ?_)
          refine lv_iload hx hb dX3_runYear_67 (lv_at hl 0 rfl) ?_
          refine lv_aload_n hx hb dX3_runYear_69 rfl (lv_at hl 3 rfl) ?_
          refine tw_getr hx hb hW hown hK hS f_X3_9_3 hz_a0 hk_a0 (t := 20) (n := 10) rfl dX3_runYear_70 (fun b48 k49 hz_b48 hk_b48 hn_b48 => ?_)
          have hn_b48 := hn_b48 (by decide)
          refine lv_aload_n hx hb dX3_runYear_73 rfl (lv_at hl 3 rfl) ?_
          refine tw_getrk hx hb hW hown hK hS f_X3_21_3 hz_a0 hk_a0 (b := b24) k25 dX3_runYear_74 ?_
          refine tw_geti hx hb hW hown hK hS f_X3_60_9 hz_b24 hk_b24 (lo := (-2147483648)) (hi := 2147483647) rfl dX3_runYear_77 (fun x52 k51 h50 => ?_)
          refine lv_iload hx hb dX3_runYear_80 (lv_at hl 2 rfl) ?_
          refine lv_iadd hx hb dX3_runYear_82 ?_
          refine tw_top (fun x54 => ?_)
          have h53 := iv_any x54
          refine tw_gov hS (md_runV (As := [.int x45, .ref (base + b48), .int x54]) (rest := []) hx hb hml hown hW hK hT hS.1 (t_X5_bringAlone l D cy tx base Z K N M14 R15 J16 hS.2.1 b46 hz_b46 hk_b46 x45 h44 b48 hz_b48 hk_b48 hn_b48 x54 h53) s_X3_108 ⟨rfl, rfl, ⟨Nat.le_of_ble_eq_true rfl, Nat.le_of_ble_eq_true rfl⟩, ⟨Nat.le_of_ble_eq_true rfl, Nat.le_of_ble_eq_true rfl⟩⟩ hz_b46 hk_b46 (by decide) rfl rfl hl.1 rfl (Nat.le_of_ble_eq_true rfl) dX3_runYear_83) rfl rfl (fun H locs M57 R58 J59 hS f55 g56 E60 => ?_)
          have p61 := E60
          have k62 : RowOK N M57 R58 b46 := p61
          refine lv_aload_n hx hb dX3_runYear_86 rfl (lv_at hl 3 rfl) ?_
          have k63 : R58 a0 1 = some b46 := (Fr.kp (k := 1) g56 hk_a0 rfl).trans k47
          refine tw_getrk hx hb hW hown hK hS f_X3_25_3 hz_a0 hk_a0 (b := b46) k63 dX3_runYear_87 ?_
          refine lv_aload_n hx hb dX3_runYear_90 rfl (lv_at hl 3 rfl) ?_
          have k64 : R58 a0 0 = some b24 := (Fr.kp (k := 0) g56 hk_a0 rfl).trans k25
          refine tw_getrk hx hb hW hown hK hS f_X3_21_3 hz_a0 hk_a0 (b := b24) k64 dX3_runYear_91 ?_
          refine tw_geti hx hb hW hown hK hS f_X3_69_9 hz_b24 hk_b24 (lo := (-2147483648)) (hi := 2147483647) rfl dX3_runYear_94 (fun x67 k66 h65 => ?_)
          refine tw_gov hS (md_runV (As := [.int x67]) (rest := []) hx hb hml hown hW hK hT hS.1 (t_X5_ask l D cy tx base Z K N M57 R58 J59 hS.2.1 b46 hz_b46 hk_b46 x67 h65 k62) s_X3_72 ⟨rfl, rfl, ⟨Nat.le_of_ble_eq_true rfl, Nat.le_of_ble_eq_true rfl⟩, ⟨Nat.le_of_ble_eq_true rfl, Nat.le_of_ble_eq_true rfl⟩⟩ hz_b46 hk_b46 (by decide) rfl rfl hl.1 rfl (Nat.le_of_ble_eq_true rfl) dX3_runYear_97) rfl rfl (fun H locs M70 R71 J72 hS f68 g69 E73 => ?_)
          refine lv_aload_n hx hb dX3_runYear_100 rfl (lv_at hl 3 rfl) ?_
          refine lv_aload_n hx hb dX3_runYear_101 rfl (lv_at hl 3 rfl) ?_
          have k74 : R71 a0 1 = some b46 := (Fr.kp (k := 1) g69 hk_a0 rfl).trans k63
          refine tw_getrk hx hb hW hown hK hS f_X3_25_3 hz_a0 hk_a0 (b := b46) k74 dX3_runYear_102 ?_
          refine lv_aload_n hx hb dX3_runYear_105 rfl (lv_at hl 3 rfl) ?_
          have k75 : R71 a0 2 = some b48 := ((Fr.kp (k := 2) g69 hk_a0 rfl).trans (Fr.kp (k := 2) g56 hk_a0 rfl)).trans k49
          refine tw_getrk hx hb hW hown hK hS f_X3_9_3 hz_a0 hk_a0 (b := b48) k75 dX3_runYear_106 ?_
          refine lv_aload_n hx hb dX3_runYear_109 rfl (lv_at hl 3 rfl) ?_
          refine tw_getrk hx hb hW hown hK hS f_X3_25_3 hz_a0 hk_a0 (b := b46) k74 dX3_runYear_110 ?_
          refine tw_geti hx hb hW hown hK hS f_X3_76_5 hz_b46 hk_b46 (lo := (-2147483648)) (hi := 2147483647) rfl dX3_runYear_113 (fun x78 k77 h76 => ?_)
          refine lv_aload_n hx hb dX3_runYear_116 rfl (lv_at hl 3 rfl) ?_
          refine tw_getrk hx hb hW hown hK hS f_X3_25_3 hz_a0 hk_a0 (b := b46) k74 dX3_runYear_117 ?_
          refine tw_geti hx hb hW hown hK hS f_X3_79_5 hz_b46 hk_b46 (lo := (-2147483648)) (hi := 2147483647) rfl dX3_runYear_120 (fun x81 k80 h79 => ?_)
          refine tw_goi hS (md_runV (As := [.ref (base + b48), .int x78, .int x81]) (rest := [.ref (base + a0)]) hx hb hml hown hW hK hT hS.1 (t_X5_hold l D cy tx base Z K N M70 R71 J72 hS.2.1 b46 hz_b46 hk_b46 b48 hz_b48 hk_b48 hn_b48 x78 h76 x81 h79) s_X3_82 ⟨rfl, rfl, ⟨Nat.le_of_ble_eq_true rfl, Nat.le_of_ble_eq_true rfl⟩, ⟨Nat.le_of_ble_eq_true rfl, Nat.le_of_ble_eq_true rfl⟩⟩ hz_b46 hk_b46 (by decide) rfl rfl hl.1 rfl (Nat.le_of_ble_eq_true rfl) dX3_runYear_123) rfl rfl (fun x88 H locs M84 R85 J86 hS f82 g83 E87 => ?_)
          have h_x88 := E87
          refine lv_iload_n hx hb dX3_runYear_126 rfl (lv_at hl 5 rfl) ?_
          refine lv_iload hx hb dX3_runYear_127 (lv_at hl 0 rfl) ?_
          refine tw_gov hS (md_runV (As := [.int x88, .int a2, .int x45]) (rest := []) hx hb hml hown hW hK hT hS.1 (t_X3_mark l D cy tx base Z K N M84 R85 J86 hS.2.1 a0 hz_a0 hk_a0 x88 h_x88 a2 h_a2 x45 h44) s_X3_86 ⟨rfl, rfl, ⟨Nat.le_of_ble_eq_true rfl, Nat.le_of_ble_eq_true rfl⟩, ⟨Nat.le_of_ble_eq_true rfl, Nat.le_of_ble_eq_true rfl⟩⟩ hz_a0 hk_a0 (by decide) rfl rfl hl.1 rfl (Nat.le_of_ble_eq_true rfl) dX3_runYear_129) rfl rfl (fun H locs M91 R92 J93 hS f89 g90 E94 => ?_)
          refine lv_iconst (v := 0) hx hb dX3_runYear_132 (by decide) ?_
          refine lv_istore (lv' := [(7, .int 0), (6, .int x45), (3, .long x38), (5, .int x13), (0, .ref (base + a0)), (1, .int a1), (2, .int a2)]) hx hb dX3_runYear_133 hl (by decide) rfl (fun ls hl => ?_)
          have W135_96 : ∀ (n_96 : Nat) (x95 : Int32) (M96 : MT) (R97 : RT) (J98 : JT) (H : Heap) (locs : List Loc) (ls : Array Slot) (h_x95 : iv 0 10 x95) (hm_96 : 10 - x95.toInt < (n_96 : Int)) (hS : SB D cy base Z K N Lt_X3_runYear LRt_X3_runYear Ma Ra M96 R97 J98 s H locs) (hl : lv_has ls 8 [(7, .int x95), (6, .int x45), (3, .long x38), (5, .int x13), (0, .ref (base + a0)), (1, .int a1), (2, .int a2)]), W p l e (md_rm 5 0 0) s m args below meth c H locs 0 0 Q (F0 m 135 ls []) := by
            intro n_96
            induction n_96 with
            | zero =>
              intro x95 M96 R97 J98 H locs ls h_x95 hm_96 hS hl
              exfalso
              have := (h_a1).1; have := (h_a1).2; have := (h_a2).1; have := (h_a2).2; have := (h_x95).1; have := (h_x95).2; omega
            | succ n_96 ih_96 =>
              intro x95 M96 R97 J98 H locs ls h_x95 hm_96 hS hl
              have f99 := hS.2.2.1
              have g100 := hS.2.2.2
              refine lv_iload hx hb dX3_runYear_135 (lv_at hl 0 rfl) ?_
              refine lv_aload_n hx hb dX3_runYear_137 rfl (lv_at hl 4 rfl) ?_
              refine tw_getr hx hb hW hown hK hS f_X3_21_3 hz_a0 hk_a0 (t := 10) (n := 0) rfl dX3_runYear_138 (fun b101 k102 hz_b101 hk_b101 hn_b101 => ?_)
              refine tw_geti hx hb hW hown hK hS f_X3_112_9 hz_b101 hk_b101 (lo := (-2147483648)) (hi := 10) rfl dX3_runYear_141 (fun x105 k104 h103 => ?_)
              refine lv_icmp_ge (tgt := 171) hx hb dX3_runYear_144 (by decide) (fun c106 => ?_) (fun c106 => ?_)
              · have q107 : x105.toInt ≤ x95.toInt := ti_le c106
                refine tw_iinc (lv' := fun x110 => [(5, .int x110), (7, .int x95), (6, .int x45), (3, .long x38), (0, .ref (base + a0)), (1, .int a1), (2, .int a2)]) (lo := 1) (hi := 400) hx hb dX3_runYear_171 hl (k := 3) rfl h23 (by decide) ⟨by decide, by decide⟩ ⟨by decide, by decide⟩ (by decide) (fun _ => rfl) (fun x110 ls e109 h108 hl => ?_)
                refine lv_goto (tgt := 16) hx hb dX3_runYear_174 (by decide) ?_
                have hm111 : 400 - x110.toInt < (n_14 : Int) := by
                  have := (h_a1).1; have := (h_a1).2; have := (h_a2).1; have := (h_a2).2; have := (h108).1; have := (h108).2; have := (h23).1; have := (h23).2; omega
                exact ih_14 (x38) x110 M96 R97 J98 H locs _ (jv_mono h39 (by decide) (by decide)) (iv_mono h108 (by decide) (by decide)) hm111 hS (lv_sub hl [3, 0, 4, 5, 6] rfl)
              · have q112 : x95.toInt < x105.toInt := ti_nle c106
                have h113 : iv 0 9 x95 := iv_ltL (y := x105) h_x95 h103 q112 (by decide)
                have h114 : iv 1 10 x105 := iv_gtL (y := x95) h103 h_x95 q112 (by decide)
                refine lv_aload_n hx hb dX3_runYear_147 rfl (lv_at hl 4 rfl) ?_
                refine lv_aload_n hx hb dX3_runYear_148 rfl (lv_at hl 4 rfl) ?_
                refine tw_geti hx hb hW hown hK hS f_X3_45_3 hz_a0 hk_a0 (lo := (-2147483648)) (hi := 2147483647) rfl dX3_runYear_149 (fun x117 k116 h115 => ?_)
                refine lv_aload_n hx hb dX3_runYear_152 rfl (lv_at hl 4 rfl) ?_
                refine tw_getr hx hb hW hown hK hS f_X3_9_3 hz_a0 hk_a0 (t := 20) (n := 10) rfl dX3_runYear_153 (fun b118 k119 hz_b118 hk_b118 hn_b118 => ?_)
                have hn_b118 := hn_b118 (by decide)
                refine lv_iload hx hb dX3_runYear_156 (lv_at hl 0 rfl) ?_
                refine tw_iald hx hb hK hS hz_b118 hk_b118 (Or.inr (by decide)) hn_b118 (lo := (-2147483648)) (hi := 2147483647) h113 ⟨by decide, by decide⟩ rg_u20 dX3_runYear_158 (fun x122 k121 h120 => ?_)
                refine va_mmax hx hb (hml.trans hl.1.symm) hown (hW _ w_6_15 rfl) (hW _ w_4_75 rfl) (hW _ w_1_13 rfl) (hW _ w_4_76 rfl) (Nat.le_of_ble_eq_true rfl) (Nat.le_of_ble_eq_true rfl) (Nat.le_of_ble_eq_true rfl) (Nat.le_of_ble_eq_true rfl) dX3_runYear_159 ?_
                refine tw_mmax (lo := (-2147483648)) (hi := 2147483647) h115 h120 (by decide) (fun x125 e124 h123 => ?_)
                refine tw_puti hx hb hW hown hK hS f_X3_45_3 hz_a0 hk_a0 rfl rfl (lo := (-2147483648)) (hi := 2147483647) rfl h123 rfl dX3_runYear_162 (fun H locs M128 hS k126 f127 => ?_)
                refine tw_iinc (lv' := fun x131 => [(7, .int x131), (6, .int x45), (3, .long x38), (5, .int x13), (0, .ref (base + a0)), (1, .int a1), (2, .int a2)]) (lo := 1) (hi := 10) hx hb dX3_runYear_165 hl (k := 0) rfl h113 (by decide) ⟨by decide, by decide⟩ ⟨by decide, by decide⟩ (by decide) (fun _ => rfl) (fun x131 ls e130 h129 hl => ?_)
                refine lv_goto (tgt := 135) hx hb dX3_runYear_168 (by decide) ?_
                have hm132 : 10 - x131.toInt < (n_96 : Int) := by
                  have := (h_a1).1; have := (h_a1).2; have := (h_a2).1; have := (h_a2).2; have := (h129).1; have := (h129).2; have := (h113).1; have := (h113).2; omega
                exact ih_96 x131 M128 R97 J98 H locs _ (iv_mono h129 (by decide) (by decide)) hm132 hS hl
          have hm133 : 10 - (0 : Int32).toInt < (((11 : Nat) : Int) : Int) := by
            have := (h_a1).1; have := (h_a1).2; have := (h_a2).1; have := (h_a2).2; have : (0 : Int32).toInt = 0 := (by decide); omega
          exact W135_96 11 0 M91 R92 J93 H locs _ (iv_mono (iv_c (c := 0) (n := 0) (by decide)) (by decide) (by decide)) hm133 hS hl
  have hm134 : 400 - (0 : Int32).toInt < (((401 : Nat) : Int) : Int) := by
    have := (h_a1).1; have := (h_a1).2; have := (h_a2).1; have := (h_a2).2; have : (0 : Int32).toInt = 0 := (by decide); omega
  exact W16_14 401 (x11.toInt64) 0 M3 R4 J5 H locs _ (jv_mono (jv_o h9) (by decide) (by decide)) (iv_mono (iv_c (c := 0) (n := 0) (by decide)) (by decide) (by decide)) hm134 hS (lv_sub hl [1, 0, 2, 3, 4] rfl)
def Lt_X11_year : WL := [(4, 5, 8), (6, 2, 4), (6, 6, 15), (20, 0, 2000000)]
def LRt_X11_year : WL := [(6, 4, 5)]
set_option maxRecDepth 100000 in
set_option maxHeartbeats 4000000 in
theorem t_X11_year (l : Launch) (D : va_G) (cy : Nat → ClassId) (tx : (Nat → Nat) × (Nat → Nat)) (base Z : Nat) (K N : Nat → Nat) (Ma : MT) (Ra : RT) (Ja : JT) (hTy : Ty Z K N Ma Ra) (a0 : Nat) (hz_a0 : a0 < Z) (hk_a0 : K a0 = 11) (a1 : Int32) (h_a1 : iv (-2147483648) 2147483647 a1) (a2 : Int32) (h_a2 : iv (-2147483648) 2147483647 a2) (a3 : Int32) (h_a3 : iv (-2147483648) 2147483647 a3) : Met l yX11_year [Cond.code yX11_year cX11_year 5 (some .int)] (md_rm 6 0 0) (va_Pc [.ref (base + a0), .int a1, .int a2, .int a3] (md_U D cy tx base Z K N Ma Ra Ja)) (mQi D cy tx base (fun r u => TP Z K N Lt_X11_year LRt_X11_year Ma Ra u ∧ (iv (-2147483648) 2147483647 r))) 0 0 (fun q => base ≤ q) := by
  refine tw_ofW (L := Lt_X11_year) (LR := LRt_X11_year) (by decide) (Nat.le_of_ble_eq_true rfl) hTy ?_
  intro p e s m args below meth c Q ls hx hb hr hlocks hown hml hW hK hT hS hQ hl
  have hl : lv_has ls 5 [(0, .ref (base + a0)), (1, .int a1), (2, .int a2), (3, .int a3)] := hl
  refine lv_aload_n hx hb dX11_year_0 rfl (lv_at hl 0 rfl) ?_
  refine tw_getr hx hb hW hown hK hS f_X11_31_10 hz_a0 hk_a0 (t := 10) (n := 0) rfl dX11_year_1 (fun b1 k2 hz_b1 hk_b1 hn_b1 => ?_)
  refine lv_iload_n hx hb dX11_year_4 rfl (lv_at hl 2 rfl) ?_
  refine tw_goi hS (md_runV (As := [.int a2]) (rest := []) hx hb hml hown hW hK hT hS.1 (t_X9_hasMember l D cy tx base Z K N Ma Ra Ja hS.2.1 b1 hz_b1 hk_b1 a2 h_a2) s_X11_132 ⟨rfl, rfl, ⟨Nat.le_of_ble_eq_true rfl, Nat.le_of_ble_eq_true rfl⟩, ⟨Nat.le_of_ble_eq_true rfl, Nat.le_of_ble_eq_true rfl⟩⟩ hz_b1 hk_b1 (by decide) rfl rfl hl.1 rfl (Nat.le_of_ble_eq_true rfl) dX11_year_5) rfl rfl (fun x9 H locs M5 R6 J7 hS f3 g4 E8 => ?_)
  obtain ⟨h_x9, p10⟩ := E8
  have J25_11 : ∀  (M11 : MT) (R12 : RT) (J13 : JT) (H : Heap) (locs : List Loc) (ls : Array Slot) (hS : SB D cy base Z K N Lt_X11_year LRt_X11_year Ma Ra M11 R12 J13 s H locs) (hl : lv_has ls 5 [(0, .ref (base + a0)), (1, .int a1), (2, .int a2), (3, .int a3)]), W p l e (md_rm 6 0 0) s m args below meth c H locs 0 0 Q (F0 m 25 ls []) := by
    intro  M11 R12 J13 H locs ls  hS hl
    have f14 := hS.2.2.1
    have g15 := hS.2.2.2
    refine lv_iconst (v := 0) hx hb dX11_year_25 (by decide) ?_
    refine lv_istore (lv' := [(4, .int 0), (0, .ref (base + a0)), (1, .int a1), (2, .int a2), (3, .int a3)]) hx hb dX11_year_26 hl (by decide) rfl (fun ls hl => ?_)
    refine lv_iload hx hb dX11_year_28 (lv_at hl 0 rfl) ?_
    refine lv_if_eq (tgt := 54) hx hb dX11_year_30 (by decide) (fun _ => ?_) (fun h => absurd h (by decide))
    refine lv_ldc hx hb hown (hW _ w_4_221 rfl) dX11_year_54 ?_
    exact tw_endi hx hb hr hlocks hK hT hS hQ ((iv_mono (iv_c (c := (-1000000)) (n := (-1000000)) (by decide)) (by decide) (by decide))) dX11_year_56
  refine lv_if_eq (tgt := 25) hx hb dX11_year_8 (by decide) (fun c16 => ?_) (fun c16 => ?_)
  · have q17 : x9.toInt = 0 := ti_eq c16
    have h18 : iv 0 0 x9 := ⟨by have := (h_x9).1; have := ((iv_c (c := 0) (n := 0) (by decide))).1; omega, by have := (h_x9).2; have := ((iv_c (c := 0) (n := 0) (by decide))).2; omega⟩
    exact J25_11  M5 R6 J7 H locs _  hS hl
  · have q19 : ¬ x9.toInt = 0 := ti_ne c16
    have h20 : iv 1 1 x9 := ⟨by have := (h_x9).1; have := ((iv_c (c := 0) (n := 0) (by decide))).1; have := ((iv_c (c := 0) (n := 0) (by decide))).2; omega, by have := (h_x9).2; have := ((iv_c (c := 0) (n := 0) (by decide))).1; have := ((iv_c (c := 0) (n := 0) (by decide))).2; omega⟩
    have h21 : iv 0 9 a2 := ⟨by have := (p10 c16).1; have := (h_a2).1; omega, by have := (p10 c16).2; have := (h_a2).2; omega⟩
    refine lv_aload_n hx hb dX11_year_11 rfl (lv_at hl 0 rfl) ?_
    have k22 : R6 a0 3 = some b1 := (Fr.kp (k := 3) g4 hk_a0 rfl).trans k2
    refine tw_getrk hx hb hW hown hK hS f_X11_31_10 hz_a0 hk_a0 (b := b1) k22 dX11_year_12 ?_
    refine tw_geti hx hb hW hown hK hS f_X11_310_9 hz_b1 hk_b1 (lo := 0) (hi := 12) rfl dX11_year_15 (fun x25 k24 h23 => ?_)
    refine lv_if_le (tgt := 25) hx hb dX11_year_18 (by decide) (fun c26 => ?_) (fun c26 => ?_)
    · have q27 : x25.toInt ≤ 0 := ti_le c26
      have h28 : iv 0 0 x25 := iv_leL (y := 0) h23 (iv_c (c := 0) (n := 0) (by decide)) q27 (by decide)
      exact J25_11  M5 R6 J7 H locs _  hS hl
    · have q29 : 0 < x25.toInt := ti_nle c26
      have h30 : iv 1 12 x25 := iv_gtL (y := 0) h23 (iv_c (c := 0) (n := 0) (by decide)) q29 (by decide)
      refine lv_iconst (v := 1) hx hb dX11_year_21 (by decide) ?_
      refine lv_goto (tgt := 26) hx hb dX11_year_22 (by decide) ?_
      refine lv_istore (lv' := [(4, .int 1), (0, .ref (base + a0)), (1, .int a1), (2, .int a2), (3, .int a3)]) hx hb dX11_year_26 hl (by decide) rfl (fun ls hl => ?_)
      refine lv_iload hx hb dX11_year_28 (lv_at hl 0 rfl) ?_
      refine lv_if_eq (tgt := 54) hx hb dX11_year_30 (by decide) (fun h => absurd h (by decide)) (fun _ => ?_)
      refine lv_iload_n hx hb dX11_year_33 rfl (lv_at hl 2 rfl) ?_
      refine lv_iconst (v := 1) hx hb dX11_year_34 (by decide) ?_
      refine lv_icmp_lt (tgt := 54) hx hb dX11_year_35 (by decide) (fun c31 => ?_) (fun c31 => ?_)
      · have q32 : a1.toInt < 1 := ti_lt c31
        have h33 : iv (-2147483648) 0 a1 := iv_ltL (y := 1) h_a1 (iv_c (c := 1) (n := 1) (by decide)) q32 (by decide)
        refine lv_ldc hx hb hown (hW _ w_4_221 rfl) dX11_year_54 ?_
        exact tw_endi hx hb hr hlocks hK hT hS hQ ((iv_mono (iv_c (c := (-1000000)) (n := (-1000000)) (by decide)) (by decide) (by decide))) dX11_year_56
      · have q34 : 1 ≤ a1.toInt := ti_nlt c31
        have h35 : iv 1 2147483647 a1 := iv_geL (y := 1) h_a1 (iv_c (c := 1) (n := 1) (by decide)) q34 (by decide)
        refine lv_iload_n hx hb dX11_year_38 rfl (lv_at hl 2 rfl) ?_
        refine lv_sipush (v := 400) hx hb dX11_year_39 (by decide) ?_
        refine lv_icmp_gt (tgt := 54) hx hb dX11_year_42 (by decide) (fun c36 => ?_) (fun c36 => ?_)
        · have q37 : 400 < a1.toInt := ti_lt c36
          have h38 : iv 401 2147483647 a1 := iv_gtL (y := 400) h35 (iv_c (c := 400) (n := 400) (by decide)) q37 (by decide)
          refine lv_ldc hx hb hown (hW _ w_4_221 rfl) dX11_year_54 ?_
          exact tw_endi hx hb hr hlocks hK hT hS hQ ((iv_mono (iv_c (c := (-1000000)) (n := (-1000000)) (by decide)) (by decide) (by decide))) dX11_year_56
        · have q39 : a1.toInt ≤ 400 := ti_nlt c36
          have h40 : iv 1 400 a1 := iv_leL (y := 400) h35 (iv_c (c := 400) (n := 400) (by decide)) q39 (by decide)
          refine lv_iload_n hx hb dX11_year_45 rfl (lv_at hl 4 rfl) ?_
          refine lv_if_lt (tgt := 54) hx hb dX11_year_46 (by decide) (fun c41 => ?_) (fun c41 => ?_)
          · have q42 : a3.toInt < 0 := ti_lt c41
            have h43 : iv (-2147483648) (-1) a3 := iv_ltL (y := 0) h_a3 (iv_c (c := 0) (n := 0) (by decide)) q42 (by decide)
            refine lv_ldc hx hb hown (hW _ w_4_221 rfl) dX11_year_54 ?_
            exact tw_endi hx hb hr hlocks hK hT hS hQ ((iv_mono (iv_c (c := (-1000000)) (n := (-1000000)) (by decide)) (by decide) (by decide))) dX11_year_56
          · have q44 : 0 ≤ a3.toInt := ti_nlt c41
            have h45 : iv 0 2147483647 a3 := iv_geL (y := 0) h_a3 (iv_c (c := 0) (n := 0) (by decide)) q44 (by decide)
            refine lv_iload_n hx hb dX11_year_49 rfl (lv_at hl 4 rfl) ?_
            refine lv_iconst (v := 2) hx hb dX11_year_50 (by decide) ?_
            refine lv_icmp_le (tgt := 57) hx hb dX11_year_51 (by decide) (fun c46 => ?_) (fun c46 => ?_)
            · have q47 : a3.toInt ≤ 2 := ti_le c46
              have h48 : iv 0 2 a3 := iv_leL (y := 2) h45 (iv_c (c := 2) (n := 2) (by decide)) q47 (by decide)
              refine lv_aload_n hx hb dX11_year_57 rfl (lv_at hl 1 rfl) ?_
              refine tw_getr hx hb hW hown hK hS f_X11_62_10 hz_a0 hk_a0 (t := 4) (n := 0) rfl dX11_year_58 (fun b49 k50 hz_b49 hk_b49 hn_b49 => ?_)
              refine lv_iload_n hx hb dX11_year_61 rfl (lv_at hl 2 rfl) ?_
              refine lv_iload_n hx hb dX11_year_62 rfl (lv_at hl 3 rfl) ?_
              refine tw_gov hS (md_runV (As := [.int a1, .int a2]) (rest := []) hx hb hml hown hW hK hT hS.1 (t_X3_runYear l D cy tx base Z K N M5 R6 J7 hS.2.1 b49 hz_b49 hk_b49 a1 h40 a2 h21) s_X11_313 ⟨rfl, rfl, ⟨Nat.le_of_ble_eq_true rfl, Nat.le_of_ble_eq_true rfl⟩, ⟨Nat.le_of_ble_eq_true rfl, Nat.le_of_ble_eq_true rfl⟩⟩ hz_b49 hk_b49 (by decide) rfl rfl hl.1 rfl (Nat.le_of_ble_eq_true rfl) dX11_year_63) rfl rfl (fun H locs M53 R54 J55 hS f51 g52 E56 => ?_)
              refine lv_iload_n hx hb dX11_year_66 rfl (lv_at hl 4 rfl) ?_
              by_cases c57 : a3 = 0
              · subst c57
                refine lv_lookup (off := 25) (tgt := 92) hx hb dX11_year_67 (by decide) rfl (by decide) ?_
                refine lv_aload_n hx hb dX11_year_92 rfl (lv_at hl 1 rfl) ?_
                have k58 : R54 a0 10 = some b49 := (Fr.kp (k := 10) g52 hk_a0 rfl).trans k50
                refine tw_getrk hx hb hW hown hK hS f_X11_62_10 hz_a0 hk_a0 (b := b49) k58 dX11_year_93 ?_
                refine tw_geti hx hb hW hown hK hS f_X11_223_3 hz_b49 hk_b49 (lo := (-2147483648)) (hi := 2147483647) rfl dX11_year_96 (fun x61 k60 h59 => ?_)
                exact tw_endi hx hb hr hlocks hK hT hS hQ (h59) dX11_year_99
              by_cases c62 : a3 = 1
              · subst c62
                refine lv_lookup (off := 33) (tgt := 100) hx hb dX11_year_67 (by decide) rfl (by decide) ?_
                refine lv_aload_n hx hb dX11_year_100 rfl (lv_at hl 1 rfl) ?_
                have k63 : R54 a0 10 = some b49 := (Fr.kp (k := 10) g52 hk_a0 rfl).trans k50
                refine tw_getrk hx hb hW hown hK hS f_X11_62_10 hz_a0 hk_a0 (b := b49) k63 dX11_year_101 ?_
                refine tw_geti hx hb hW hown hK hS f_X11_220_3 hz_b49 hk_b49 (lo := (-2147483648)) (hi := 2147483647) rfl dX11_year_104 (fun x66 k65 h64 => ?_)
                exact tw_endi hx hb hr hlocks hK hT hS hQ (h64) dX11_year_107
              refine lv_lookup (off := 41) (tgt := 108) hx hb dX11_year_67 (by decide) ((lv_osw c57 (by decide)).trans ((lv_osw c62 (by decide)).trans rfl)) (by decide) ?_
              refine lv_aload_n hx hb dX11_year_108 rfl (lv_at hl 1 rfl) ?_
              have k67 : R54 a0 10 = some b49 := (Fr.kp (k := 10) g52 hk_a0 rfl).trans k50
              refine tw_getrk hx hb hW hown hK hS f_X11_62_10 hz_a0 hk_a0 (b := b49) k67 dX11_year_109 ?_
              refine tw_geti hx hb hW hown hK hS f_X11_317_3 hz_b49 hk_b49 (lo := (-2147483648)) (hi := 2147483647) rfl dX11_year_112 (fun x70 k69 h68 => ?_)
              exact tw_endi hx hb hr hlocks hK hT hS hQ (h68) dX11_year_115
            · have q71 : 2 < a3.toInt := ti_nle c46
              have h72 : iv 3 2147483647 a3 := iv_gtL (y := 2) h45 (iv_c (c := 2) (n := 2) (by decide)) q71 (by decide)
              refine lv_ldc hx hb hown (hW _ w_4_221 rfl) dX11_year_54 ?_
              exact tw_endi hx hb hr hlocks hK hT hS hQ ((iv_mono (iv_c (c := (-1000000)) (n := (-1000000)) (by decide)) (by decide) (by decide))) dX11_year_56
def Lt_X12_bits : WL := []
def LRt_X12_bits : WL := []
set_option maxRecDepth 100000 in
set_option maxHeartbeats 4000000 in
theorem t_X12_bits (l : Launch) (D : va_G) (cy : Nat → ClassId) (tx : (Nat → Nat) × (Nat → Nat)) (base Z : Nat) (K N : Nat → Nat) (Ma : MT) (Ra : RT) (Ja : JT) (hTy : Ty Z K N Ma Ra) (a0 : Int32) (h_a0 : iv (-2147483648) 2147483647 a0) : Met l yX12_bits [Cond.code yX12_bits cX12_bits 3 (some .int)] (md_rm 1 0 0) (va_Pc [.int a0] (md_U D cy tx base Z K N Ma Ra Ja)) (mQi D cy tx base (fun r u => TP Z K N Lt_X12_bits LRt_X12_bits Ma Ra u ∧ (iv (-2147483648) 2147483647 r))) 0 0 (fun q => base ≤ q) := by
  refine tw_ofW (L := Lt_X12_bits) (LR := LRt_X12_bits) (by decide) (Nat.le_of_ble_eq_true rfl) hTy ?_
  intro p e s m args below meth c Q ls hx hb hr hlocks hown hml hW hK hT hS hQ hl
  have hl : lv_has ls 3 [(0, .int a0)] := hl
  refine lv_iconst (v := 0) hx hb dX12_bits_0 (by decide) ?_
  refine lv_istore_n (lv' := [(1, .int 0), (0, .int a0)]) hx hb dX12_bits_1 rfl hl (by decide) rfl (fun ls hl => ?_)
  refine lv_iload_n hx hb dX12_bits_2 rfl (lv_at hl 1 rfl) ?_
  refine lv_istore_n (lv' := [(2, .int a0), (1, .int 0), (0, .int a0)]) hx hb dX12_bits_3 rfl hl (by decide) rfl (fun ls hl => ?_)
  have W4_3 : ∀ (n_3 : Nat) (x1 : Int32) (x2 : Int32) (M3 : MT) (R4 : RT) (J5 : JT) (H : Heap) (locs : List Loc) (ls : Array Slot) (h_x1 : iv (-2147483648) 2147483647 x1) (h_x2 : iv (-2147483648) 2147483647 x2) (hm_3 : (x2.toBitVec.toNat : Int) < (n_3 : Int)) (hS : SB D cy base Z K N Lt_X12_bits LRt_X12_bits Ma Ra M3 R4 J5 s H locs) (hl : lv_has ls 3 [(1, .int x1), (2, .int x2), (0, .int a0)]), W p l e (md_rm 1 0 0) s m args below meth c H locs 0 0 Q (F0 m 4 ls []) := by
    intro n_3
    induction n_3 with
    | zero =>
      intro x1 x2 M3 R4 J5 H locs ls h_x1 h_x2 hm_3 hS hl
      exfalso
      have := (h_a0).1; have := (h_a0).2; have := (h_x2).1; have := (h_x2).2; omega
    | succ n_3 ih_3 =>
      intro x1 x2 M3 R4 J5 H locs ls h_x1 h_x2 hm_3 hS hl
      have f6 := hS.2.2.1
      have g7 := hS.2.2.2
      refine lv_iload_n hx hb dX12_bits_4 rfl (lv_at hl 1 rfl) ?_
      refine lv_if_eq (tgt := 20) hx hb dX12_bits_5 (by decide) (fun c8 => ?_) (fun c8 => ?_)
      · have q9 : x2.toInt = 0 := ti_eq c8
        have h10 : iv 0 0 x2 := ⟨by have := (h_x2).1; have := ((iv_c (c := 0) (n := 0) (by decide))).1; omega, by have := (h_x2).2; have := ((iv_c (c := 0) (n := 0) (by decide))).2; omega⟩
        refine lv_iload_n hx hb dX12_bits_20 rfl (lv_at hl 0 rfl) ?_
        exact tw_endi hx hb hr hlocks hK hT hS hQ (h_x1) dX12_bits_21
      · have q11 : ¬ x2.toInt = 0 := ti_ne c8
        refine tw_iincw (lv' := fun x13 => [(1, .int x13), (2, .int x2), (0, .int a0)]) hx hb dX12_bits_8 hl (k := 0) rfl (by decide) (fun _ => rfl) (fun x13 ls hl => ?_)
        have h12 := iv_any x13
        refine lv_iload_n hx hb dX12_bits_11 rfl (lv_at hl 1 rfl) ?_
        refine lv_iload_n hx hb dX12_bits_12 rfl (lv_at hl 1 rfl) ?_
        refine lv_iconst (v := 1) hx hb dX12_bits_13 (by decide) ?_
        refine lv_isub hx hb dX12_bits_14 ?_
        refine lv_iand hx hb dX12_bits_15 ?_
        refine lv_topi (fun x16 e15 => ?_)
        have h14 := iv_any x16
        have q17 := bits_lt e15 c8
        refine lv_istore_n (lv' := [(2, .int x16), (1, .int x13), (0, .int a0)]) hx hb dX12_bits_16 rfl hl (by decide) rfl (fun ls hl => ?_)
        refine lv_goto (tgt := 4) hx hb dX12_bits_17 (by decide) ?_
        have hm18 : (x16.toBitVec.toNat : Int) < (n_3 : Int) := by
          have := (h_a0).1; have := (h_a0).2; have := (h14).1; have := (h14).2; omega
        exact ih_3 x13 x16 M3 R4 J5 H locs _ h12 h14 hm18 hS (lv_sub hl [1, 0, 2] rfl)
  have hm19 : (a0.toBitVec.toNat : Int) < (((4294967296 : Nat) : Int) : Int) := by
    have := (h_a0).1; have := (h_a0).2; omega
  exact W4_3 4294967296 0 a0 Ma Ra Ja s.heap [] _ (iv_mono (iv_c (c := 0) (n := 0) (by decide)) (by decide) (by decide)) h_a0 hm19 hS (lv_sub hl [1, 0, 2] rfl)
def Lt_X12_isMember : WL := []
def LRt_X12_isMember : WL := []
set_option maxRecDepth 100000 in
set_option maxHeartbeats 4000000 in
theorem t_X12_isMember (l : Launch) (D : va_G) (cy : Nat → ClassId) (tx : (Nat → Nat) × (Nat → Nat)) (base Z : Nat) (K N : Nat → Nat) (Ma : MT) (Ra : RT) (Ja : JT) (hTy : Ty Z K N Ma Ra) (a0 : Nat) (hz_a0 : a0 < Z) (hk_a0 : K a0 = 12) (a1 : Int32) (h_a1 : iv (-2147483648) 2147483647 a1) : Met l yX12_isMember [Cond.code yX12_isMember cX12_isMember 2 (some .boolean)] (md_rm 1 0 0) (va_Pc [.ref (base + a0), .int a1] (md_U D cy tx base Z K N Ma Ra Ja)) (mQi D cy tx base (fun r u => TP Z K N Lt_X12_isMember LRt_X12_isMember Ma Ra u ∧ (iv 0 1 r ∧ (¬ r = 0 → iv 0 9 a1)))) 0 0 (fun q => base ≤ q) := by
  refine tw_ofW (L := Lt_X12_isMember) (LR := LRt_X12_isMember) (by decide) (Nat.le_of_ble_eq_true rfl) hTy ?_
  intro p e s m args below meth c Q ls hx hb hr hlocks hown hml hW hK hT hS hQ hl
  have hl : lv_has ls 2 [(0, .ref (base + a0)), (1, .int a1)] := hl
  refine lv_iload_n hx hb dX12_isMember_0 rfl (lv_at hl 1 rfl) ?_
  refine lv_if_lt (tgt := 18) hx hb dX12_isMember_1 (by decide) (fun c1 => ?_) (fun c1 => ?_)
  · have q2 : a1.toInt < 0 := ti_lt c1
    have h3 : iv (-2147483648) (-1) a1 := iv_ltL (y := 0) h_a1 (iv_c (c := 0) (n := 0) (by decide)) q2 (by decide)
    refine lv_iconst (v := 0) hx hb dX12_isMember_18 (by decide) ?_
    exact tw_endz hx hb hr hlocks hK hT hS hQ rfl (⟨(iv_mono (iv_c (c := 0) (n := 0) (by decide)) (by decide) (by decide)), (fun h => absurd rfl h)⟩) dX12_isMember_19
  · have q4 : 0 ≤ a1.toInt := ti_nlt c1
    have h5 : iv 0 2147483647 a1 := iv_geL (y := 0) h_a1 (iv_c (c := 0) (n := 0) (by decide)) q4 (by decide)
    refine lv_iload_n hx hb dX12_isMember_4 rfl (lv_at hl 1 rfl) ?_
    refine lv_aload_n hx hb dX12_isMember_5 rfl (lv_at hl 0 rfl) ?_
    refine tw_getr hx hb hW hown hK hS f_X12_45_11 hz_a0 hk_a0 (t := 23) (n := 226) rfl dX12_isMember_6 (fun b6 k7 hz_b6 hk_b6 hn_b6 => ?_)
    have hn_b6 := hn_b6 (by decide)
    refine lv_iconst (v := 0) hx hb dX12_isMember_9 (by decide) ?_
    refine tw_iald hx hb hK hS hz_b6 hk_b6 (Or.inr (by decide)) hn_b6 (lo := 0) (hi := 10) (iv_c (c := 0) (n := 0) (by decide)) ⟨by decide, by decide⟩ (rg_c (k0 := 0) rfl rfl rfl) dX12_isMember_10 (fun x10 k9 h8 => ?_)
    refine lv_icmp_ge (tgt := 18) hx hb dX12_isMember_11 (by decide) (fun c11 => ?_) (fun c11 => ?_)
    · have q12 : x10.toInt ≤ a1.toInt := ti_le c11
      refine lv_iconst (v := 0) hx hb dX12_isMember_18 (by decide) ?_
      exact tw_endz hx hb hr hlocks hK hT hS hQ rfl (⟨(iv_mono (iv_c (c := 0) (n := 0) (by decide)) (by decide) (by decide)), (fun h => absurd rfl h)⟩) dX12_isMember_19
    · have q13 : a1.toInt < x10.toInt := ti_nle c11
      have h14 : iv 0 9 a1 := iv_ltL (y := x10) h5 h8 q13 (by decide)
      have h15 : iv 1 10 x10 := iv_gtL (y := a1) h8 h5 q13 (by decide)
      refine lv_iconst (v := 1) hx hb dX12_isMember_14 (by decide) ?_
      refine lv_goto (tgt := 19) hx hb dX12_isMember_15 (by decide) ?_
      exact tw_endz hx hb hr hlocks hK hT hS hQ rfl (⟨(iv_mono (iv_c (c := 1) (n := 1) (by decide)) (by decide) (by decide)), (fun _ => h14)⟩) dX12_isMember_19
def Lt_X12_isOf : WL := []
def LRt_X12_isOf : WL := []
set_option maxRecDepth 100000 in
set_option maxHeartbeats 4000000 in
theorem t_X12_isOf (l : Launch) (D : va_G) (cy : Nat → ClassId) (tx : (Nat → Nat) × (Nat → Nat)) (base Z : Nat) (K N : Nat → Nat) (Ma : MT) (Ra : RT) (Ja : JT) (hTy : Ty Z K N Ma Ra) (a0 : Int32) (h_a0 : iv (-2147483648) 2147483647 a0) (a1 : Int32) (h_a1 : iv 0 9 a1) : Met l yX12_isOf [Cond.code yX12_isOf cX12_isOf 2 (some .boolean)] (md_rm 1 0 0) (va_Pc [.int a0, .int a1] (md_U D cy tx base Z K N Ma Ra Ja)) (mQi D cy tx base (fun r u => TP Z K N Lt_X12_isOf LRt_X12_isOf Ma Ra u ∧ (iv 0 1 r))) 0 0 (fun q => base ≤ q) := by
  refine tw_ofW (L := Lt_X12_isOf) (LR := LRt_X12_isOf) (by decide) (Nat.le_of_ble_eq_true rfl) hTy ?_
  intro p e s m args below meth c Q ls hx hb hr hlocks hown hml hW hK hT hS hQ hl
  have hl : lv_has ls 2 [(0, .int a0), (1, .int a1)] := hl
  refine lv_iload_n hx hb dX12_isOf_0 rfl (lv_at hl 0 rfl) ?_
  refine lv_iload_n hx hb dX12_isOf_1 rfl (lv_at hl 1 rfl) ?_
  refine lv_ishr hx hb dX12_isOf_2 ?_
  refine tw_top (fun x2 => ?_)
  have h1 := iv_any x2
  refine lv_iconst (v := 1) hx hb dX12_isOf_3 (by decide) ?_
  refine tw_iand (hi := 1) hx hb (iv_mono (iv_c (c := 1) (n := 1) (by decide)) (lo := 0) (hi := 1) (by decide) (by decide)) (by decide) dX12_isOf_4 (fun x5 h3 => ?_)
  refine lv_iconst (v := 1) hx hb dX12_isOf_5 (by decide) ?_
  refine lv_icmp_ne (tgt := 13) hx hb dX12_isOf_6 (by decide) (fun c6 => ?_) (fun c6 => ?_)
  · have q7 : ¬ x5.toInt = 1 := ti_ne c6
    have h8 : iv 0 0 x5 := ⟨by have := (h3).1; have := ((iv_c (c := 1) (n := 1) (by decide))).1; have := ((iv_c (c := 1) (n := 1) (by decide))).2; omega, by have := (h3).2; have := ((iv_c (c := 1) (n := 1) (by decide))).1; have := ((iv_c (c := 1) (n := 1) (by decide))).2; omega⟩
    refine lv_iconst (v := 0) hx hb dX12_isOf_13 (by decide) ?_
    exact tw_endz hx hb hr hlocks hK hT hS hQ rfl ((iv_mono (iv_c (c := 0) (n := 0) (by decide)) (by decide) (by decide))) dX12_isOf_14
  · have q9 : x5.toInt = 1 := ti_eq c6
    have h10 : iv 1 1 x5 := ⟨by have := (h3).1; have := ((iv_c (c := 1) (n := 1) (by decide))).1; omega, by have := (h3).2; have := ((iv_c (c := 1) (n := 1) (by decide))).2; omega⟩
    refine lv_iconst (v := 1) hx hb dX12_isOf_9 (by decide) ?_
    refine lv_goto (tgt := 14) hx hb dX12_isOf_10 (by decide) ?_
    exact tw_endz hx hb hr hlocks hK hT hS hQ rfl ((iv_mono (iv_c (c := 1) (n := 1) (by decide)) (by decide) (by decide))) dX12_isOf_14
def Lt_X12_refuses : WL := [(14, 0, 2000000)]
def LRt_X12_refuses : WL := []
set_option maxRecDepth 100000 in
set_option maxHeartbeats 4000000 in
theorem t_X12_refuses (l : Launch) (D : va_G) (cy : Nat → ClassId) (tx : (Nat → Nat) × (Nat → Nat)) (base Z : Nat) (K N : Nat → Nat) (Ma : MT) (Ra : RT) (Ja : JT) (hTy : Ty Z K N Ma Ra) (a0 : Nat) (hz_a0 : a0 < Z) (hk_a0 : K a0 = 12) (a1 : Int32) (h_a1 : iv 0 1 a1) : Met l yX12_refuses [Cond.code yX12_refuses cX12_refuses 2 (some .int)] (md_rm 1 0 0) (va_Pc [.ref (base + a0), .int a1] (md_U D cy tx base Z K N Ma Ra Ja)) (mQi D cy tx base (fun r u => TP Z K N Lt_X12_refuses LRt_X12_refuses Ma Ra u ∧ (iv (-2) (-2) r))) 0 0 (fun q => base ≤ q) := by
  refine tw_ofW (L := Lt_X12_refuses) (LR := LRt_X12_refuses) (by decide) (Nat.le_of_ble_eq_true rfl) hTy ?_
  intro p e s m args below meth c Q ls hx hb hr hlocks hown hml hW hK hT hS hQ hl
  have hl : lv_has ls 2 [(0, .ref (base + a0)), (1, .int a1)] := hl
  refine lv_aload_n hx hb dX12_refuses_0 rfl (lv_at hl 0 rfl) ?_
  refine tw_getr hx hb hW hown hK hS f_X12_48_11 hz_a0 hk_a0 (t := 14) (n := 2) rfl dX12_refuses_1 (fun b1 k2 hz_b1 hk_b1 hn_b1 => ?_)
  have hn_b1 := hn_b1 (by decide)
  refine lv_iload_n hx hb dX12_refuses_4 rfl (lv_at hl 1 rfl) ?_
  refine lv_dup2_11 hx hb dX12_refuses_5 rfl rfl ?_
  refine tw_iald hx hb hK hS hz_b1 hk_b1 (Or.inl rfl) hn_b1 (lo := (-2147483648)) (hi := 2147483647) h_a1 ⟨by decide, by decide⟩ rg_u14 dX12_refuses_6 (fun x5 k4 h3 => ?_)
  refine lv_iconst (v := 1) hx hb dX12_refuses_7 (by decide) ?_
  refine lv_iadd hx hb dX12_refuses_8 ?_
  refine tw_top (fun x7 => ?_)
  have h6 := iv_any x7
  refine tw_iast hx hb hK hS hz_b1 hk_b1 (Or.inl rfl) hn_b1 h_a1 ⟨by decide, by decide⟩ h6 (rg_s14 ⟨by decide, by decide⟩) (jl := 0) (jh := 1999999) ⟨by decide, by decide⟩ rfl dX12_refuses_9 (fun H locs M10 hS k8 f9 => ?_)
  refine lv_bipush (v := (-2)) hx hb dX12_refuses_10 (by decide) ?_
  exact tw_endi hx hb hr hlocks hK hT hS hQ ((iv_c (c := (-2)) (n := (-2)) (by decide))) dX12_refuses_12
def Lt_X12_attends : WL := [(14, 0, 2000000), (23, 2, 3), (23, 10, 20)]
def LRt_X12_attends : WL := []
set_option maxRecDepth 100000 in
set_option maxHeartbeats 4000000 in
theorem t_X12_attends (l : Launch) (D : va_G) (cy : Nat → ClassId) (tx : (Nat → Nat) × (Nat → Nat)) (base Z : Nat) (K N : Nat → Nat) (Ma : MT) (Ra : RT) (Ja : JT) (hTy : Ty Z K N Ma Ra) (a0 : Nat) (hz_a0 : a0 < Z) (hk_a0 : K a0 = 12) (a1 : Int32) (h_a1 : iv (-2147483648) 2147483647 a1) (a2 : Int32) (h_a2 : iv (-2147483648) 2147483647 a2) : Met l yX12_attends [Cond.code yX12_attends cX12_attends 3 (some .int)] (md_rm 2 0 0) (va_Pc [.ref (base + a0), .int a1, .int a2] (md_U D cy tx base Z K N Ma Ra Ja)) (mQi D cy tx base (fun r u => TP Z K N Lt_X12_attends LRt_X12_attends Ma Ra u ∧ (iv (-2147483648) 2147483647 r))) 0 0 (fun q => base ≤ q) := by
  refine tw_ofW (L := Lt_X12_attends) (LR := LRt_X12_attends) (by decide) (Nat.le_of_ble_eq_true rfl) hTy ?_
  intro p e s m args below meth c Q ls hx hb hr hlocks hown hml hW hK hT hS hQ hl
  have hl : lv_has ls 3 [(0, .ref (base + a0)), (1, .int a1), (2, .int a2)] := hl
  refine lv_aload_n hx hb dX12_attends_0 rfl (lv_at hl 0 rfl) ?_
  refine lv_iload_n hx hb dX12_attends_1 rfl (lv_at hl 1 rfl) ?_
  refine tw_goi hS (md_runV (As := [.int a1]) (rest := []) hx hb hml hown hW hK hT hS.1 (t_X12_isMember l D cy tx base Z K N Ma Ra Ja hS.2.1 a0 hz_a0 hk_a0 a1 h_a1) s_X12_319 ⟨rfl, rfl, ⟨Nat.le_of_ble_eq_true rfl, Nat.le_of_ble_eq_true rfl⟩, ⟨Nat.le_of_ble_eq_true rfl, Nat.le_of_ble_eq_true rfl⟩⟩ hz_a0 hk_a0 (by decide) rfl rfl hl.1 rfl (Nat.le_of_ble_eq_true rfl) dX12_attends_2) rfl rfl (fun x7 H locs M3 R4 J5 hS f1 g2 E6 => ?_)
  obtain ⟨h_x7, p8⟩ := E6
  refine lv_if_eq (tgt := 22) hx hb dX12_attends_5 (by decide) (fun c9 => ?_) (fun c9 => ?_)
  · have q10 : x7.toInt = 0 := ti_eq c9
    have h11 : iv 0 0 x7 := ⟨by have := (h_x7).1; have := ((iv_c (c := 0) (n := 0) (by decide))).1; omega, by have := (h_x7).2; have := ((iv_c (c := 0) (n := 0) (by decide))).2; omega⟩
    refine lv_aload_n hx hb dX12_attends_22 rfl (lv_at hl 0 rfl) ?_
    refine lv_iconst (v := 0) hx hb dX12_attends_23 (by decide) ?_
    refine tw_goi hS (md_runV (As := [.int 0]) (rest := []) hx hb hml hown hW hK hT hS.1 (t_X12_refuses l D cy tx base Z K N M3 R4 J5 hS.2.1 a0 hz_a0 hk_a0 0 (iv_mono (iv_c (c := 0) (n := 0) (by decide)) (by decide) (by decide))) s_X12_338 ⟨rfl, rfl, ⟨Nat.le_of_ble_eq_true rfl, Nat.le_of_ble_eq_true rfl⟩, ⟨Nat.le_of_ble_eq_true rfl, Nat.le_of_ble_eq_true rfl⟩⟩ hz_a0 hk_a0 (by decide) rfl rfl hl.1 rfl (Nat.le_of_ble_eq_true rfl) dX12_attends_24) rfl rfl (fun x18 H locs M14 R15 J16 hS f12 g13 E17 => ?_)
    have h_x18 := E17
    exact tw_endi hx hb hr hlocks hK hT hS hQ ((iv_mono h_x18 (by decide) (by decide))) dX12_attends_27
  · have q19 : ¬ x7.toInt = 0 := ti_ne c9
    have h20 : iv 1 1 x7 := ⟨by have := (h_x7).1; have := ((iv_c (c := 0) (n := 0) (by decide))).1; have := ((iv_c (c := 0) (n := 0) (by decide))).2; omega, by have := (h_x7).2; have := ((iv_c (c := 0) (n := 0) (by decide))).1; have := ((iv_c (c := 0) (n := 0) (by decide))).2; omega⟩
    have h21 : iv 0 9 a1 := ⟨by have := (p8 c9).1; have := (h_a1).1; omega, by have := (p8 c9).2; have := (h_a1).2; omega⟩
    refine lv_aload_n hx hb dX12_attends_8 rfl (lv_at hl 0 rfl) ?_
    refine tw_getr hx hb hW hown hK hS f_X12_45_11 hz_a0 hk_a0 (t := 23) (n := 226) rfl dX12_attends_9 (fun b22 k23 hz_b22 hk_b22 hn_b22 => ?_)
    have hn_b22 := hn_b22 (by decide)
    refine lv_iconst (v := 2) hx hb dX12_attends_12 (by decide) ?_
    refine tw_iald hx hb hK hS hz_b22 hk_b22 (Or.inr (by decide)) hn_b22 (lo := (-2147483648)) (hi := 2147483647) (iv_c (c := 2) (n := 2) (by decide)) ⟨by decide, by decide⟩ (rg_c (k0 := 2) rfl rfl rfl) dX12_attends_13 (fun x26 k25 h24 => ?_)
    refine lv_iload_n hx hb dX12_attends_14 rfl (lv_at hl 1 rfl) ?_
    refine tw_goi hS (md_runS (As := [.int x26, .int a1]) (rest := []) hx hb hml hown hW hK hT hS.1 (t_X12_isOf l D cy tx base Z K N M3 R4 J5 hS.2.1 x26 h24 a1 h21) s_X12_322 ⟨rfl, rfl, ⟨Nat.le_of_ble_eq_true rfl, Nat.le_of_ble_eq_true rfl⟩, ⟨Nat.le_of_ble_eq_true rfl, Nat.le_of_ble_eq_true rfl⟩⟩ rfl hl.1 rfl (Nat.le_of_ble_eq_true rfl) dX12_attends_15) rfl rfl (fun x33 H locs M29 R30 J31 hS f27 g28 E32 => ?_)
    have h_x33 := E32
    refine lv_iload_n hx hb dX12_attends_18 rfl (lv_at hl 2 rfl) ?_
    refine lv_icmp_ne (tgt := 28) hx hb dX12_attends_19 (by decide) (fun c34 => ?_) (fun c34 => ?_)
    · have q35 : ¬ x33.toInt = a2.toInt := ti_ne c34
      refine lv_aload_n hx hb dX12_attends_28 rfl (lv_at hl 0 rfl) ?_
      have k36 : R30 a0 25 = some b22 := (Fr.kp (k := 25) g28 hk_a0 rfl).trans k23
      refine tw_getrk hx hb hW hown hK hS f_X12_45_11 hz_a0 hk_a0 (b := b22) k36 dX12_attends_29 ?_
      refine lv_iconst (v := 2) hx hb dX12_attends_32 (by decide) ?_
      refine lv_dup2_11 hx hb dX12_attends_33 rfl rfl ?_
      have k37 : M29 b22 (2 : Int32).toNatClampNeg = x26 := (Fr.kp (k := (2 : Int32).toNatClampNeg) f27 hk_b22 rfl).trans k25
      refine tw_ialk hx hb hK hS hz_b22 hk_b22 (Or.inr (by decide)) hn_b22 (iv_c (c := 2) (n := 2) (by decide)) ⟨by decide, by decide⟩ (v := x26) k37 dX12_attends_34 ?_
      refine lv_iconst (v := 1) hx hb dX12_attends_35 (by decide) ?_
      refine lv_iload_n hx hb dX12_attends_36 rfl (lv_at hl 1 rfl) ?_
      refine lv_ishl hx hb dX12_attends_37 ?_
      refine tw_top (fun x39 => ?_)
      have h38 := iv_any x39
      refine lv_ixor hx hb dX12_attends_38 ?_
      refine tw_top (fun x41 => ?_)
      have h40 := iv_any x41
      refine tw_iast hx hb hK hS hz_b22 hk_b22 (Or.inr (by decide)) hn_b22 (iv_c (c := 2) (n := 2) (by decide)) ⟨by decide, by decide⟩ h40 (rg_cs (k0 := 2) rfl rfl rfl ⟨by decide, by decide⟩) (jl := 2) (jh := 2) ⟨by decide, by decide⟩ rfl dX12_attends_39 (fun H locs M44 hS k42 f43 => ?_)
      refine lv_aload_n hx hb dX12_attends_40 rfl (lv_at hl 0 rfl) ?_
      refine tw_getrk hx hb hW hown hK hS f_X12_45_11 hz_a0 hk_a0 (b := b22) k36 dX12_attends_41 ?_
      refine lv_bipush (v := 10) hx hb dX12_attends_44 (by decide) ?_
      refine lv_iload_n hx hb dX12_attends_46 rfl (lv_at hl 1 rfl) ?_
      refine tw_iadd (lo := 10) (hi := 19) hx hb (iv_c (c := 10) (n := 10) (by decide)) h21 ⟨by decide, by decide⟩ ⟨by decide, by decide⟩ dX12_attends_47 (fun x47 e46 h45 => ?_)
      have e46 : x47.toInt = 10 + a1.toInt := e46
      refine lv_iconst (v := 1) hx hb dX12_attends_48 (by decide) ?_
      refine tw_iast hx hb hK hS hz_b22 hk_b22 (Or.inr (by decide)) hn_b22 h45 ⟨by decide, by decide⟩ (iv_c (c := 1) (n := 1) (by decide)) (rg_svs ⟨by decide, by decide⟩ ⟨by decide, by decide⟩) (jl := 10) (jh := 19) ⟨by decide, by decide⟩ rfl dX12_attends_49 (fun H locs M50 hS k48 f49 => ?_)
      refine lv_aload_n hx hb dX12_attends_50 rfl (lv_at hl 0 rfl) ?_
      refine tw_getrk hx hb hW hown hK hS f_X12_45_11 hz_a0 hk_a0 (b := b22) k36 dX12_attends_51 ?_
      refine lv_iconst (v := 2) hx hb dX12_attends_54 (by decide) ?_
      have k51 : M50 b22 (2 : Int32).toNatClampNeg = x41 := (Fr.kp (k := (2 : Int32).toNatClampNeg) f49 hk_b22 rfl).trans k42
      refine tw_ialk hx hb hK hS hz_b22 hk_b22 (Or.inr (by decide)) hn_b22 (iv_c (c := 2) (n := 2) (by decide)) ⟨by decide, by decide⟩ (v := x41) k51 dX12_attends_55 ?_
      refine tw_goi hS (md_runS (As := [.int x41]) (rest := []) hx hb hml hown hW hK hT hS.1 (t_X12_bits l D cy tx base Z K N M50 R30 J31 hS.2.1 x41 h40) s_X12_341 ⟨rfl, rfl, ⟨Nat.le_of_ble_eq_true rfl, Nat.le_of_ble_eq_true rfl⟩, ⟨Nat.le_of_ble_eq_true rfl, Nat.le_of_ble_eq_true rfl⟩⟩ rfl hl.1 rfl (Nat.le_of_ble_eq_true rfl) dX12_attends_56) rfl rfl (fun x58 H locs M54 R55 J56 hS f52 g53 E57 => ?_)
      have h_x58 := E57
      exact tw_endi hx hb hr hlocks hK hT hS hQ (h_x58) dX12_attends_59
    · have q59 : x33.toInt = a2.toInt := ti_eq c34
      have h60 : iv 0 1 a2 := ⟨by have := (h_x33).1; have := (h_a2).1; omega, by have := (h_x33).2; have := (h_a2).2; omega⟩
      refine lv_aload_n hx hb dX12_attends_22 rfl (lv_at hl 0 rfl) ?_
      refine lv_iconst (v := 0) hx hb dX12_attends_23 (by decide) ?_
      refine tw_goi hS (md_runV (As := [.int 0]) (rest := []) hx hb hml hown hW hK hT hS.1 (t_X12_refuses l D cy tx base Z K N M29 R30 J31 hS.2.1 a0 hz_a0 hk_a0 0 (iv_mono (iv_c (c := 0) (n := 0) (by decide)) (by decide) (by decide))) s_X12_338 ⟨rfl, rfl, ⟨Nat.le_of_ble_eq_true rfl, Nat.le_of_ble_eq_true rfl⟩, ⟨Nat.le_of_ble_eq_true rfl, Nat.le_of_ble_eq_true rfl⟩⟩ hz_a0 hk_a0 (by decide) rfl rfl hl.1 rfl (Nat.le_of_ble_eq_true rfl) dX12_attends_24) rfl rfl (fun x67 H locs M63 R64 J65 hS f61 g62 E66 => ?_)
      have h_x67 := E66
      exact tw_endi hx hb hr hlocks hK hT hS hQ ((iv_mono h_x67 (by decide) (by decide))) dX12_attends_27
def Lt_X12_begins : WL := [(12, 28, 29), (12, 30, 31), (14, 0, 2000000), (30, 0, 2000000), (31, 0, 2000000)]
def LRt_X12_begins : WL := []
set_option maxRecDepth 100000 in
set_option maxHeartbeats 4000000 in
theorem t_X12_begins (l : Launch) (D : va_G) (cy : Nat → ClassId) (tx : (Nat → Nat) × (Nat → Nat)) (base Z : Nat) (K N : Nat → Nat) (Ma : MT) (Ra : RT) (Ja : JT) (hTy : Ty Z K N Ma Ra) (a0 : Nat) (hz_a0 : a0 < Z) (hk_a0 : K a0 = 12) (sd : Nat) (k_sd : Ra a0 25 = some sd) (e4 : Int32) (k_e4 : Ma sd (4 : Int32).toNatClampNeg = e4) (h_e4 : iv 0 8 e4) : Met l yX12_begins [Cond.code yX12_begins cX12_begins 2 none] (md_rm 1 0 0) (va_Pc [.ref (base + a0)] (md_U D cy tx base Z K N Ma Ra Ja)) (mQv D cy tx base (fun u => TP Z K N Lt_X12_begins LRt_X12_begins Ma Ra u ∧ (u.2.2.2.1 a0 30 = e4))) 0 0 (fun q => base ≤ q) := by
  refine tw_ofW (L := Lt_X12_begins) (LR := LRt_X12_begins) (by decide) (Nat.le_of_ble_eq_true rfl) hTy ?_
  intro p e s m args below meth c Q ls hx hb hr hlocks hown hml hW hK hT hS hQ hl
  have hl : lv_has ls 2 [(0, .ref (base + a0))] := hl
  obtain ⟨hz_sd, hk_sd, hn_sd⟩ := hTy.refn hz_a0 hk_a0 (show rtR 12 25 = (23, 226, 0) from rfl) k_sd
  have hn_sd := hn_sd (by decide)
  refine lv_iconst (v := 0) hx hb dX12_begins_0 (by decide) ?_
  refine lv_istore_n (lv' := [(1, .int 0), (0, .ref (base + a0))]) hx hb dX12_begins_1 rfl hl (by decide) rfl (fun ls hl => ?_)
  have W2_2 : ∀ (n_2 : Nat) (x1 : Int32) (M2 : MT) (R3 : RT) (J4 : JT) (H : Heap) (locs : List Loc) (ls : Array Slot) (h_x1 : iv 0 10 x1) (hm_2 : 10 - x1.toInt < (n_2 : Int)) (hS : SB D cy base Z K N Lt_X12_begins LRt_X12_begins Ma Ra M2 R3 J4 s H locs) (hl : lv_has ls 2 [(1, .int x1), (0, .ref (base + a0))]), W p l e (md_rm 1 0 0) s m args below meth c H locs 0 0 Q (F0 m 2 ls []) := by
    intro n_2
    induction n_2 with
    | zero =>
      intro x1 M2 R3 J4 H locs ls h_x1 hm_2 hS hl
      exfalso
      have := (h_e4).1; have := (h_e4).2; have := (h_x1).1; have := (h_x1).2; omega
    | succ n_2 ih_2 =>
      intro x1 M2 R3 J4 H locs ls h_x1 hm_2 hS hl
      have f5 := hS.2.2.1
      have g6 := hS.2.2.2
      refine lv_iload_n hx hb dX12_begins_2 rfl (lv_at hl 0 rfl) ?_
      refine lv_bipush (v := 10) hx hb dX12_begins_3 (by decide) ?_
      refine lv_icmp_ge (tgt := 43) hx hb dX12_begins_5 (by decide) (fun c7 => ?_) (fun c7 => ?_)
      · have q8 : 10 ≤ x1.toInt := ti_le c7
        have h9 : iv 10 10 x1 := iv_geL (y := 10) h_x1 (iv_c (c := 10) (n := 10) (by decide)) q8 (by decide)
        refine lv_aload_n hx hb dX12_begins_43 rfl (lv_at hl 1 rfl) ?_
        refine lv_aload_n hx hb dX12_begins_44 rfl (lv_at hl 1 rfl) ?_
        have k10 : R3 a0 25 = some sd := (Fr.kp (k := 25) g6 hk_a0 rfl).trans k_sd
        refine tw_getrk hx hb hW hown hK hS f_X12_45_11 hz_a0 hk_a0 (b := sd) k10 dX12_begins_45 ?_
        refine lv_iconst (v := 3) hx hb dX12_begins_48 (by decide) ?_
        refine tw_iald hx hb hK hS hz_sd hk_sd (Or.inr (by decide)) hn_sd (lo := (-2147483648)) (hi := 2147483647) (iv_c (c := 3) (n := 3) (by decide)) ⟨by decide, by decide⟩ (rg_c (k0 := 3) rfl rfl rfl) dX12_begins_49 (fun x13 k12 h11 => ?_)
        refine tw_puti hx hb hW hown hK hS f_X12_348_11 hz_a0 hk_a0 rfl rfl (lo := (-2147483648)) (hi := 2147483647) rfl h11 rfl dX12_begins_50 (fun H locs M16 hS k14 f15 => ?_)
        refine lv_aload_n hx hb dX12_begins_53 rfl (lv_at hl 1 rfl) ?_
        refine lv_aload_n hx hb dX12_begins_54 rfl (lv_at hl 1 rfl) ?_
        have k17 : R3 a0 25 = some sd := (Fr.kp (k := 25) g6 hk_a0 rfl).trans k_sd
        refine tw_getrk hx hb hW hown hK hS f_X12_45_11 hz_a0 hk_a0 (b := sd) k17 dX12_begins_55 ?_
        refine lv_iconst (v := 4) hx hb dX12_begins_58 (by decide) ?_
        have k18 : M16 sd (4 : Int32).toNatClampNeg = e4 := ((Fr.kp (k := (4 : Int32).toNatClampNeg) f15 hk_sd rfl).trans (Fr.kp (k := (4 : Int32).toNatClampNeg) f5 hk_sd rfl)).trans k_e4
        refine tw_ialk hx hb hK hS hz_sd hk_sd (Or.inr (by decide)) hn_sd (iv_c (c := 4) (n := 4) (by decide)) ⟨by decide, by decide⟩ (v := e4) k18 dX12_begins_59 ?_
        refine tw_puti hx hb hW hown hK hS f_X12_351_11 hz_a0 hk_a0 rfl rfl (lo := 0) (hi := 8) rfl h_e4 rfl dX12_begins_60 (fun H locs M21 hS k19 f20 => ?_)
        refine lv_iconst (v := 0) hx hb dX12_begins_63 (by decide) ?_
        refine lv_istore_n (lv' := [(1, .int 0), (0, .ref (base + a0))]) hx hb dX12_begins_64 rfl hl (by decide) rfl (fun ls hl => ?_)
        have W65_23 : ∀ (n_23 : Nat) (x22 : Int32) (x28 : Int32) (M23 : MT) (R24 : RT) (J25 : JT) (H : Heap) (locs : List Loc) (ls : Array Slot) (h_x22 : iv 0 8 x22) (h_x28 : iv 0 8 x28) (k29 : M23 a0 30 = x28) (w0_23 : x28.toInt = e4.toInt) (hm_23 : 8 - x22.toInt < (n_23 : Int)) (hS : SB D cy base Z K N Lt_X12_begins LRt_X12_begins Ma Ra M23 R24 J25 s H locs) (hl : lv_has ls 2 [(1, .int x22), (0, .ref (base + a0))]), W p l e (md_rm 1 0 0) s m args below meth c H locs 0 0 Q (F0 m 65 ls []) := by
          intro n_23
          induction n_23 with
          | zero =>
            intro x22 x28 M23 R24 J25 H locs ls h_x22 h_x28 k29 w0_23 hm_23 hS hl
            exfalso
            have := (h_e4).1; have := (h_e4).2; have := (h_x22).1; have := (h_x22).2; omega
          | succ n_23 ih_23 =>
            intro x22 x28 M23 R24 J25 H locs ls h_x22 h_x28 k29 w0_23 hm_23 hS hl
            have f26 := hS.2.2.1
            have g27 := hS.2.2.2
            refine lv_iload_n hx hb dX12_begins_65 rfl (lv_at hl 0 rfl) ?_
            refine lv_aload_n hx hb dX12_begins_66 rfl (lv_at hl 1 rfl) ?_
            refine tw_getk hx hb hW hown hK hS f_X12_351_11 hz_a0 hk_a0 (v := x28) k29 dX12_begins_67 ?_
            refine lv_icmp_ge (tgt := 95) hx hb dX12_begins_70 (by decide) (fun c30 => ?_) (fun c30 => ?_)
            · have q31 : x28.toInt ≤ x22.toInt := ti_le c30
              exact tw_endv hx hb hr hlocks hK hT hS hQ ((k29.trans (Int32.toInt_inj.mp (by omega)))) dX12_begins_95
            · have q32 : x22.toInt < x28.toInt := ti_nle c30
              have h33 : iv 0 7 x22 := iv_ltL (y := x28) h_x22 h_x28 q32 (by decide)
              have h34 : iv 1 8 x28 := iv_gtL (y := x22) h_x28 h_x22 q32 (by decide)
              refine lv_aload_n hx hb dX12_begins_73 rfl (lv_at hl 1 rfl) ?_
              refine tw_getr hx hb hW hown hK hS f_X12_54_11 hz_a0 hk_a0 (t := 31) (n := 8) rfl dX12_begins_74 (fun b35 k36 hz_b35 hk_b35 hn_b35 => ?_)
              have hn_b35 := hn_b35 (by decide)
              refine lv_iload_n hx hb dX12_begins_77 rfl (lv_at hl 0 rfl) ?_
              refine lv_aload_n hx hb dX12_begins_78 rfl (lv_at hl 1 rfl) ?_
              have k37 : R24 a0 25 = some sd := (Fr.kp (k := 25) g27 hk_a0 rfl).trans k_sd
              refine tw_getrk hx hb hW hown hK hS f_X12_45_11 hz_a0 hk_a0 (b := sd) k37 dX12_begins_79 ?_
              refine lv_sipush (v := 170) hx hb dX12_begins_82 (by decide) ?_
              refine lv_iload_n hx hb dX12_begins_85 rfl (lv_at hl 0 rfl) ?_
              refine tw_iadd (lo := 170) (hi := 177) hx hb (iv_c (c := 170) (n := 170) (by decide)) h33 ⟨by decide, by decide⟩ ⟨by decide, by decide⟩ dX12_begins_86 (fun x40 e39 h38 => ?_)
              have e39 : x40.toInt = 170 + x22.toInt := e39
              refine tw_iald hx hb hK hS hz_sd hk_sd (Or.inr (by decide)) hn_sd (lo := 0) (hi := 11) h38 ⟨by decide, by decide⟩ (rg_so ⟨by decide, by decide⟩) dX12_begins_87 (fun x43 k42 h41 => ?_)
              refine tw_iast hx hb hK hS hz_b35 hk_b35 (Or.inr (by decide)) hn_b35 h33 ⟨by decide, by decide⟩ h41 (rg_s31 ⟨by decide, by decide⟩) (jl := 0) (jh := 1999999) ⟨by decide, by decide⟩ rfl dX12_begins_88 (fun H locs M46 hS k44 f45 => ?_)
              refine tw_iinc (lv' := fun x49 => [(1, .int x49), (0, .ref (base + a0))]) (lo := 1) (hi := 8) hx hb dX12_begins_89 hl (k := 0) rfl h33 (by decide) ⟨by decide, by decide⟩ ⟨by decide, by decide⟩ (by decide) (fun _ => rfl) (fun x49 ls e48 h47 hl => ?_)
              refine lv_goto (tgt := 65) hx hb dX12_begins_92 (by decide) ?_
              have k50 : M46 a0 30 = x28 := (Fr.kp (k := 30) f45 hk_a0 rfl).trans k29
              have w51 : x28.toInt = e4.toInt := by
                have := (h_e4).1; have := (h_e4).2; have := (h34).1; have := (h34).2; omega
              have hm52 : 8 - x49.toInt < (n_23 : Int) := by
                have := (h_e4).1; have := (h_e4).2; have := (h33).1; have := (h33).2; have := (h38).1; have := (h38).2; have := (h47).1; have := (h47).2; omega
              exact ih_23 x49 x28 M46 R24 J25 H locs _ (iv_mono h47 (by decide) (by decide)) (iv_mono h34 (by decide) (by decide)) k50 w51 hm52 hS hl
        have w53 : e4.toInt = e4.toInt := by
          have := (h_e4).1; have := (h_e4).2; omega
        have hm54 : 8 - (0 : Int32).toInt < (((9 : Nat) : Int) : Int) := by
          have := (h_e4).1; have := (h_e4).2; have : (0 : Int32).toInt = 0 := (by decide); omega
        exact W65_23 9 0 e4 M21 R3 J4 H locs _ (iv_mono (iv_c (c := 0) (n := 0) (by decide)) (by decide) (by decide)) h_e4 k19 w53 hm54 hS hl
      · have q55 : x1.toInt < 10 := ti_nle c7
        have h56 : iv 0 9 x1 := iv_ltL (y := 10) h_x1 (iv_c (c := 10) (n := 10) (by decide)) q55 (by decide)
        refine lv_aload_n hx hb dX12_begins_8 rfl (lv_at hl 1 rfl) ?_
        refine tw_getr hx hb hW hown hK hS f_X12_51_11 hz_a0 hk_a0 (t := 30) (n := 10) rfl dX12_begins_9 (fun b57 k58 hz_b57 hk_b57 hn_b57 => ?_)
        have hn_b57 := hn_b57 (by decide)
        refine lv_iload_n hx hb dX12_begins_12 rfl (lv_at hl 0 rfl) ?_
        refine lv_aload_n hx hb dX12_begins_13 rfl (lv_at hl 1 rfl) ?_
        have k59 : R3 a0 25 = some sd := (Fr.kp (k := 25) g6 hk_a0 rfl).trans k_sd
        refine tw_getrk hx hb hW hown hK hS f_X12_45_11 hz_a0 hk_a0 (b := sd) k59 dX12_begins_14 ?_
        refine lv_bipush (v := 10) hx hb dX12_begins_17 (by decide) ?_
        refine lv_iload_n hx hb dX12_begins_19 rfl (lv_at hl 0 rfl) ?_
        refine tw_iadd (lo := 10) (hi := 19) hx hb (iv_c (c := 10) (n := 10) (by decide)) h56 ⟨by decide, by decide⟩ ⟨by decide, by decide⟩ dX12_begins_20 (fun x62 e61 h60 => ?_)
        have e61 : x62.toInt = 10 + x1.toInt := e61
        refine tw_iald hx hb hK hS hz_sd hk_sd (Or.inr (by decide)) hn_sd (lo := 0) (hi := 9999) h60 ⟨by decide, by decide⟩ (rg_sv ⟨by decide, by decide⟩) dX12_begins_21 (fun x65 k64 h63 => ?_)
        refine tw_iast hx hb hK hS hz_b57 hk_b57 (Or.inr (by decide)) hn_b57 h56 ⟨by decide, by decide⟩ h63 (rg_s30 ⟨by decide, by decide⟩) (jl := 0) (jh := 1999999) ⟨by decide, by decide⟩ rfl dX12_begins_22 (fun H locs M68 hS k66 f67 => ?_)
        refine lv_aload_n hx hb dX12_begins_23 rfl (lv_at hl 1 rfl) ?_
        refine tw_getr hx hb hW hown hK hS f_X12_57_11 hz_a0 hk_a0 (t := 14) (n := 10) rfl dX12_begins_24 (fun b69 k70 hz_b69 hk_b69 hn_b69 => ?_)
        have hn_b69 := hn_b69 (by decide)
        refine lv_iload_n hx hb dX12_begins_27 rfl (lv_at hl 0 rfl) ?_
        refine lv_iconst (v := 0) hx hb dX12_begins_28 (by decide) ?_
        refine tw_iast hx hb hK hS hz_b69 hk_b69 (Or.inl rfl) hn_b69 h56 ⟨by decide, by decide⟩ (iv_c (c := 0) (n := 0) (by decide)) (rg_s14 ⟨by decide, by decide⟩) (jl := 0) (jh := 1999999) ⟨by decide, by decide⟩ rfl dX12_begins_29 (fun H locs M73 hS k71 f72 => ?_)
        refine lv_aload_n hx hb dX12_begins_30 rfl (lv_at hl 1 rfl) ?_
        refine tw_getr hx hb hW hown hK hS f_X12_60_11 hz_a0 hk_a0 (t := 14) (n := 10) rfl dX12_begins_31 (fun b74 k75 hz_b74 hk_b74 hn_b74 => ?_)
        have hn_b74 := hn_b74 (by decide)
        refine lv_iload_n hx hb dX12_begins_34 rfl (lv_at hl 0 rfl) ?_
        refine lv_iconst (v := 0) hx hb dX12_begins_35 (by decide) ?_
        refine tw_iast hx hb hK hS hz_b74 hk_b74 (Or.inl rfl) hn_b74 h56 ⟨by decide, by decide⟩ (iv_c (c := 0) (n := 0) (by decide)) (rg_s14 ⟨by decide, by decide⟩) (jl := 0) (jh := 1999999) ⟨by decide, by decide⟩ rfl dX12_begins_36 (fun H locs M78 hS k76 f77 => ?_)
        refine tw_iinc (lv' := fun x81 => [(1, .int x81), (0, .ref (base + a0))]) (lo := 1) (hi := 10) hx hb dX12_begins_37 hl (k := 0) rfl h56 (by decide) ⟨by decide, by decide⟩ ⟨by decide, by decide⟩ (by decide) (fun _ => rfl) (fun x81 ls e80 h79 hl => ?_)
        refine lv_goto (tgt := 2) hx hb dX12_begins_40 (by decide) ?_
        have hm82 : 10 - x81.toInt < (n_2 : Int) := by
          have := (h_e4).1; have := (h_e4).2; have := (h56).1; have := (h56).2; have := (h60).1; have := (h60).2; have := (h79).1; have := (h79).2; omega
        exact ih_2 x81 M78 R3 J4 H locs _ (iv_mono h79 (by decide) (by decide)) hm82 hS hl
  have hm83 : 10 - (0 : Int32).toInt < (((11 : Nat) : Int) : Int) := by
    have := (h_e4).1; have := (h_e4).2; have : (0 : Int32).toInt = 0 := (by decide); omega
  exact W2_2 11 0 Ma Ra Ja s.heap [] _ (iv_mono (iv_c (c := 0) (n := 0) (by decide)) (by decide) (by decide)) hm83 hS hl
def Lt_X12_isSet : WL := []
def LRt_X12_isSet : WL := []
set_option maxRecDepth 100000 in
set_option maxHeartbeats 4000000 in
theorem t_X12_isSet (l : Launch) (D : va_G) (cy : Nat → ClassId) (tx : (Nat → Nat) × (Nat → Nat)) (base Z : Nat) (K N : Nat → Nat) (Ma : MT) (Ra : RT) (Ja : JT) (hTy : Ty Z K N Ma Ra) (a0 : Nat) (hz_a0 : a0 < Z) (hk_a0 : K a0 = 12) (a1 : Int32) (h_a1 : iv (-2147483648) 2147483647 a1) : Met l yX12_isSet [Cond.code yX12_isSet cX12_isSet 2 (some .boolean)] (md_rm 1 0 0) (va_Pc [.ref (base + a0), .int a1] (md_U D cy tx base Z K N Ma Ra Ja)) (mQi D cy tx base (fun r u => TP Z K N Lt_X12_isSet LRt_X12_isSet Ma Ra u ∧ (iv 0 1 r))) 0 0 (fun q => base ≤ q) := by
  refine tw_ofW (L := Lt_X12_isSet) (LR := LRt_X12_isSet) (by decide) (Nat.le_of_ble_eq_true rfl) hTy ?_
  intro p e s m args below meth c Q ls hx hb hr hlocks hown hml hW hK hT hS hQ hl
  have hl : lv_has ls 2 [(0, .ref (base + a0)), (1, .int a1)] := hl
  refine lv_iload_n hx hb dX12_isSet_0 rfl (lv_at hl 1 rfl) ?_
  refine lv_if_lt (tgt := 20) hx hb dX12_isSet_1 (by decide) (fun c1 => ?_) (fun c1 => ?_)
  · have q2 : a1.toInt < 0 := ti_lt c1
    have h3 : iv (-2147483648) (-1) a1 := iv_ltL (y := 0) h_a1 (iv_c (c := 0) (n := 0) (by decide)) q2 (by decide)
    refine lv_iconst (v := 0) hx hb dX12_isSet_20 (by decide) ?_
    exact tw_endz hx hb hr hlocks hK hT hS hQ rfl ((iv_mono (iv_c (c := 0) (n := 0) (by decide)) (by decide) (by decide))) dX12_isSet_21
  · have q4 : 0 ≤ a1.toInt := ti_nlt c1
    have h5 : iv 0 2147483647 a1 := iv_geL (y := 0) h_a1 (iv_c (c := 0) (n := 0) (by decide)) q4 (by decide)
    refine lv_iload_n hx hb dX12_isSet_4 rfl (lv_at hl 1 rfl) ?_
    refine lv_iconst (v := 1) hx hb dX12_isSet_5 (by decide) ?_
    refine lv_aload_n hx hb dX12_isSet_6 rfl (lv_at hl 0 rfl) ?_
    refine tw_getr hx hb hW hown hK hS f_X12_45_11 hz_a0 hk_a0 (t := 23) (n := 226) rfl dX12_isSet_7 (fun b6 k7 hz_b6 hk_b6 hn_b6 => ?_)
    have hn_b6 := hn_b6 (by decide)
    refine lv_iconst (v := 0) hx hb dX12_isSet_10 (by decide) ?_
    refine tw_iald hx hb hK hS hz_b6 hk_b6 (Or.inr (by decide)) hn_b6 (lo := 0) (hi := 10) (iv_c (c := 0) (n := 0) (by decide)) ⟨by decide, by decide⟩ (rg_c (k0 := 0) rfl rfl rfl) dX12_isSet_11 (fun x10 k9 h8 => ?_)
    refine lv_ishl hx hb dX12_isSet_12 ?_
    refine tw_top (fun x12 => ?_)
    have h11 := iv_any x12
    refine lv_icmp_ge (tgt := 20) hx hb dX12_isSet_13 (by decide) (fun c13 => ?_) (fun c13 => ?_)
    · have q14 : x12.toInt ≤ a1.toInt := ti_le c13
      refine lv_iconst (v := 0) hx hb dX12_isSet_20 (by decide) ?_
      exact tw_endz hx hb hr hlocks hK hT hS hQ rfl ((iv_mono (iv_c (c := 0) (n := 0) (by decide)) (by decide) (by decide))) dX12_isSet_21
    · have q15 : a1.toInt < x12.toInt := ti_nle c13
      have h16 : iv 0 2147483646 a1 := iv_ltL (y := x12) h5 h11 q15 (by decide)
      have h17 : iv 1 2147483647 x12 := iv_gtL (y := a1) h11 h5 q15 (by decide)
      refine lv_iconst (v := 1) hx hb dX12_isSet_16 (by decide) ?_
      refine lv_goto (tgt := 21) hx hb dX12_isSet_17 (by decide) ?_
      exact tw_endz hx hb hr hlocks hK hT hS hQ rfl ((iv_mono (iv_c (c := 1) (n := 1) (by decide)) (by decide) (by decide))) dX12_isSet_21
def Lt_X12_grows : WL := [(14, 0, 2000000), (30, 0, 2000000)]
def LRt_X12_grows : WL := []
set_option maxRecDepth 100000 in
set_option maxHeartbeats 4000000 in
theorem t_X12_grows (l : Launch) (D : va_G) (cy : Nat → ClassId) (tx : (Nat → Nat) × (Nat → Nat)) (base Z : Nat) (K N : Nat → Nat) (Ma : MT) (Ra : RT) (Ja : JT) (hTy : Ty Z K N Ma Ra) (a0 : Nat) (hz_a0 : a0 < Z) (hk_a0 : K a0 = 12) (a1 : Int32) (h_a1 : iv 0 9 a1) (a2 : Int32) (h_a2 : iv 0 1 a2) : Met l yX12_grows [Cond.code yX12_grows cX12_grows 5 none] (md_rm 1 0 0) (va_Pc [.ref (base + a0), .int a1, .int a2] (md_U D cy tx base Z K N Ma Ra Ja)) (mQv D cy tx base (fun u => TP Z K N Lt_X12_grows LRt_X12_grows Ma Ra u ∧ (True))) 0 0 (fun q => base ≤ q) := by
  refine tw_ofW (L := Lt_X12_grows) (LR := LRt_X12_grows) (by decide) (Nat.le_of_ble_eq_true rfl) hTy ?_
  intro p e s m args below meth c Q ls hx hb hr hlocks hown hml hW hK hT hS hQ hl
  have hl : lv_has ls 5 [(0, .ref (base + a0)), (1, .int a1), (2, .int a2)] := hl
  refine lv_aload_n hx hb dX12_grows_0 rfl (lv_at hl 0 rfl) ?_
  refine tw_getr hx hb hW hown hK hS f_X12_51_11 hz_a0 hk_a0 (t := 30) (n := 10) rfl dX12_grows_1 (fun b1 k2 hz_b1 hk_b1 hn_b1 => ?_)
  have hn_b1 := hn_b1 (by decide)
  refine lv_iload_n hx hb dX12_grows_4 rfl (lv_at hl 1 rfl) ?_
  refine tw_iald hx hb hK hS hz_b1 hk_b1 (Or.inr (by decide)) hn_b1 (lo := 0) (hi := 9999) h_a1 ⟨by decide, by decide⟩ rg_u30 dX12_grows_5 (fun x5 k4 h3 => ?_)
  refine lv_istore_n (lv' := [(3, .int x5), (0, .ref (base + a0)), (1, .int a1), (2, .int a2)]) hx hb dX12_grows_6 rfl hl (by decide) rfl (fun ls hl => ?_)
  refine lv_iload_n hx hb dX12_grows_7 rfl (lv_at hl 3 rfl) ?_
  refine lv_if_eq (tgt := 51) hx hb dX12_grows_8 (by decide) (fun c6 => ?_) (fun c6 => ?_)
  · have q7 : a2.toInt = 0 := ti_eq c6
    have h8 : iv 0 0 a2 := ⟨by have := (h_a2).1; have := ((iv_c (c := 0) (n := 0) (by decide))).1; omega, by have := (h_a2).2; have := ((iv_c (c := 0) (n := 0) (by decide))).2; omega⟩
    refine lv_aload_n hx hb dX12_grows_51 rfl (lv_at hl 1 rfl) ?_
    refine tw_getr hx hb hW hown hK hS f_X12_60_11 hz_a0 hk_a0 (t := 14) (n := 10) rfl dX12_grows_52 (fun b9 k10 hz_b9 hk_b9 hn_b9 => ?_)
    have hn_b9 := hn_b9 (by decide)
    refine lv_iload_n hx hb dX12_grows_55 rfl (lv_at hl 2 rfl) ?_
    refine lv_dup2_11 hx hb dX12_grows_56 rfl rfl ?_
    refine tw_iald hx hb hK hS hz_b9 hk_b9 (Or.inl rfl) hn_b9 (lo := (-2147483648)) (hi := 2147483647) h_a1 ⟨by decide, by decide⟩ rg_u14 dX12_grows_57 (fun x13 k12 h11 => ?_)
    refine lv_iconst (v := 1) hx hb dX12_grows_58 (by decide) ?_
    refine lv_iadd hx hb dX12_grows_59 ?_
    refine tw_top (fun x15 => ?_)
    have h14 := iv_any x15
    refine tw_iast hx hb hK hS hz_b9 hk_b9 (Or.inl rfl) hn_b9 h_a1 ⟨by decide, by decide⟩ h14 (rg_s14 ⟨by decide, by decide⟩) (jl := 0) (jh := 1999999) ⟨by decide, by decide⟩ rfl dX12_grows_60 (fun H locs M18 hS k16 f17 => ?_)
    refine lv_aload_n hx hb dX12_grows_61 rfl (lv_at hl 1 rfl) ?_
    refine tw_getr hx hb hW hown hK hS f_X12_45_11 hz_a0 hk_a0 (t := 23) (n := 226) rfl dX12_grows_62 (fun b19 k20 hz_b19 hk_b19 hn_b19 => ?_)
    have hn_b19 := hn_b19 (by decide)
    refine lv_bipush (v := 7) hx hb dX12_grows_65 (by decide) ?_
    refine tw_iald hx hb hK hS hz_b19 hk_b19 (Or.inr (by decide)) hn_b19 (lo := (-2147483648)) (hi := 2147483647) (iv_c (c := 7) (n := 7) (by decide)) ⟨by decide, by decide⟩ (rg_c (k0 := 7) rfl rfl rfl) dX12_grows_67 (fun x23 k22 h21 => ?_)
    refine lv_iconst (v := 1) hx hb dX12_grows_68 (by decide) ?_
    refine lv_icmp_ne (tgt := 78) hx hb dX12_grows_69 (by decide) (fun c24 => ?_) (fun c24 => ?_)
    · have q25 : ¬ x23.toInt = 1 := ti_ne c24
      refine lv_iload_n hx hb dX12_grows_78 rfl (lv_at hl 0 rfl) ?_
      refine lv_iconst (v := 1) hx hb dX12_grows_79 (by decide) ?_
      refine tw_iadd (lo := 1) (hi := 10000) hx hb h3 (iv_c (c := 1) (n := 1) (by decide)) ⟨by decide, by decide⟩ ⟨by decide, by decide⟩ dX12_grows_80 (fun x28 e27 h26 => ?_)
      have e27 : x28.toInt = x5.toInt + 1 := e27
      refine lv_istore (lv' := [(4, .int x28), (3, .int x5), (0, .ref (base + a0)), (1, .int a1), (2, .int a2)]) hx hb dX12_grows_81 hl (by decide) rfl (fun ls hl => ?_)
      refine lv_aload_n hx hb dX12_grows_83 rfl (lv_at hl 2 rfl) ?_
      refine tw_getrk hx hb hW hown hK hS f_X12_51_11 hz_a0 hk_a0 (b := b1) k2 dX12_grows_84 ?_
      refine lv_iload_n hx hb dX12_grows_87 rfl (lv_at hl 3 rfl) ?_
      refine lv_iload hx hb dX12_grows_88 (lv_at hl 0 rfl) ?_
      refine lv_aload_n hx hb dX12_grows_90 rfl (lv_at hl 2 rfl) ?_
      refine tw_getrk hx hb hW hown hK hS f_X12_45_11 hz_a0 hk_a0 (b := b19) k20 dX12_grows_91 ?_
      refine lv_bipush (v := 8) hx hb dX12_grows_94 (by decide) ?_
      refine tw_iald hx hb hK hS hz_b19 hk_b19 (Or.inr (by decide)) hn_b19 (lo := 0) (hi := 9999) (iv_c (c := 8) (n := 8) (by decide)) ⟨by decide, by decide⟩ (rg_c (k0 := 8) rfl rfl rfl) dX12_grows_96 (fun x31 k30 h29 => ?_)
      refine lv_icmp_le (tgt := 110) hx hb dX12_grows_97 (by decide) (fun c32 => ?_) (fun c32 => ?_)
      · have q33 : x28.toInt ≤ x31.toInt := ti_le c32
        have h34 : iv 1 9999 x28 := iv_leL (y := x31) h26 h29 q33 (by decide)
        have h35 : iv 1 9999 x31 := iv_geL (y := x28) h29 h26 q33 (by decide)
        refine lv_iload hx hb dX12_grows_110 (lv_at hl 0 rfl) ?_
        refine tw_iast hx hb hK hS hz_b1 hk_b1 (Or.inr (by decide)) hn_b1 h_a1 ⟨by decide, by decide⟩ h34 (rg_s30 ⟨by decide, by decide⟩) (jl := 0) (jh := 1999999) ⟨by decide, by decide⟩ rfl dX12_grows_112 (fun H locs M38 hS k36 f37 => ?_)
        exact tw_endv hx hb hr hlocks hK hT hS hQ (trivial) dX12_grows_113
      · have q39 : x31.toInt < x28.toInt := ti_nle c32
        refine lv_aload_n hx hb dX12_grows_100 rfl (lv_at hl 2 rfl) ?_
        refine tw_getrk hx hb hW hown hK hS f_X12_45_11 hz_a0 hk_a0 (b := b19) k20 dX12_grows_101 ?_
        refine lv_bipush (v := 8) hx hb dX12_grows_104 (by decide) ?_
        refine tw_ialk hx hb hK hS hz_b19 hk_b19 (Or.inr (by decide)) hn_b19 (iv_c (c := 8) (n := 8) (by decide)) ⟨by decide, by decide⟩ (v := x31) k30 dX12_grows_106 ?_
        refine lv_goto (tgt := 112) hx hb dX12_grows_107 (by decide) ?_
        refine tw_iast hx hb hK hS hz_b1 hk_b1 (Or.inr (by decide)) hn_b1 h_a1 ⟨by decide, by decide⟩ h29 (rg_s30 ⟨by decide, by decide⟩) (jl := 0) (jh := 1999999) ⟨by decide, by decide⟩ rfl dX12_grows_112 (fun H locs M42 hS k40 f41 => ?_)
        exact tw_endv hx hb hr hlocks hK hT hS hQ (trivial) dX12_grows_113
    · have q43 : x23.toInt = 1 := ti_eq c24
      have h44 : iv 1 1 x23 := ⟨by have := (h21).1; have := ((iv_c (c := 1) (n := 1) (by decide))).1; omega, by have := (h21).2; have := ((iv_c (c := 1) (n := 1) (by decide))).2; omega⟩
      refine lv_iconst (v := 2) hx hb dX12_grows_72 (by decide) ?_
      refine lv_iload_n hx hb dX12_grows_73 rfl (lv_at hl 0 rfl) ?_
      refine tw_icmul (k := 2) (lo := 0) (hi := 19998) hx hb (by decide) h3 (by decide) ⟨by decide, by decide⟩ ⟨by decide, by decide⟩ dX12_grows_74 (fun x47 e46 h45 => ?_)
      refine lv_goto (tgt := 81) hx hb dX12_grows_75 (by decide) ?_
      refine lv_istore (lv' := [(4, .int x47), (3, .int x5), (0, .ref (base + a0)), (1, .int a1), (2, .int a2)]) hx hb dX12_grows_81 hl (by decide) rfl (fun ls hl => ?_)
      refine lv_aload_n hx hb dX12_grows_83 rfl (lv_at hl 2 rfl) ?_
      refine tw_getrk hx hb hW hown hK hS f_X12_51_11 hz_a0 hk_a0 (b := b1) k2 dX12_grows_84 ?_
      refine lv_iload_n hx hb dX12_grows_87 rfl (lv_at hl 3 rfl) ?_
      refine lv_iload hx hb dX12_grows_88 (lv_at hl 0 rfl) ?_
      refine lv_aload_n hx hb dX12_grows_90 rfl (lv_at hl 2 rfl) ?_
      refine tw_getrk hx hb hW hown hK hS f_X12_45_11 hz_a0 hk_a0 (b := b19) k20 dX12_grows_91 ?_
      refine lv_bipush (v := 8) hx hb dX12_grows_94 (by decide) ?_
      refine tw_iald hx hb hK hS hz_b19 hk_b19 (Or.inr (by decide)) hn_b19 (lo := 0) (hi := 9999) (iv_c (c := 8) (n := 8) (by decide)) ⟨by decide, by decide⟩ (rg_c (k0 := 8) rfl rfl rfl) dX12_grows_96 (fun x50 k49 h48 => ?_)
      refine lv_icmp_le (tgt := 110) hx hb dX12_grows_97 (by decide) (fun c51 => ?_) (fun c51 => ?_)
      · have q52 : x47.toInt ≤ x50.toInt := ti_le c51
        have h53 : iv 0 9999 x47 := iv_leL (y := x50) h45 h48 q52 (by decide)
        refine lv_iload hx hb dX12_grows_110 (lv_at hl 0 rfl) ?_
        refine tw_iast hx hb hK hS hz_b1 hk_b1 (Or.inr (by decide)) hn_b1 h_a1 ⟨by decide, by decide⟩ h53 (rg_s30 ⟨by decide, by decide⟩) (jl := 0) (jh := 1999999) ⟨by decide, by decide⟩ rfl dX12_grows_112 (fun H locs M56 hS k54 f55 => ?_)
        exact tw_endv hx hb hr hlocks hK hT hS hQ (trivial) dX12_grows_113
      · have q57 : x50.toInt < x47.toInt := ti_nle c51
        have h58 : iv 1 19998 x47 := iv_gtL (y := x50) h45 h48 q57 (by decide)
        refine lv_aload_n hx hb dX12_grows_100 rfl (lv_at hl 2 rfl) ?_
        refine tw_getrk hx hb hW hown hK hS f_X12_45_11 hz_a0 hk_a0 (b := b19) k20 dX12_grows_101 ?_
        refine lv_bipush (v := 8) hx hb dX12_grows_104 (by decide) ?_
        refine tw_ialk hx hb hK hS hz_b19 hk_b19 (Or.inr (by decide)) hn_b19 (iv_c (c := 8) (n := 8) (by decide)) ⟨by decide, by decide⟩ (v := x50) k49 dX12_grows_106 ?_
        refine lv_goto (tgt := 112) hx hb dX12_grows_107 (by decide) ?_
        refine tw_iast hx hb hK hS hz_b1 hk_b1 (Or.inr (by decide)) hn_b1 h_a1 ⟨by decide, by decide⟩ h48 (rg_s30 ⟨by decide, by decide⟩) (jl := 0) (jh := 1999999) ⟨by decide, by decide⟩ rfl dX12_grows_112 (fun H locs M61 hS k59 f60 => ?_)
        exact tw_endv hx hb hr hlocks hK hT hS hQ (trivial) dX12_grows_113
  · have q62 : ¬ a2.toInt = 0 := ti_ne c6
    have h63 : iv 1 1 a2 := ⟨by have := (h_a2).1; have := ((iv_c (c := 0) (n := 0) (by decide))).1; have := ((iv_c (c := 0) (n := 0) (by decide))).2; omega, by have := (h_a2).2; have := ((iv_c (c := 0) (n := 0) (by decide))).1; have := ((iv_c (c := 0) (n := 0) (by decide))).2; omega⟩
    refine lv_aload_n hx hb dX12_grows_11 rfl (lv_at hl 1 rfl) ?_
    refine tw_getr hx hb hW hown hK hS f_X12_57_11 hz_a0 hk_a0 (t := 14) (n := 10) rfl dX12_grows_12 (fun b64 k65 hz_b64 hk_b64 hn_b64 => ?_)
    have hn_b64 := hn_b64 (by decide)
    refine lv_iload_n hx hb dX12_grows_15 rfl (lv_at hl 2 rfl) ?_
    refine lv_dup2_11 hx hb dX12_grows_16 rfl rfl ?_
    refine tw_iald hx hb hK hS hz_b64 hk_b64 (Or.inl rfl) hn_b64 (lo := (-2147483648)) (hi := 2147483647) h_a1 ⟨by decide, by decide⟩ rg_u14 dX12_grows_17 (fun x68 k67 h66 => ?_)
    refine lv_iconst (v := 1) hx hb dX12_grows_18 (by decide) ?_
    refine lv_iadd hx hb dX12_grows_19 ?_
    refine tw_top (fun x70 => ?_)
    have h69 := iv_any x70
    refine tw_iast hx hb hK hS hz_b64 hk_b64 (Or.inl rfl) hn_b64 h_a1 ⟨by decide, by decide⟩ h69 (rg_s14 ⟨by decide, by decide⟩) (jl := 0) (jh := 1999999) ⟨by decide, by decide⟩ rfl dX12_grows_20 (fun H locs M73 hS k71 f72 => ?_)
    refine lv_aload_n hx hb dX12_grows_21 rfl (lv_at hl 1 rfl) ?_
    refine tw_getrk hx hb hW hown hK hS f_X12_51_11 hz_a0 hk_a0 (b := b1) k2 dX12_grows_22 ?_
    refine lv_iload_n hx hb dX12_grows_25 rfl (lv_at hl 2 rfl) ?_
    refine lv_aload_n hx hb dX12_grows_26 rfl (lv_at hl 1 rfl) ?_
    refine tw_getr hx hb hW hown hK hS f_X12_45_11 hz_a0 hk_a0 (t := 23) (n := 226) rfl dX12_grows_27 (fun b74 k75 hz_b74 hk_b74 hn_b74 => ?_)
    have hn_b74 := hn_b74 (by decide)
    refine lv_bipush (v := 7) hx hb dX12_grows_30 (by decide) ?_
    refine tw_iald hx hb hK hS hz_b74 hk_b74 (Or.inr (by decide)) hn_b74 (lo := (-2147483648)) (hi := 2147483647) (iv_c (c := 7) (n := 7) (by decide)) ⟨by decide, by decide⟩ (rg_c (k0 := 7) rfl rfl rfl) dX12_grows_32 (fun x78 k77 h76 => ?_)
    refine lv_iconst (v := 2) hx hb dX12_grows_33 (by decide) ?_
    refine lv_icmp_ne (tgt := 48) hx hb dX12_grows_34 (by decide) (fun c79 => ?_) (fun c79 => ?_)
    · have q80 : ¬ x78.toInt = 2 := ti_ne c79
      refine lv_iconst (v := 1) hx hb dX12_grows_48 (by decide) ?_
      refine tw_iast hx hb hK hS hz_b1 hk_b1 (Or.inr (by decide)) hn_b1 h_a1 ⟨by decide, by decide⟩ (iv_c (c := 1) (n := 1) (by decide)) (rg_s30 ⟨by decide, by decide⟩) (jl := 0) (jh := 1999999) ⟨by decide, by decide⟩ rfl dX12_grows_49 (fun H locs M83 hS k81 f82 => ?_)
      exact tw_endv hx hb hr hlocks hK hT hS hQ (trivial) dX12_grows_50
    · have q84 : x78.toInt = 2 := ti_eq c79
      have h85 : iv 2 2 x78 := ⟨by have := (h76).1; have := ((iv_c (c := 2) (n := 2) (by decide))).1; omega, by have := (h76).2; have := ((iv_c (c := 2) (n := 2) (by decide))).2; omega⟩
      refine lv_iload_n hx hb dX12_grows_37 rfl (lv_at hl 0 rfl) ?_
      refine lv_iconst (v := 3) hx hb dX12_grows_38 (by decide) ?_
      refine lv_icmp_le (tgt := 48) hx hb dX12_grows_39 (by decide) (fun c86 => ?_) (fun c86 => ?_)
      · have q87 : x5.toInt ≤ 3 := ti_le c86
        have h88 : iv 0 3 x5 := iv_leL (y := 3) h3 (iv_c (c := 3) (n := 3) (by decide)) q87 (by decide)
        refine lv_iconst (v := 1) hx hb dX12_grows_48 (by decide) ?_
        refine tw_iast hx hb hK hS hz_b1 hk_b1 (Or.inr (by decide)) hn_b1 h_a1 ⟨by decide, by decide⟩ (iv_c (c := 1) (n := 1) (by decide)) (rg_s30 ⟨by decide, by decide⟩) (jl := 0) (jh := 1999999) ⟨by decide, by decide⟩ rfl dX12_grows_49 (fun H locs M91 hS k89 f90 => ?_)
        exact tw_endv hx hb hr hlocks hK hT hS hQ (trivial) dX12_grows_50
      · have q92 : 3 < x5.toInt := ti_nle c86
        have h93 : iv 4 9999 x5 := iv_gtL (y := 3) h3 (iv_c (c := 3) (n := 3) (by decide)) q92 (by decide)
        refine lv_iload_n hx hb dX12_grows_42 rfl (lv_at hl 0 rfl) ?_
        refine lv_iconst (v := 2) hx hb dX12_grows_43 (by decide) ?_
        refine tw_idiv (lo := 0) (hi := 4999) hx hb h93 (iv_c (c := 2) (n := 2) (by decide)) ⟨by decide, by decide⟩ ⟨by decide, by decide⟩ dX12_grows_44 (fun x96 e95 h94 => ?_)
        have e95 : x96.toInt = x5.toInt / 2 := e95
        refine lv_goto (tgt := 49) hx hb dX12_grows_45 (by decide) ?_
        refine tw_iast hx hb hK hS hz_b1 hk_b1 (Or.inr (by decide)) hn_b1 h_a1 ⟨by decide, by decide⟩ h94 (rg_s30 ⟨by decide, by decide⟩) (jl := 0) (jh := 1999999) ⟨by decide, by decide⟩ rfl dX12_grows_49 (fun H locs M99 hS k97 f98 => ?_)
        exact tw_endv hx hb hr hlocks hK hT hS hQ (trivial) dX12_grows_50
def Lt_X12_voicesOf : WL := []
def LRt_X12_voicesOf : WL := []
set_option maxRecDepth 100000 in
set_option maxHeartbeats 4000000 in
theorem t_X12_voicesOf (l : Launch) (D : va_G) (cy : Nat → ClassId) (tx : (Nat → Nat) × (Nat → Nat)) (base Z : Nat) (K N : Nat → Nat) (Ma : MT) (Ra : RT) (Ja : JT) (hTy : Ty Z K N Ma Ra) (a0 : Nat) (hz_a0 : a0 < Z) (hk_a0 : K a0 = 12) (a1 : Int32) (h_a1 : iv (-2147483648) 2147483647 a1) (sd : Nat) (k_sd : Ra a0 25 = some sd) (e0 : Int32) (k_e0 : Ma sd (0 : Int32).toNatClampNeg = e0) (h_e0 : iv 0 10 e0) : Met l yX12_voicesOf [Cond.code yX12_voicesOf cX12_voicesOf 4 (some .int)] (md_rm 2 0 0) (va_Pc [.ref (base + a0), .int a1] (md_U D cy tx base Z K N Ma Ra Ja)) (mQi D cy tx base (fun r u => TP Z K N Lt_X12_voicesOf LRt_X12_voicesOf Ma Ra u ∧ (iv 0 99990 r ∧ (r.toInt ≤ 9999 * e0.toInt)))) 0 0 (fun q => base ≤ q) := by
  refine tw_ofW (L := Lt_X12_voicesOf) (LR := LRt_X12_voicesOf) (by decide) (Nat.le_of_ble_eq_true rfl) hTy ?_
  intro p e s m args below meth c Q ls hx hb hr hlocks hown hml hW hK hT hS hQ hl
  have hl : lv_has ls 4 [(0, .ref (base + a0)), (1, .int a1)] := hl
  obtain ⟨hz_sd, hk_sd, hn_sd⟩ := hTy.refn hz_a0 hk_a0 (show rtR 12 25 = (23, 226, 0) from rfl) k_sd
  have hn_sd := hn_sd (by decide)
  refine lv_iconst (v := 0) hx hb dX12_voicesOf_0 (by decide) ?_
  refine lv_istore_n (lv' := [(2, .int 0), (0, .ref (base + a0)), (1, .int a1)]) hx hb dX12_voicesOf_1 rfl hl (by decide) rfl (fun ls hl => ?_)
  refine lv_iconst (v := 0) hx hb dX12_voicesOf_2 (by decide) ?_
  refine lv_istore_n (lv' := [(3, .int 0), (2, .int 0), (0, .ref (base + a0)), (1, .int a1)]) hx hb dX12_voicesOf_3 rfl hl (by decide) rfl (fun ls hl => ?_)
  have W4_3 : ∀ (n_3 : Nat) (x1 : Int32) (x2 : Int32) (M3 : MT) (R4 : RT) (J5 : JT) (H : Heap) (locs : List Loc) (ls : Array Slot) (h_x1 : iv 0 99990 x1) (h_x2 : iv 0 10 x2) (w0_3 : x2.toInt ≤ e0.toInt) (w1_3 : 0 ≤ x1.toInt ∧ x1.toInt ≤ 9999 * x2.toInt) (hm_3 : 10 - x2.toInt < (n_3 : Int)) (hS : SB D cy base Z K N Lt_X12_voicesOf LRt_X12_voicesOf Ma Ra M3 R4 J5 s H locs) (hl : lv_has ls 4 [(2, .int x1), (3, .int x2), (0, .ref (base + a0)), (1, .int a1)]), W p l e (md_rm 2 0 0) s m args below meth c H locs 0 0 Q (F0 m 4 ls []) := by
    intro n_3
    induction n_3 with
    | zero =>
      intro x1 x2 M3 R4 J5 H locs ls h_x1 h_x2 w0_3 w1_3 hm_3 hS hl
      exfalso
      have := (h_a1).1; have := (h_a1).2; have := (h_e0).1; have := (h_e0).2; have := (h_x1).1; have := (h_x1).2; have := (h_x2).1; have := (h_x2).2; omega
    | succ n_3 ih_3 =>
      intro x1 x2 M3 R4 J5 H locs ls h_x1 h_x2 w0_3 w1_3 hm_3 hS hl
      have f6 := hS.2.2.1
      have g7 := hS.2.2.2
      refine lv_iload_n hx hb dX12_voicesOf_4 rfl (lv_at hl 1 rfl) ?_
      refine lv_aload_n hx hb dX12_voicesOf_5 rfl (lv_at hl 2 rfl) ?_
      have k8 : R4 a0 25 = some sd := (Fr.kp (k := 25) g7 hk_a0 rfl).trans k_sd
      refine tw_getrk hx hb hW hown hK hS f_X12_45_11 hz_a0 hk_a0 (b := sd) k8 dX12_voicesOf_6 ?_
      refine lv_iconst (v := 0) hx hb dX12_voicesOf_9 (by decide) ?_
      have k9 : M3 sd (0 : Int32).toNatClampNeg = e0 := (Fr.kp (k := (0 : Int32).toNatClampNeg) f6 hk_sd rfl).trans k_e0
      refine tw_ialk hx hb hK hS hz_sd hk_sd (Or.inr (by decide)) hn_sd (iv_c (c := 0) (n := 0) (by decide)) ⟨by decide, by decide⟩ (v := e0) k9 dX12_voicesOf_10 ?_
      refine lv_icmp_ge (tgt := 41) hx hb dX12_voicesOf_11 (by decide) (fun c10 => ?_) (fun c10 => ?_)
      · have q11 : e0.toInt ≤ x2.toInt := ti_le c10
        refine lv_iload_n hx hb dX12_voicesOf_41 rfl (lv_at hl 0 rfl) ?_
        have q12 : x1.toInt ≤ 9999 * e0.toInt := by
          have := (h_a1).1; have := (h_a1).2; have := (h_e0).1; have := (h_e0).2; have := (h_x1).1; have := (h_x1).2; have := (h_x2).1; have := (h_x2).2; omega
        exact tw_endi hx hb hr hlocks hK hT hS hQ (⟨h_x1, q12⟩) dX12_voicesOf_42
      · have q13 : x2.toInt < e0.toInt := ti_nle c10
        have h14 : iv 0 9 x2 := iv_ltL (y := e0) h_x2 h_e0 q13 (by decide)
        have h15 : iv 1 10 e0 := iv_gtL (y := x2) h_e0 h_x2 q13 (by decide)
        refine lv_iload_n hx hb dX12_voicesOf_14 rfl (lv_at hl 0 rfl) ?_
        refine lv_iload_n hx hb dX12_voicesOf_15 rfl (lv_at hl 3 rfl) ?_
        refine lv_iload_n hx hb dX12_voicesOf_16 rfl (lv_at hl 1 rfl) ?_
        refine tw_goi hS (md_runS (As := [.int a1, .int x2]) (rest := [.int x1]) hx hb hml hown hW hK hT hS.1 (t_X12_isOf l D cy tx base Z K N M3 R4 J5 hS.2.1 a1 h_a1 x2 h14) s_X12_322 ⟨rfl, rfl, ⟨Nat.le_of_ble_eq_true rfl, Nat.le_of_ble_eq_true rfl⟩, ⟨Nat.le_of_ble_eq_true rfl, Nat.le_of_ble_eq_true rfl⟩⟩ rfl hl.1 rfl (Nat.le_of_ble_eq_true rfl) dX12_voicesOf_17) rfl rfl (fun x22 H locs M18 R19 J20 hS f16 g17 E21 => ?_)
        have h_x22 := E21
        refine lv_if_eq (tgt := 32) hx hb dX12_voicesOf_20 (by decide) (fun c23 => ?_) (fun c23 => ?_)
        · have q24 : x22.toInt = 0 := ti_eq c23
          have h25 : iv 0 0 x22 := ⟨by have := (h_x22).1; have := ((iv_c (c := 0) (n := 0) (by decide))).1; omega, by have := (h_x22).2; have := ((iv_c (c := 0) (n := 0) (by decide))).2; omega⟩
          refine lv_iconst (v := 0) hx hb dX12_voicesOf_32 (by decide) ?_
          refine tw_iadd (lo := 0) (hi := 99990) hx hb h_x1 (iv_c (c := 0) (n := 0) (by decide)) ⟨by decide, by decide⟩ ⟨by decide, by decide⟩ dX12_voicesOf_33 (fun x28 e27 h26 => ?_)
          have e27 : x28.toInt = x1.toInt + 0 := e27
          refine lv_istore_n (lv' := [(2, .int x28), (3, .int x2), (0, .ref (base + a0)), (1, .int a1)]) hx hb dX12_voicesOf_34 rfl hl (by decide) rfl (fun ls hl => ?_)
          refine tw_iinc (lv' := fun x31 => [(3, .int x31), (2, .int x28), (0, .ref (base + a0)), (1, .int a1)]) (lo := 1) (hi := 10) hx hb dX12_voicesOf_35 hl (k := 1) rfl h14 (by decide) ⟨by decide, by decide⟩ ⟨by decide, by decide⟩ (by decide) (fun _ => rfl) (fun x31 ls e30 h29 hl => ?_)
          refine lv_goto (tgt := 4) hx hb dX12_voicesOf_38 (by decide) ?_
          have w32 : x31.toInt ≤ e0.toInt := by
            have := (h_a1).1; have := (h_a1).2; have := (h15).1; have := (h15).2; have := (h_x1).1; have := (h_x1).2; have := (h14).1; have := (h14).2; have := (h26).1; have := (h26).2; have := (h29).1; have := (h29).2; omega
          have w33 : 0 ≤ x28.toInt ∧ x28.toInt ≤ 9999 * x31.toInt := by
            have := (h_a1).1; have := (h_a1).2; have := (h15).1; have := (h15).2; have := (h_x1).1; have := (h_x1).2; have := (h14).1; have := (h14).2; have := (h26).1; have := (h26).2; have := (h29).1; have := (h29).2; omega
          have hm34 : 10 - x31.toInt < (n_3 : Int) := by
            have := (h_a1).1; have := (h_a1).2; have := (h15).1; have := (h15).2; have := (h_x1).1; have := (h_x1).2; have := (h14).1; have := (h14).2; have := (h26).1; have := (h26).2; have := (h29).1; have := (h29).2; omega
          exact ih_3 x28 x31 M18 R19 J20 H locs _ h26 (iv_mono h29 (by decide) (by decide)) w32 w33 hm34 hS (lv_sub hl [1, 0, 2, 3] rfl)
        · have q35 : ¬ x22.toInt = 0 := ti_ne c23
          have h36 : iv 1 1 x22 := ⟨by have := (h_x22).1; have := ((iv_c (c := 0) (n := 0) (by decide))).1; have := ((iv_c (c := 0) (n := 0) (by decide))).2; omega, by have := (h_x22).2; have := ((iv_c (c := 0) (n := 0) (by decide))).1; have := ((iv_c (c := 0) (n := 0) (by decide))).2; omega⟩
          refine lv_aload_n hx hb dX12_voicesOf_23 rfl (lv_at hl 2 rfl) ?_
          refine tw_getr hx hb hW hown hK hS f_X12_51_11 hz_a0 hk_a0 (t := 30) (n := 10) rfl dX12_voicesOf_24 (fun b37 k38 hz_b37 hk_b37 hn_b37 => ?_)
          have hn_b37 := hn_b37 (by decide)
          refine lv_iload_n hx hb dX12_voicesOf_27 rfl (lv_at hl 1 rfl) ?_
          refine tw_iald hx hb hK hS hz_b37 hk_b37 (Or.inr (by decide)) hn_b37 (lo := 0) (hi := 9999) h14 ⟨by decide, by decide⟩ rg_u30 dX12_voicesOf_28 (fun x41 k40 h39 => ?_)
          refine lv_goto (tgt := 33) hx hb dX12_voicesOf_29 (by decide) ?_
          refine tw_iadd (lo := 0) (hi := 109989) hx hb h_x1 h39 ⟨by decide, by decide⟩ ⟨by decide, by decide⟩ dX12_voicesOf_33 (fun x44 e43 h42 => ?_)
          refine lv_istore_n (lv' := [(2, .int x44), (3, .int x2), (0, .ref (base + a0)), (1, .int a1)]) hx hb dX12_voicesOf_34 rfl hl (by decide) rfl (fun ls hl => ?_)
          refine tw_iinc (lv' := fun x47 => [(3, .int x47), (2, .int x44), (0, .ref (base + a0)), (1, .int a1)]) (lo := 1) (hi := 10) hx hb dX12_voicesOf_35 hl (k := 1) rfl h14 (by decide) ⟨by decide, by decide⟩ ⟨by decide, by decide⟩ (by decide) (fun _ => rfl) (fun x47 ls e46 h45 hl => ?_)
          refine lv_goto (tgt := 4) hx hb dX12_voicesOf_38 (by decide) ?_
          have h48 : iv 0 99990 x44 := by
            have := (h_a1).1; have := (h_a1).2; have := (h15).1; have := (h15).2; have := (h_x1).1; have := (h_x1).2; have := (h14).1; have := (h14).2; have := (h39).1; have := (h39).2; have := (h42).1; have := (h42).2; have := (h45).1; have := (h45).2; exact ⟨by omega, by omega⟩
          have w49 : x47.toInt ≤ e0.toInt := by
            have := (h_a1).1; have := (h_a1).2; have := (h15).1; have := (h15).2; have := (h_x1).1; have := (h_x1).2; have := (h14).1; have := (h14).2; have := (h42).1; have := (h42).2; have := (h45).1; have := (h45).2; omega
          have w50 : 0 ≤ x44.toInt ∧ x44.toInt ≤ 9999 * x47.toInt := by
            have := (h_a1).1; have := (h_a1).2; have := (h15).1; have := (h15).2; have := (h_x1).1; have := (h_x1).2; have := (h14).1; have := (h14).2; have := (h39).1; have := (h39).2; have := (h42).1; have := (h42).2; have := (h45).1; have := (h45).2; omega
          have hm51 : 10 - x47.toInt < (n_3 : Int) := by
            have := (h_a1).1; have := (h_a1).2; have := (h15).1; have := (h15).2; have := (h_x1).1; have := (h_x1).2; have := (h14).1; have := (h14).2; have := (h42).1; have := (h42).2; have := (h45).1; have := (h45).2; omega
          exact ih_3 x44 x47 M18 R19 J20 H locs _ h48 (iv_mono h45 (by decide) (by decide)) w49 w50 hm51 hS (lv_sub hl [1, 0, 2, 3] rfl)
  have w52 : (0 : Int32).toInt ≤ e0.toInt := by
    have := (h_a1).1; have := (h_a1).2; have := (h_e0).1; have := (h_e0).2; have : (0 : Int32).toInt = 0 := (by decide); omega
  have w53 : 0 ≤ (0 : Int32).toInt ∧ (0 : Int32).toInt ≤ 9999 * (0 : Int32).toInt := by
    have := (h_a1).1; have := (h_a1).2; have := (h_e0).1; have := (h_e0).2; have : (0 : Int32).toInt = 0 := (by decide); omega
  have hm54 : 10 - (0 : Int32).toInt < (((11 : Nat) : Int) : Int) := by
    have := (h_a1).1; have := (h_a1).2; have := (h_e0).1; have := (h_e0).2; have : (0 : Int32).toInt = 0 := (by decide); omega
  exact W4_3 11 0 0 Ma Ra Ja s.heap [] _ (iv_mono (iv_c (c := 0) (n := 0) (by decide)) (by decide) (by decide)) (iv_mono (iv_c (c := 0) (n := 0) (by decide)) (by decide) (by decide)) w52 w53 hm54 hS (lv_sub hl [1, 0, 2, 3] rfl)
def Lt_X12_result : WL := []
def LRt_X12_result : WL := []
set_option maxRecDepth 100000 in
set_option maxHeartbeats 4000000 in
theorem t_X12_result (l : Launch) (D : va_G) (cy : Nat → ClassId) (tx : (Nat → Nat) × (Nat → Nat)) (base Z : Nat) (K N : Nat → Nat) (Ma : MT) (Ra : RT) (Ja : JT) (hTy : Ty Z K N Ma Ra) (a0 : Nat) (hz_a0 : a0 < Z) (hk_a0 : K a0 = 12) : Met l yX12_result [Cond.code yX12_result cX12_result 3 (some .int)] (md_rm 3 0 0) (va_Pc [.ref (base + a0)] (md_U D cy tx base Z K N Ma Ra Ja)) (mQi D cy tx base (fun r u => TP Z K N Lt_X12_result LRt_X12_result Ma Ra u ∧ (iv 0 2 r))) 0 0 (fun q => base ≤ q) := by
  refine tw_ofW (L := Lt_X12_result) (LR := LRt_X12_result) (by decide) (Nat.le_of_ble_eq_true rfl) hTy ?_
  intro p e s m args below meth c Q ls hx hb hr hlocks hown hml hW hK hT hS hQ hl
  have hl : lv_has ls 3 [(0, .ref (base + a0))] := hl
  refine lv_aload_n hx hb dX12_result_0 rfl (lv_at hl 0 rfl) ?_
  refine lv_aload_n hx hb dX12_result_1 rfl (lv_at hl 0 rfl) ?_
  refine tw_geti hx hb hW hown hK hS f_X12_364_11 hz_a0 hk_a0 (lo := (-2147483648)) (hi := 2147483647) rfl dX12_result_2 (fun x3 k2 h1 => ?_)
  obtain ⟨b4, k5, hz_b4, hk_b4, hn_b4⟩ := hS.2.1.ref hz_a0 hk_a0 (show rtR 12 25 = (23, 226, 0) from rfl)
  have hn_b4 := hn_b4 (by decide)
  obtain ⟨x8, k6⟩ : ∃ x, Ma b4 (0 : Int32).toNatClampNeg = x := ⟨_, rfl⟩
  have h7 : iv 0 10 x8 := by rw [← k6]; exact hS.2.1.int hz_b4 hk_b4 (show rgI 23 (0 : Int32).toNatClampNeg = (0, 10) from rfl)
  refine tw_goi hS (md_runV (As := [.int x3]) (rest := []) hx hb hml hown hW hK hT hS.1 (t_X12_voicesOf l D cy tx base Z K N Ma Ra Ja hS.2.1 a0 hz_a0 hk_a0 x3 h1 b4 k5 x8 k6 (iv_mono h7 (by decide) (by decide))) s_X12_380 ⟨rfl, rfl, ⟨Nat.le_of_ble_eq_true rfl, Nat.le_of_ble_eq_true rfl⟩, ⟨Nat.le_of_ble_eq_true rfl, Nat.le_of_ble_eq_true rfl⟩⟩ hz_a0 hk_a0 (by decide) rfl rfl hl.1 rfl (Nat.le_of_ble_eq_true rfl) dX12_result_5) rfl rfl (fun x15 H locs M11 R12 J13 hS f9 g10 E14 => ?_)
  obtain ⟨h_x15, p16⟩ := E14
  refine lv_istore_n (lv' := [(1, .int x15), (0, .ref (base + a0))]) hx hb dX12_result_8 rfl hl (by decide) rfl (fun ls hl => ?_)
  refine lv_aload_n hx hb dX12_result_9 rfl (lv_at hl 1 rfl) ?_
  refine lv_aload_n hx hb dX12_result_10 rfl (lv_at hl 1 rfl) ?_
  refine tw_geti hx hb hW hown hK hS f_X12_367_11 hz_a0 hk_a0 (lo := (-2147483648)) (hi := 2147483647) rfl dX12_result_11 (fun x19 k18 h17 => ?_)
  have k20 : R12 a0 25 = some b4 := (Fr.kp (k := 25) g10 hk_a0 rfl).trans k5
  have k21 : M11 b4 (0 : Int32).toNatClampNeg = x8 := (Fr.kp (k := (0 : Int32).toNatClampNeg) f9 hk_b4 rfl).trans k6
  refine tw_goi hS (md_runV (As := [.int x19]) (rest := []) hx hb hml hown hW hK hT hS.1 (t_X12_voicesOf l D cy tx base Z K N M11 R12 J13 hS.2.1 a0 hz_a0 hk_a0 x19 h17 b4 k20 x8 k21 (iv_mono h7 (by decide) (by decide))) s_X12_380 ⟨rfl, rfl, ⟨Nat.le_of_ble_eq_true rfl, Nat.le_of_ble_eq_true rfl⟩, ⟨Nat.le_of_ble_eq_true rfl, Nat.le_of_ble_eq_true rfl⟩⟩ hz_a0 hk_a0 (by decide) rfl rfl hl.1 rfl (Nat.le_of_ble_eq_true rfl) dX12_result_14) rfl rfl (fun x28 H locs M24 R25 J26 hS f22 g23 E27 => ?_)
  obtain ⟨h_x28, p29⟩ := E27
  refine lv_istore_n (lv' := [(2, .int x28), (1, .int x15), (0, .ref (base + a0))]) hx hb dX12_result_17 rfl hl (by decide) rfl (fun ls hl => ?_)
  refine lv_iload_n hx hb dX12_result_18 rfl (lv_at hl 1 rfl) ?_
  refine lv_iload_n hx hb dX12_result_19 rfl (lv_at hl 0 rfl) ?_
  refine lv_icmp_le (tgt := 27) hx hb dX12_result_20 (by decide) (fun c30 => ?_) (fun c30 => ?_)
  · have q31 : x15.toInt ≤ x28.toInt := ti_le c30
    refine lv_iload_n hx hb dX12_result_27 rfl (lv_at hl 1 rfl) ?_
    refine lv_iload_n hx hb dX12_result_28 rfl (lv_at hl 0 rfl) ?_
    refine lv_icmp_ge (tgt := 36) hx hb dX12_result_29 (by decide) (fun c32 => ?_) (fun c32 => ?_)
    · have q33 : x28.toInt ≤ x15.toInt := ti_le c32
      refine lv_iconst (v := 2) hx hb dX12_result_36 (by decide) ?_
      exact tw_endi hx hb hr hlocks hK hT hS hQ ((iv_mono (iv_c (c := 2) (n := 2) (by decide)) (by decide) (by decide))) dX12_result_37
    · have q34 : x15.toInt < x28.toInt := ti_nle c32
      have h35 : iv 0 99989 x15 := iv_ltL (y := x28) h_x15 h_x28 q34 (by decide)
      have h36 : iv 1 99990 x28 := iv_gtL (y := x15) h_x28 h_x15 q34 (by decide)
      refine lv_iconst (v := 0) hx hb dX12_result_32 (by decide) ?_
      refine lv_goto (tgt := 37) hx hb dX12_result_33 (by decide) ?_
      exact tw_endi hx hb hr hlocks hK hT hS hQ ((iv_mono (iv_c (c := 0) (n := 0) (by decide)) (by decide) (by decide))) dX12_result_37
  · have q37 : x28.toInt < x15.toInt := ti_nle c30
    have h38 : iv 1 99990 x15 := iv_gtL (y := x28) h_x15 h_x28 q37 (by decide)
    have h39 : iv 0 99989 x28 := iv_ltL (y := x15) h_x28 h_x15 q37 (by decide)
    refine lv_iconst (v := 1) hx hb dX12_result_23 (by decide) ?_
    refine lv_goto (tgt := 37) hx hb dX12_result_24 (by decide) ?_
    exact tw_endi hx hb hr hlocks hK hT hS hQ ((iv_mono (iv_c (c := 1) (n := 1) (by decide)) (by decide) (by decide))) dX12_result_37
def Lt_X12_settles_ : WL := [(12, 28, 29), (14, 0, 2000000), (30, 0, 2000000)]
def LRt_X12_settles_ : WL := []
set_option maxRecDepth 100000 in
set_option maxHeartbeats 4000000 in
theorem t_X12_settles_ (l : Launch) (D : va_G) (cy : Nat → ClassId) (tx : (Nat → Nat) × (Nat → Nat)) (base Z : Nat) (K N : Nat → Nat) (Ma : MT) (Ra : RT) (Ja : JT) (hTy : Ty Z K N Ma Ra) (a0 : Nat) (hz_a0 : a0 < Z) (hk_a0 : K a0 = 12) : Met l yX12_settles_ [Cond.code yX12_settles_ cX12_settles_ 3 (some .int)] (md_rm 4 0 0) (va_Pc [.ref (base + a0)] (md_U D cy tx base Z K N Ma Ra Ja)) (mQi D cy tx base (fun r u => TP Z K N Lt_X12_settles_ LRt_X12_settles_ Ma Ra u ∧ (iv 0 2 r))) 0 0 (fun q => base ≤ q) := by
  refine tw_ofW (L := Lt_X12_settles_) (LR := LRt_X12_settles_) (by decide) (Nat.le_of_ble_eq_true rfl) hTy ?_
  intro p e s m args below meth c Q ls hx hb hr hlocks hown hml hW hK hT hS hQ hl
  have hl : lv_has ls 3 [(0, .ref (base + a0))] := hl
  refine lv_aload_n hx hb dX12_settles__0 rfl (lv_at hl 0 rfl) ?_
  refine tw_goi hS (md_runV (As := []) (rest := []) hx hb hml hown hW hK hT hS.1 (t_X12_result l D cy tx base Z K N Ma Ra Ja hS.2.1 a0 hz_a0 hk_a0) s_X12_383 ⟨rfl, rfl, ⟨Nat.le_of_ble_eq_true rfl, Nat.le_of_ble_eq_true rfl⟩, ⟨Nat.le_of_ble_eq_true rfl, Nat.le_of_ble_eq_true rfl⟩⟩ hz_a0 hk_a0 (by decide) rfl rfl hl.1 rfl (Nat.le_of_ble_eq_true rfl) dX12_settles__1) rfl rfl (fun x7 H locs M3 R4 J5 hS f1 g2 E6 => ?_)
  have h_x7 := E6
  refine lv_istore_n (lv' := [(1, .int x7), (0, .ref (base + a0))]) hx hb dX12_settles__4 rfl hl (by decide) rfl (fun ls hl => ?_)
  refine lv_iconst (v := 0) hx hb dX12_settles__5 (by decide) ?_
  refine lv_istore_n (lv' := [(2, .int 0), (1, .int x7), (0, .ref (base + a0))]) hx hb dX12_settles__6 rfl hl (by decide) rfl (fun ls hl => ?_)
  have W7_9 : ∀ (n_9 : Nat) (x8 : Int32) (M9 : MT) (R10 : RT) (J11 : JT) (H : Heap) (locs : List Loc) (ls : Array Slot) (h_x8 : iv 0 10 x8) (hm_9 : 10 - x8.toInt < (n_9 : Int)) (hS : SB D cy base Z K N Lt_X12_settles_ LRt_X12_settles_ Ma Ra M9 R10 J11 s H locs) (hl : lv_has ls 3 [(2, .int x8), (1, .int x7), (0, .ref (base + a0))]), W p l e (md_rm 4 0 0) s m args below meth c H locs 0 0 Q (F0 m 7 ls []) := by
    intro n_9
    induction n_9 with
    | zero =>
      intro x8 M9 R10 J11 H locs ls h_x8 hm_9 hS hl
      exfalso
      have := (h_x8).1; have := (h_x8).2; omega
    | succ n_9 ih_9 =>
      intro x8 M9 R10 J11 H locs ls h_x8 hm_9 hS hl
      have f12 := hS.2.2.1
      have g13 := hS.2.2.2
      refine lv_iload_n hx hb dX12_settles__7 rfl (lv_at hl 0 rfl) ?_
      refine lv_aload_n hx hb dX12_settles__8 rfl (lv_at hl 2 rfl) ?_
      refine tw_getr hx hb hW hown hK hS f_X12_45_11 hz_a0 hk_a0 (t := 23) (n := 226) rfl dX12_settles__9 (fun b14 k15 hz_b14 hk_b14 hn_b14 => ?_)
      have hn_b14 := hn_b14 (by decide)
      refine lv_iconst (v := 0) hx hb dX12_settles__12 (by decide) ?_
      refine tw_iald hx hb hK hS hz_b14 hk_b14 (Or.inr (by decide)) hn_b14 (lo := 0) (hi := 10) (iv_c (c := 0) (n := 0) (by decide)) ⟨by decide, by decide⟩ (rg_c (k0 := 0) rfl rfl rfl) dX12_settles__13 (fun x18 k17 h16 => ?_)
      refine lv_icmp_ge (tgt := 74) hx hb dX12_settles__14 (by decide) (fun c19 => ?_) (fun c19 => ?_)
      · have q20 : x18.toInt ≤ x8.toInt := ti_le c19
        refine lv_aload_n hx hb dX12_settles__74 rfl (lv_at hl 2 rfl) ?_
        refine lv_dup hx hb dX12_settles__75 rfl ?_
        refine tw_geti hx hb hW hown hK hS f_X12_348_11 hz_a0 hk_a0 (lo := (-2147483648)) (hi := 2147483647) rfl dX12_settles__76 (fun x23 k22 h21 => ?_)
        refine lv_iconst (v := 1) hx hb dX12_settles__79 (by decide) ?_
        refine lv_iadd hx hb dX12_settles__80 ?_
        refine tw_top (fun x25 => ?_)
        have h24 := iv_any x25
        refine tw_puti hx hb hW hown hK hS f_X12_348_11 hz_a0 hk_a0 rfl rfl (lo := (-2147483648)) (hi := 2147483647) rfl h24 rfl dX12_settles__81 (fun H locs M28 hS k26 f27 => ?_)
        refine lv_iload_n hx hb dX12_settles__84 rfl (lv_at hl 1 rfl) ?_
        exact tw_endi hx hb hr hlocks hK hT hS hQ (h_x7) dX12_settles__85
      · have q29 : x8.toInt < x18.toInt := ti_nle c19
        have h30 : iv 0 9 x8 := iv_ltL (y := x18) h_x8 h16 q29 (by decide)
        have h31 : iv 1 10 x18 := iv_gtL (y := x8) h16 h_x8 q29 (by decide)
        refine lv_aload_n hx hb dX12_settles__17 rfl (lv_at hl 2 rfl) ?_
        refine tw_geti hx hb hW hown hK hS f_X12_364_11 hz_a0 hk_a0 (lo := (-2147483648)) (hi := 2147483647) rfl dX12_settles__18 (fun x34 k33 h32 => ?_)
        refine lv_iload_n hx hb dX12_settles__21 rfl (lv_at hl 0 rfl) ?_
        refine tw_goi hS (md_runS (As := [.int x34, .int x8]) (rest := []) hx hb hml hown hW hK hT hS.1 (t_X12_isOf l D cy tx base Z K N M9 R10 J11 hS.2.1 x34 h32 x8 h30) s_X12_322 ⟨rfl, rfl, ⟨Nat.le_of_ble_eq_true rfl, Nat.le_of_ble_eq_true rfl⟩, ⟨Nat.le_of_ble_eq_true rfl, Nat.le_of_ble_eq_true rfl⟩⟩ rfl hl.1 rfl (Nat.le_of_ble_eq_true rfl) dX12_settles__22) rfl rfl (fun x41 H locs M37 R38 J39 hS f35 g36 E40 => ?_)
        have h_x41 := E40
        have J43_42 : ∀  (M42 : MT) (R43 : RT) (J44 : JT) (H : Heap) (locs : List Loc) (ls : Array Slot) (hS : SB D cy base Z K N Lt_X12_settles_ LRt_X12_settles_ Ma Ra M42 R43 J44 s H locs) (hl : lv_has ls 3 [(2, .int x8), (1, .int x7), (0, .ref (base + a0))]), W p l e (md_rm 4 0 0) s m args below meth c H locs 0 0 Q (F0 m 43 ls []) := by
          intro  M42 R43 J44 H locs ls  hS hl
          have f45 := hS.2.2.1
          have g46 := hS.2.2.2
          refine lv_aload_n hx hb dX12_settles__43 rfl (lv_at hl 2 rfl) ?_
          refine tw_geti hx hb hW hown hK hS f_X12_367_11 hz_a0 hk_a0 (lo := (-2147483648)) (hi := 2147483647) rfl dX12_settles__44 (fun x49 k48 h47 => ?_)
          refine lv_iload_n hx hb dX12_settles__47 rfl (lv_at hl 0 rfl) ?_
          refine tw_goi hS (md_runS (As := [.int x49, .int x8]) (rest := []) hx hb hml hown hW hK hT hS.1 (t_X12_isOf l D cy tx base Z K N M42 R43 J44 hS.2.1 x49 h47 x8 h30) s_X12_322 ⟨rfl, rfl, ⟨Nat.le_of_ble_eq_true rfl, Nat.le_of_ble_eq_true rfl⟩, ⟨Nat.le_of_ble_eq_true rfl, Nat.le_of_ble_eq_true rfl⟩⟩ rfl hl.1 rfl (Nat.le_of_ble_eq_true rfl) dX12_settles__48) rfl rfl (fun x56 H locs M52 R53 J54 hS f50 g51 E55 => ?_)
          have h_x56 := E55
          refine lv_if_eq (tgt := 68) hx hb dX12_settles__51 (by decide) (fun c57 => ?_) (fun c57 => ?_)
          · have q58 : x56.toInt = 0 := ti_eq c57
            have h59 : iv 0 0 x56 := ⟨by have := (h_x56).1; have := ((iv_c (c := 0) (n := 0) (by decide))).1; omega, by have := (h_x56).2; have := ((iv_c (c := 0) (n := 0) (by decide))).2; omega⟩
            refine tw_iinc (lv' := fun x62 => [(2, .int x62), (1, .int x7), (0, .ref (base + a0))]) (lo := 1) (hi := 10) hx hb dX12_settles__68 hl (k := 0) rfl h30 (by decide) ⟨by decide, by decide⟩ ⟨by decide, by decide⟩ (by decide) (fun _ => rfl) (fun x62 ls e61 h60 hl => ?_)
            refine lv_goto (tgt := 7) hx hb dX12_settles__71 (by decide) ?_
            have hm63 : 10 - x62.toInt < (n_9 : Int) := by
              have := (h60).1; have := (h60).2; have := (h30).1; have := (h30).2; omega
            exact ih_9 x62 M52 R53 J54 H locs _ (iv_mono h60 (by decide) (by decide)) hm63 hS hl
          · have q64 : ¬ x56.toInt = 0 := ti_ne c57
            have h65 : iv 1 1 x56 := ⟨by have := (h_x56).1; have := ((iv_c (c := 0) (n := 0) (by decide))).1; have := ((iv_c (c := 0) (n := 0) (by decide))).2; omega, by have := (h_x56).2; have := ((iv_c (c := 0) (n := 0) (by decide))).1; have := ((iv_c (c := 0) (n := 0) (by decide))).2; omega⟩
            refine lv_aload_n hx hb dX12_settles__54 rfl (lv_at hl 2 rfl) ?_
            refine lv_iload_n hx hb dX12_settles__55 rfl (lv_at hl 0 rfl) ?_
            refine lv_iload_n hx hb dX12_settles__56 rfl (lv_at hl 1 rfl) ?_
            refine lv_if_ne (tgt := 64) hx hb dX12_settles__57 (by decide) (fun c66 => ?_) (fun c66 => ?_)
            · have q67 : ¬ x7.toInt = 0 := ti_ne c66
              have h68 : iv 1 2 x7 := ⟨by have := (h_x7).1; have := ((iv_c (c := 0) (n := 0) (by decide))).1; have := ((iv_c (c := 0) (n := 0) (by decide))).2; omega, by have := (h_x7).2; have := ((iv_c (c := 0) (n := 0) (by decide))).1; have := ((iv_c (c := 0) (n := 0) (by decide))).2; omega⟩
              refine lv_iconst (v := 0) hx hb dX12_settles__64 (by decide) ?_
              refine tw_gov hS (md_runV (As := [.int x8, .int 0]) (rest := []) hx hb hml hown hW hK hT hS.1 (t_X12_grows l D cy tx base Z K N M52 R53 J54 hS.2.1 a0 hz_a0 hk_a0 x8 h30 0 (iv_mono (iv_c (c := 0) (n := 0) (by decide)) (by decide) (by decide))) s_X12_386 ⟨rfl, rfl, ⟨Nat.le_of_ble_eq_true rfl, Nat.le_of_ble_eq_true rfl⟩, ⟨Nat.le_of_ble_eq_true rfl, Nat.le_of_ble_eq_true rfl⟩⟩ hz_a0 hk_a0 (by decide) rfl rfl hl.1 rfl (Nat.le_of_ble_eq_true rfl) dX12_settles__65) rfl rfl (fun H locs M71 R72 J73 hS f69 g70 E74 => ?_)
              refine tw_iinc (lv' := fun x77 => [(2, .int x77), (1, .int x7), (0, .ref (base + a0))]) (lo := 1) (hi := 10) hx hb dX12_settles__68 hl (k := 0) rfl h30 (by decide) ⟨by decide, by decide⟩ ⟨by decide, by decide⟩ (by decide) (fun _ => rfl) (fun x77 ls e76 h75 hl => ?_)
              refine lv_goto (tgt := 7) hx hb dX12_settles__71 (by decide) ?_
              have hm78 : 10 - x77.toInt < (n_9 : Int) := by
                have := (h75).1; have := (h75).2; have := (h30).1; have := (h30).2; omega
              exact ih_9 x77 M71 R72 J73 H locs _ (iv_mono h75 (by decide) (by decide)) hm78 hS hl
            · have q79 : x7.toInt = 0 := ti_eq c66
              have h80 : iv 0 0 x7 := ⟨by have := (h_x7).1; have := ((iv_c (c := 0) (n := 0) (by decide))).1; omega, by have := (h_x7).2; have := ((iv_c (c := 0) (n := 0) (by decide))).2; omega⟩
              refine lv_iconst (v := 1) hx hb dX12_settles__60 (by decide) ?_
              refine lv_goto (tgt := 65) hx hb dX12_settles__61 (by decide) ?_
              refine tw_gov hS (md_runV (As := [.int x8, .int 1]) (rest := []) hx hb hml hown hW hK hT hS.1 (t_X12_grows l D cy tx base Z K N M52 R53 J54 hS.2.1 a0 hz_a0 hk_a0 x8 h30 1 (iv_mono (iv_c (c := 1) (n := 1) (by decide)) (by decide) (by decide))) s_X12_386 ⟨rfl, rfl, ⟨Nat.le_of_ble_eq_true rfl, Nat.le_of_ble_eq_true rfl⟩, ⟨Nat.le_of_ble_eq_true rfl, Nat.le_of_ble_eq_true rfl⟩⟩ hz_a0 hk_a0 (by decide) rfl rfl hl.1 rfl (Nat.le_of_ble_eq_true rfl) dX12_settles__65) rfl rfl (fun H locs M83 R84 J85 hS f81 g82 E86 => ?_)
              refine tw_iinc (lv' := fun x89 => [(2, .int x89), (1, .int x7), (0, .ref (base + a0))]) (lo := 1) (hi := 10) hx hb dX12_settles__68 hl (k := 0) rfl h30 (by decide) ⟨by decide, by decide⟩ ⟨by decide, by decide⟩ (by decide) (fun _ => rfl) (fun x89 ls e88 h87 hl => ?_)
              refine lv_goto (tgt := 7) hx hb dX12_settles__71 (by decide) ?_
              have hm90 : 10 - x89.toInt < (n_9 : Int) := by
                have := (h30).1; have := (h30).2; have := (h87).1; have := (h87).2; omega
              exact ih_9 x89 M83 R84 J85 H locs _ (iv_mono h87 (by decide) (by decide)) hm90 hS hl
        refine lv_if_eq (tgt := 43) hx hb dX12_settles__25 (by decide) (fun c91 => ?_) (fun c91 => ?_)
        · have q92 : x41.toInt = 0 := ti_eq c91
          have h93 : iv 0 0 x41 := ⟨by have := (h_x41).1; have := ((iv_c (c := 0) (n := 0) (by decide))).1; omega, by have := (h_x41).2; have := ((iv_c (c := 0) (n := 0) (by decide))).2; omega⟩
          exact J43_42  M37 R38 J39 H locs _  hS hl
        · have q94 : ¬ x41.toInt = 0 := ti_ne c91
          have h95 : iv 1 1 x41 := ⟨by have := (h_x41).1; have := ((iv_c (c := 0) (n := 0) (by decide))).1; have := ((iv_c (c := 0) (n := 0) (by decide))).2; omega, by have := (h_x41).2; have := ((iv_c (c := 0) (n := 0) (by decide))).1; have := ((iv_c (c := 0) (n := 0) (by decide))).2; omega⟩
          refine lv_aload_n hx hb dX12_settles__28 rfl (lv_at hl 2 rfl) ?_
          refine lv_iload_n hx hb dX12_settles__29 rfl (lv_at hl 0 rfl) ?_
          refine lv_iload_n hx hb dX12_settles__30 rfl (lv_at hl 1 rfl) ?_
          refine lv_iconst (v := 1) hx hb dX12_settles__31 (by decide) ?_
          refine lv_icmp_ne (tgt := 39) hx hb dX12_settles__32 (by decide) (fun c96 => ?_) (fun c96 => ?_)
          · have q97 : ¬ x7.toInt = 1 := ti_ne c96
            refine lv_iconst (v := 0) hx hb dX12_settles__39 (by decide) ?_
            refine tw_gov hS (md_runV (As := [.int x8, .int 0]) (rest := []) hx hb hml hown hW hK hT hS.1 (t_X12_grows l D cy tx base Z K N M37 R38 J39 hS.2.1 a0 hz_a0 hk_a0 x8 h30 0 (iv_mono (iv_c (c := 0) (n := 0) (by decide)) (by decide) (by decide))) s_X12_386 ⟨rfl, rfl, ⟨Nat.le_of_ble_eq_true rfl, Nat.le_of_ble_eq_true rfl⟩, ⟨Nat.le_of_ble_eq_true rfl, Nat.le_of_ble_eq_true rfl⟩⟩ hz_a0 hk_a0 (by decide) rfl rfl hl.1 rfl (Nat.le_of_ble_eq_true rfl) dX12_settles__40) rfl rfl (fun H locs M100 R101 J102 hS f98 g99 E103 => ?_)
            exact J43_42  M100 R101 J102 H locs _  hS hl
          · have q104 : x7.toInt = 1 := ti_eq c96
            have h105 : iv 1 1 x7 := ⟨by have := (h_x7).1; have := ((iv_c (c := 1) (n := 1) (by decide))).1; omega, by have := (h_x7).2; have := ((iv_c (c := 1) (n := 1) (by decide))).2; omega⟩
            refine lv_iconst (v := 1) hx hb dX12_settles__35 (by decide) ?_
            refine lv_goto (tgt := 40) hx hb dX12_settles__36 (by decide) ?_
            refine tw_gov hS (md_runV (As := [.int x8, .int 1]) (rest := []) hx hb hml hown hW hK hT hS.1 (t_X12_grows l D cy tx base Z K N M37 R38 J39 hS.2.1 a0 hz_a0 hk_a0 x8 h30 1 (iv_mono (iv_c (c := 1) (n := 1) (by decide)) (by decide) (by decide))) s_X12_386 ⟨rfl, rfl, ⟨Nat.le_of_ble_eq_true rfl, Nat.le_of_ble_eq_true rfl⟩, ⟨Nat.le_of_ble_eq_true rfl, Nat.le_of_ble_eq_true rfl⟩⟩ hz_a0 hk_a0 (by decide) rfl rfl hl.1 rfl (Nat.le_of_ble_eq_true rfl) dX12_settles__40) rfl rfl (fun H locs M108 R109 J110 hS f106 g107 E111 => ?_)
            exact J43_42  M108 R109 J110 H locs _  hS hl
  have hm112 : 10 - (0 : Int32).toInt < (((11 : Nat) : Int) : Int) := by
    have : (0 : Int32).toInt = 0 := (by decide); omega
  exact W7_9 11 0 M3 R4 J5 H locs _ (iv_mono (iv_c (c := 0) (n := 0) (by decide)) (by decide) (by decide)) hm112 hS hl
def Lt_X12_stays : WL := [(23, 3, 4), (23, 10, 20), (23, 30, 50)]
def LRt_X12_stays : WL := []
set_option maxRecDepth 100000 in
set_option maxHeartbeats 4000000 in
theorem t_X12_stays (l : Launch) (D : va_G) (cy : Nat → ClassId) (tx : (Nat → Nat) × (Nat → Nat)) (base Z : Nat) (K N : Nat → Nat) (Ma : MT) (Ra : RT) (Ja : JT) (hTy : Ty Z K N Ma Ra) (a0 : Nat) (hz_a0 : a0 < Z) (hk_a0 : K a0 = 12) : Met l yX12_stays [Cond.code yX12_stays cX12_stays 2 none] (md_rm 1 0 0) (va_Pc [.ref (base + a0)] (md_U D cy tx base Z K N Ma Ra Ja)) (mQv D cy tx base (fun u => TP Z K N Lt_X12_stays LRt_X12_stays Ma Ra u ∧ (True))) 0 0 (fun q => base ≤ q) := by
  refine tw_ofW (L := Lt_X12_stays) (LR := LRt_X12_stays) (by decide) (Nat.le_of_ble_eq_true rfl) hTy ?_
  intro p e s m args below meth c Q ls hx hb hr hlocks hown hml hW hK hT hS hQ hl
  have hl : lv_has ls 2 [(0, .ref (base + a0))] := hl
  refine lv_iconst (v := 0) hx hb dX12_stays_0 (by decide) ?_
  refine lv_istore_n (lv' := [(1, .int 0), (0, .ref (base + a0))]) hx hb dX12_stays_1 rfl hl (by decide) rfl (fun ls hl => ?_)
  have W2_2 : ∀ (n_2 : Nat) (x1 : Int32) (M2 : MT) (R3 : RT) (J4 : JT) (H : Heap) (locs : List Loc) (ls : Array Slot) (h_x1 : iv 0 10 x1) (hm_2 : 10 - x1.toInt < (n_2 : Int)) (hS : SB D cy base Z K N Lt_X12_stays LRt_X12_stays Ma Ra M2 R3 J4 s H locs) (hl : lv_has ls 2 [(1, .int x1), (0, .ref (base + a0))]), W p l e (md_rm 1 0 0) s m args below meth c H locs 0 0 Q (F0 m 2 ls []) := by
    intro n_2
    induction n_2 with
    | zero =>
      intro x1 M2 R3 J4 H locs ls h_x1 hm_2 hS hl
      exfalso
      have := (h_x1).1; have := (h_x1).2; omega
    | succ n_2 ih_2 =>
      intro x1 M2 R3 J4 H locs ls h_x1 hm_2 hS hl
      have f5 := hS.2.2.1
      have g6 := hS.2.2.2
      refine lv_iload_n hx hb dX12_stays_2 rfl (lv_at hl 0 rfl) ?_
      refine lv_bipush (v := 10) hx hb dX12_stays_3 (by decide) ?_
      refine lv_icmp_ge (tgt := 65) hx hb dX12_stays_5 (by decide) (fun c7 => ?_) (fun c7 => ?_)
      · have q8 : 10 ≤ x1.toInt := ti_le c7
        have h9 : iv 10 10 x1 := iv_geL (y := 10) h_x1 (iv_c (c := 10) (n := 10) (by decide)) q8 (by decide)
        refine lv_aload_n hx hb dX12_stays_65 rfl (lv_at hl 1 rfl) ?_
        refine tw_getr hx hb hW hown hK hS f_X12_45_11 hz_a0 hk_a0 (t := 23) (n := 226) rfl dX12_stays_66 (fun b10 k11 hz_b10 hk_b10 hn_b10 => ?_)
        have hn_b10 := hn_b10 (by decide)
        refine lv_iconst (v := 3) hx hb dX12_stays_69 (by decide) ?_
        refine lv_aload_n hx hb dX12_stays_70 rfl (lv_at hl 1 rfl) ?_
        refine tw_geti hx hb hW hown hK hS f_X12_348_11 hz_a0 hk_a0 (lo := (-2147483648)) (hi := 2147483647) rfl dX12_stays_71 (fun x14 k13 h12 => ?_)
        refine tw_iast hx hb hK hS hz_b10 hk_b10 (Or.inr (by decide)) hn_b10 (iv_c (c := 3) (n := 3) (by decide)) ⟨by decide, by decide⟩ h12 (rg_cs (k0 := 3) rfl rfl rfl ⟨by decide, by decide⟩) (jl := 3) (jh := 3) ⟨by decide, by decide⟩ rfl dX12_stays_74 (fun H locs M17 hS k15 f16 => ?_)
        exact tw_endv hx hb hr hlocks hK hT hS hQ (trivial) dX12_stays_75
      · have q18 : x1.toInt < 10 := ti_nle c7
        have h19 : iv 0 9 x1 := iv_ltL (y := 10) h_x1 (iv_c (c := 10) (n := 10) (by decide)) q18 (by decide)
        refine lv_aload_n hx hb dX12_stays_8 rfl (lv_at hl 1 rfl) ?_
        refine tw_getr hx hb hW hown hK hS f_X12_45_11 hz_a0 hk_a0 (t := 23) (n := 226) rfl dX12_stays_9 (fun b20 k21 hz_b20 hk_b20 hn_b20 => ?_)
        have hn_b20 := hn_b20 (by decide)
        refine lv_bipush (v := 10) hx hb dX12_stays_12 (by decide) ?_
        refine lv_iload_n hx hb dX12_stays_14 rfl (lv_at hl 0 rfl) ?_
        refine tw_iadd (lo := 10) (hi := 19) hx hb (iv_c (c := 10) (n := 10) (by decide)) h19 ⟨by decide, by decide⟩ ⟨by decide, by decide⟩ dX12_stays_15 (fun x24 e23 h22 => ?_)
        have e23 : x24.toInt = 10 + x1.toInt := e23
        refine lv_aload_n hx hb dX12_stays_16 rfl (lv_at hl 1 rfl) ?_
        refine tw_getr hx hb hW hown hK hS f_X12_51_11 hz_a0 hk_a0 (t := 30) (n := 10) rfl dX12_stays_17 (fun b25 k26 hz_b25 hk_b25 hn_b25 => ?_)
        have hn_b25 := hn_b25 (by decide)
        refine lv_iload_n hx hb dX12_stays_20 rfl (lv_at hl 0 rfl) ?_
        refine tw_iald hx hb hK hS hz_b25 hk_b25 (Or.inr (by decide)) hn_b25 (lo := 0) (hi := 9999) h19 ⟨by decide, by decide⟩ rg_u30 dX12_stays_21 (fun x29 k28 h27 => ?_)
        refine tw_iast hx hb hK hS hz_b20 hk_b20 (Or.inr (by decide)) hn_b20 h22 ⟨by decide, by decide⟩ h27 (rg_svs ⟨by decide, by decide⟩ ⟨by decide, by decide⟩) (jl := 10) (jh := 19) ⟨by decide, by decide⟩ rfl dX12_stays_22 (fun H locs M32 hS k30 f31 => ?_)
        refine lv_aload_n hx hb dX12_stays_23 rfl (lv_at hl 1 rfl) ?_
        refine tw_getrk hx hb hW hown hK hS f_X12_45_11 hz_a0 hk_a0 (b := b20) k21 dX12_stays_24 ?_
        refine lv_bipush (v := 30) hx hb dX12_stays_27 (by decide) ?_
        refine lv_iload_n hx hb dX12_stays_29 rfl (lv_at hl 0 rfl) ?_
        refine tw_iadd (lo := 30) (hi := 39) hx hb (iv_c (c := 30) (n := 30) (by decide)) h19 ⟨by decide, by decide⟩ ⟨by decide, by decide⟩ dX12_stays_30 (fun x35 e34 h33 => ?_)
        have e34 : x35.toInt = 30 + x1.toInt := e34
        refine lv_dup2_11 hx hb dX12_stays_31 rfl rfl ?_
        refine tw_iald hx hb hK hS hz_b20 hk_b20 (Or.inr (by decide)) hn_b20 (lo := (-2147483648)) (hi := 2147483647) h33 ⟨by decide, by decide⟩ rg_full dX12_stays_32 (fun x38 k37 h36 => ?_)
        refine lv_aload_n hx hb dX12_stays_33 rfl (lv_at hl 1 rfl) ?_
        refine tw_getr hx hb hW hown hK hS f_X12_57_11 hz_a0 hk_a0 (t := 14) (n := 10) rfl dX12_stays_34 (fun b39 k40 hz_b39 hk_b39 hn_b39 => ?_)
        have hn_b39 := hn_b39 (by decide)
        refine lv_iload_n hx hb dX12_stays_37 rfl (lv_at hl 0 rfl) ?_
        refine tw_iald hx hb hK hS hz_b39 hk_b39 (Or.inl rfl) hn_b39 (lo := (-2147483648)) (hi := 2147483647) h19 ⟨by decide, by decide⟩ rg_u14 dX12_stays_38 (fun x43 k42 h41 => ?_)
        refine lv_iadd hx hb dX12_stays_39 ?_
        refine tw_top (fun x45 => ?_)
        have h44 := iv_any x45
        refine tw_iast hx hb hK hS hz_b20 hk_b20 (Or.inr (by decide)) hn_b20 h33 ⟨by decide, by decide⟩ h44 (rg_sas (Or.inl ⟨by decide, by decide⟩) ⟨by decide, by decide⟩) (jl := 30) (jh := 39) ⟨by decide, by decide⟩ rfl dX12_stays_40 (fun H locs M48 hS k46 f47 => ?_)
        refine lv_aload_n hx hb dX12_stays_41 rfl (lv_at hl 1 rfl) ?_
        refine tw_getrk hx hb hW hown hK hS f_X12_45_11 hz_a0 hk_a0 (b := b20) k21 dX12_stays_42 ?_
        refine lv_bipush (v := 40) hx hb dX12_stays_45 (by decide) ?_
        refine lv_iload_n hx hb dX12_stays_47 rfl (lv_at hl 0 rfl) ?_
        refine tw_iadd (lo := 40) (hi := 49) hx hb (iv_c (c := 40) (n := 40) (by decide)) h19 ⟨by decide, by decide⟩ ⟨by decide, by decide⟩ dX12_stays_48 (fun x51 e50 h49 => ?_)
        have e50 : x51.toInt = 40 + x1.toInt := e50
        refine lv_dup2_11 hx hb dX12_stays_49 rfl rfl ?_
        refine tw_iald hx hb hK hS hz_b20 hk_b20 (Or.inr (by decide)) hn_b20 (lo := (-2147483648)) (hi := 2147483647) h49 ⟨by decide, by decide⟩ rg_full dX12_stays_50 (fun x54 k53 h52 => ?_)
        refine lv_aload_n hx hb dX12_stays_51 rfl (lv_at hl 1 rfl) ?_
        refine tw_getr hx hb hW hown hK hS f_X12_60_11 hz_a0 hk_a0 (t := 14) (n := 10) rfl dX12_stays_52 (fun b55 k56 hz_b55 hk_b55 hn_b55 => ?_)
        have hn_b55 := hn_b55 (by decide)
        refine lv_iload_n hx hb dX12_stays_55 rfl (lv_at hl 0 rfl) ?_
        refine tw_iald hx hb hK hS hz_b55 hk_b55 (Or.inl rfl) hn_b55 (lo := (-2147483648)) (hi := 2147483647) h19 ⟨by decide, by decide⟩ rg_u14 dX12_stays_56 (fun x59 k58 h57 => ?_)
        refine lv_iadd hx hb dX12_stays_57 ?_
        refine tw_top (fun x61 => ?_)
        have h60 := iv_any x61
        refine tw_iast hx hb hK hS hz_b20 hk_b20 (Or.inr (by decide)) hn_b20 h49 ⟨by decide, by decide⟩ h60 (rg_sas (Or.inl ⟨by decide, by decide⟩) ⟨by decide, by decide⟩) (jl := 40) (jh := 49) ⟨by decide, by decide⟩ rfl dX12_stays_58 (fun H locs M64 hS k62 f63 => ?_)
        refine tw_iinc (lv' := fun x67 => [(1, .int x67), (0, .ref (base + a0))]) (lo := 1) (hi := 10) hx hb dX12_stays_59 hl (k := 0) rfl h19 (by decide) ⟨by decide, by decide⟩ ⟨by decide, by decide⟩ (by decide) (fun _ => rfl) (fun x67 ls e66 h65 hl => ?_)
        refine lv_goto (tgt := 2) hx hb dX12_stays_62 (by decide) ?_
        have hm68 : 10 - x67.toInt < (n_2 : Int) := by
          have := (h19).1; have := (h19).2; have := (h22).1; have := (h22).2; have := (h33).1; have := (h33).2; have := (h49).1; have := (h49).2; have := (h65).1; have := (h65).2; omega
        exact ih_2 x67 M64 R3 J4 H locs _ (iv_mono h65 (by decide) (by decide)) hm68 hS hl
  have hm69 : 10 - (0 : Int32).toInt < (((11 : Nat) : Int) : Int) := by
    have : (0 : Int32).toInt = 0 := (by decide); omega
  exact W2_2 11 0 Ma Ra Ja s.heap [] _ (iv_mono (iv_c (c := 0) (n := 0) (by decide)) (by decide) (by decide)) hm69 hS hl
