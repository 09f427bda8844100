def Lt_X9_hasMember : WL := []
def LRt_X9_hasMember : WL := []
set_option maxRecDepth 100000 in
set_option maxHeartbeats 4000000 in
theorem t_X9_hasMember (l : Launch) (D : va_G) (cy : Nat → ClassId) (tx : (Nat → Nat) × (Nat → Nat)) (base Z : Nat) (K N : Nat → Nat) (Ma : MT) (Ra : RT) (Ja : JT) (hTy : Ty Z K N Ma Ra) (a0 : Nat) (hz_a0 : a0 < Z) (hk_a0 : K a0 = 10) (a1 : Int32) (h_a1 : iv (-2147483648) 2147483647 a1) : Met l yX9_hasMember [Cond.code yX9_hasMember cX9_hasMember 2 (some .boolean)] (md_rm 1 0 0) (va_Pc [.ref (base + a0), .int a1] (md_U D cy tx base Z K N Ma Ra Ja)) (mQi D cy tx base (fun r u => TP Z K N Lt_X9_hasMember LRt_X9_hasMember Ma Ra u ∧ (iv 0 1 r ∧ (¬ r = 0 → iv 0 9 a1)))) 0 0 (fun q => base ≤ q) := by
  refine tw_ofW (L := Lt_X9_hasMember) (LR := LRt_X9_hasMember) (by decide) (Nat.le_of_ble_eq_true rfl) hTy ?_
  intro p e s m args below meth c Q ls hx hb hr hlocks hown hml hW hK hT hS hQ hl
  have hl : lv_has ls 2 [(0, .ref (base + a0)), (1, .int a1)] := hl
  refine lv_iload_n hx hb dX9_hasMember_0 rfl (lv_at hl 1 rfl) ?_
  refine lv_if_lt (tgt := 16) hx hb dX9_hasMember_1 (by decide) (fun c1 => ?_) (fun c1 => ?_)
  · have q2 : a1.toInt < 0 := ti_lt c1
    have h3 : iv (-2147483648) (-1) a1 := iv_ltL (y := 0) h_a1 (iv_c (c := 0) (n := 0) (by decide)) q2 (by decide)
    refine lv_iconst (v := 0) hx hb dX9_hasMember_16 (by decide) ?_
    exact tw_endz hx hb hr hlocks hK hT hS hQ rfl (⟨(iv_mono (iv_c (c := 0) (n := 0) (by decide)) (by decide) (by decide)), (fun h => absurd rfl h)⟩) dX9_hasMember_17
  · have q4 : 0 ≤ a1.toInt := ti_nlt c1
    have h5 : iv 0 2147483647 a1 := iv_geL (y := 0) h_a1 (iv_c (c := 0) (n := 0) (by decide)) q4 (by decide)
    refine lv_iload_n hx hb dX9_hasMember_4 rfl (lv_at hl 1 rfl) ?_
    refine lv_aload_n hx hb dX9_hasMember_5 rfl (lv_at hl 0 rfl) ?_
    refine tw_geti hx hb hW hown hK hS f_X9_33_9 hz_a0 hk_a0 (lo := (-2147483648)) (hi := 10) rfl dX9_hasMember_6 (fun x8 k7 h6 => ?_)
    refine lv_icmp_ge (tgt := 16) hx hb dX9_hasMember_9 (by decide) (fun c9 => ?_) (fun c9 => ?_)
    · have q10 : x8.toInt ≤ a1.toInt := ti_le c9
      refine lv_iconst (v := 0) hx hb dX9_hasMember_16 (by decide) ?_
      exact tw_endz hx hb hr hlocks hK hT hS hQ rfl (⟨(iv_mono (iv_c (c := 0) (n := 0) (by decide)) (by decide) (by decide)), (fun h => absurd rfl h)⟩) dX9_hasMember_17
    · have q11 : a1.toInt < x8.toInt := ti_nle c9
      have h12 : iv 0 9 a1 := iv_ltL (y := x8) h5 h6 q11 (by decide)
      have h13 : iv 1 10 x8 := iv_gtL (y := a1) h6 h5 q11 (by decide)
      refine lv_iconst (v := 1) hx hb dX9_hasMember_12 (by decide) ?_
      refine lv_goto (tgt := 17) hx hb dX9_hasMember_13 (by decide) ?_
      exact tw_endz hx hb hr hlocks hK hT hS hQ rfl (⟨(iv_mono (iv_c (c := 1) (n := 1) (by decide)) (by decide) (by decide)), (fun _ => h12)⟩) dX9_hasMember_17
def Lt_X11_voice : WL := []
def LRt_X11_voice : WL := []
set_option maxRecDepth 100000 in
set_option maxHeartbeats 4000000 in
theorem t_X11_voice (l : Launch) (D : va_G) (cy : Nat → ClassId) (tx : (Nat → Nat) × (Nat → Nat)) (base Z : Nat) (K N : Nat → Nat) (Ma : MT) (Ra : RT) (Ja : JT) (hTy : Ty Z K N Ma Ra) (a0 : Nat) (hz_a0 : a0 < Z) (hk_a0 : K a0 = 11) (a1 : Int32) (h_a1 : iv (-2147483648) 2147483647 a1) (a2 : Int32) (h_a2 : iv (-2147483648) 2147483647 a2) : Met l yX11_voice [Cond.code yX11_voice cX11_voice 3 (some .int)] (md_rm 2 0 0) (va_Pc [.ref (base + a0), .int a1, .int a2] (md_U D cy tx base Z K N Ma Ra Ja)) (mQi D cy tx base (fun r u => TP Z K N Lt_X11_voice LRt_X11_voice Ma Ra u ∧ (iv (-2147483648) 2147483647 r))) 0 0 (fun q => base ≤ q) := by
  refine tw_ofW (L := Lt_X11_voice) (LR := LRt_X11_voice) (by decide) (Nat.le_of_ble_eq_true rfl) hTy ?_
  intro p e s m args below meth c Q ls hx hb hr hlocks hown hml hW hK hT hS hQ hl
  have hl : lv_has ls 3 [(0, .ref (base + a0)), (1, .int a1), (2, .int a2)] := hl
  refine lv_aload_n hx hb dX11_voice_0 rfl (lv_at hl 0 rfl) ?_
  refine tw_getr hx hb hW hown hK hS f_X11_31_10 hz_a0 hk_a0 (t := 10) (n := 0) rfl dX11_voice_1 (fun b1 k2 hz_b1 hk_b1 hn_b1 => ?_)
  refine lv_iload_n hx hb dX11_voice_4 rfl (lv_at hl 1 rfl) ?_
  refine tw_goi hS (md_runV (As := [.int a1]) (rest := []) hx hb hml hown hW hK hT hS.1 (t_X9_hasMember l D cy tx base Z K N Ma Ra Ja hS.2.1 b1 hz_b1 hk_b1 a1 h_a1) s_X11_132 ⟨rfl, rfl, ⟨Nat.le_of_ble_eq_true rfl, Nat.le_of_ble_eq_true rfl⟩, ⟨Nat.le_of_ble_eq_true rfl, Nat.le_of_ble_eq_true rfl⟩⟩ hz_b1 hk_b1 (by decide) rfl rfl hl.1 rfl (Nat.le_of_ble_eq_true rfl) dX11_voice_5) rfl rfl (fun x9 H locs M5 R6 J7 hS f3 g4 E8 => ?_)
  obtain ⟨h_x9, p10⟩ := E8
  refine lv_if_ne (tgt := 13) hx hb dX11_voice_8 (by decide) (fun c11 => ?_) (fun c11 => ?_)
  · have q12 : ¬ x9.toInt = 0 := ti_ne c11
    have h13 : iv 1 1 x9 := ⟨by have := (h_x9).1; have := ((iv_c (c := 0) (n := 0) (by decide))).1; have := ((iv_c (c := 0) (n := 0) (by decide))).2; omega, by have := (h_x9).2; have := ((iv_c (c := 0) (n := 0) (by decide))).1; have := ((iv_c (c := 0) (n := 0) (by decide))).2; omega⟩
    have h14 : iv 0 9 a1 := ⟨by have := (p10 c11).1; have := (h_a1).1; omega, by have := (p10 c11).2; have := (h_a1).2; omega⟩
    refine lv_iload_n hx hb dX11_voice_13 rfl (lv_at hl 2 rfl) ?_
    by_cases c15 : a2 = 0
    · subst c15
      refine lv_tableIn (off := 34) (tgt := 48) hx hb dX11_voice_14 (by decide) (by decide) rfl (by decide) ?_
      refine lv_aload_n hx hb dX11_voice_48 rfl (lv_at hl 0 rfl) ?_
      have k16 : R6 a0 3 = some b1 := (Fr.kp (k := 3) g4 hk_a0 rfl).trans k2
      refine tw_getrk hx hb hW hown hK hS f_X11_31_10 hz_a0 hk_a0 (b := b1) k16 dX11_voice_49 ?_
      refine tw_getr hx hb hW hown hK hS f_X11_136_9 hz_b1 hk_b1 (t := 20) (n := 10) rfl dX11_voice_52 (fun b17 k18 hz_b17 hk_b17 hn_b17 => ?_)
      have hn_b17 := hn_b17 (by decide)
      refine lv_iload_n hx hb dX11_voice_55 rfl (lv_at hl 1 rfl) ?_
      refine tw_iald hx hb hK hS hz_b17 hk_b17 (Or.inr (by decide)) hn_b17 (lo := (-2147483648)) (hi := 2147483647) h14 ⟨by decide, by decide⟩ rg_u20 dX11_voice_56 (fun x21 k20 h19 => ?_)
      exact tw_endi hx hb hr hlocks hK hT hS hQ (h19) dX11_voice_57
    have q22 : ¬ a2.toInt = 0 := ti_ne c15
    by_cases c23 : a2 = 1
    · subst c23
      refine lv_tableIn (off := 44) (tgt := 58) hx hb dX11_voice_14 (by decide) (by decide) rfl (by decide) ?_
      refine lv_aload_n hx hb dX11_voice_58 rfl (lv_at hl 0 rfl) ?_
      have k24 : R6 a0 3 = some b1 := (Fr.kp (k := 3) g4 hk_a0 rfl).trans k2
      refine tw_getrk hx hb hW hown hK hS f_X11_31_10 hz_a0 hk_a0 (b := b1) k24 dX11_voice_59 ?_
      refine tw_getr hx hb hW hown hK hS f_X11_139_9 hz_b1 hk_b1 (t := 14) (n := 10) rfl dX11_voice_62 (fun b25 k26 hz_b25 hk_b25 hn_b25 => ?_)
      have hn_b25 := hn_b25 (by decide)
      refine lv_iload_n hx hb dX11_voice_65 rfl (lv_at hl 1 rfl) ?_
      refine tw_iald hx hb hK hS hz_b25 hk_b25 (Or.inl rfl) hn_b25 (lo := (-2147483648)) (hi := 2147483647) h14 ⟨by decide, by decide⟩ rg_u14 dX11_voice_66 (fun x29 k28 h27 => ?_)
      exact tw_endi hx hb hr hlocks hK hT hS hQ (h27) dX11_voice_67
    have q30 : ¬ a2.toInt = 1 := ti_ne c23
    by_cases c31 : a2 = 2
    · subst c31
      refine lv_tableIn (off := 54) (tgt := 68) hx hb dX11_voice_14 (by decide) (by decide) rfl (by decide) ?_
      refine lv_aload_n hx hb dX11_voice_68 rfl (lv_at hl 0 rfl) ?_
      have k32 : R6 a0 3 = some b1 := (Fr.kp (k := 3) g4 hk_a0 rfl).trans k2
      refine tw_getrk hx hb hW hown hK hS f_X11_31_10 hz_a0 hk_a0 (b := b1) k32 dX11_voice_69 ?_
      refine tw_geti hx hb hW hown hK hS f_X11_142_9 hz_b1 hk_b1 (lo := (-2147483648)) (hi := 2147483647) rfl dX11_voice_72 (fun x35 k34 h33 => ?_)
      refine lv_iload_n hx hb dX11_voice_75 rfl (lv_at hl 1 rfl) ?_
      refine lv_ishr hx hb dX11_voice_76 ?_
      refine tw_top (fun x37 => ?_)
      have h36 := iv_any x37
      refine lv_iconst (v := 1) hx hb dX11_voice_77 (by decide) ?_
      refine tw_iand (hi := 1) hx hb (iv_mono (iv_c (c := 1) (n := 1) (by decide)) (lo := 0) (hi := 1) (by decide) (by decide)) (by decide) dX11_voice_78 (fun x40 h38 => ?_)
      exact tw_endi hx hb hr hlocks hK hT hS hQ ((iv_mono h38 (by decide) (by decide))) dX11_voice_79
    have q41 : ¬ a2.toInt = 2 := ti_ne c31
    by_cases c42 : a2 = 3
    · subst c42
      refine lv_tableIn (off := 66) (tgt := 80) hx hb dX11_voice_14 (by decide) (by decide) rfl (by decide) ?_
      refine lv_aload_n hx hb dX11_voice_80 rfl (lv_at hl 0 rfl) ?_
      have k43 : R6 a0 3 = some b1 := (Fr.kp (k := 3) g4 hk_a0 rfl).trans k2
      refine tw_getrk hx hb hW hown hK hS f_X11_31_10 hz_a0 hk_a0 (b := b1) k43 dX11_voice_81 ?_
      refine tw_getr hx hb hW hown hK hS f_X11_145_9 hz_b1 hk_b1 (t := 14) (n := 10) rfl dX11_voice_84 (fun b44 k45 hz_b44 hk_b44 hn_b44 => ?_)
      have hn_b44 := hn_b44 (by decide)
      refine lv_iload_n hx hb dX11_voice_87 rfl (lv_at hl 1 rfl) ?_
      refine tw_iald hx hb hK hS hz_b44 hk_b44 (Or.inl rfl) hn_b44 (lo := (-2147483648)) (hi := 2147483647) h14 ⟨by decide, by decide⟩ rg_u14 dX11_voice_88 (fun x48 k47 h46 => ?_)
      exact tw_endi hx hb hr hlocks hK hT hS hQ (h46) dX11_voice_89
    have q49 : ¬ a2.toInt = 3 := ti_ne c42
    by_cases c50 : a2 = 4
    · subst c50
      refine lv_tableIn (off := 76) (tgt := 90) hx hb dX11_voice_14 (by decide) (by decide) rfl (by decide) ?_
      refine lv_aload_n hx hb dX11_voice_90 rfl (lv_at hl 0 rfl) ?_
      have k51 : R6 a0 3 = some b1 := (Fr.kp (k := 3) g4 hk_a0 rfl).trans k2
      refine tw_getrk hx hb hW hown hK hS f_X11_31_10 hz_a0 hk_a0 (b := b1) k51 dX11_voice_91 ?_
      refine tw_getr hx hb hW hown hK hS f_X11_148_9 hz_b1 hk_b1 (t := 14) (n := 10) rfl dX11_voice_94 (fun b52 k53 hz_b52 hk_b52 hn_b52 => ?_)
      have hn_b52 := hn_b52 (by decide)
      refine lv_iload_n hx hb dX11_voice_97 rfl (lv_at hl 1 rfl) ?_
      refine tw_iald hx hb hK hS hz_b52 hk_b52 (Or.inl rfl) hn_b52 (lo := (-2147483648)) (hi := 2147483647) h14 ⟨by decide, by decide⟩ rg_u14 dX11_voice_98 (fun x56 k55 h54 => ?_)
      exact tw_endi hx hb hr hlocks hK hT hS hQ (h54) dX11_voice_99
    have q57 : ¬ a2.toInt = 4 := ti_ne c50
    refine lv_tableOut (tgt := 100) hx hb dX11_voice_14 (by have := (h_a2).1; have := (h_a2).2; omega) (by decide) ?_
    refine lv_iconst (v := (-1)) hx hb dX11_voice_100 (by decide) ?_
    exact tw_endi hx hb hr hlocks hK hT hS hQ ((iv_mono (iv_c (c := (-1)) (n := (-1)) (by decide)) (by decide) (by decide))) dX11_voice_101
  · have q58 : x9.toInt = 0 := ti_eq c11
    have h59 : iv 0 0 x9 := ⟨by have := (h_x9).1; have := ((iv_c (c := 0) (n := 0) (by decide))).1; omega, by have := (h_x9).2; have := ((iv_c (c := 0) (n := 0) (by decide))).2; omega⟩
    refine lv_iconst (v := (-1)) hx hb dX11_voice_11 (by decide) ?_
    exact tw_endi hx hb hr hlocks hK hT hS hQ ((iv_mono (iv_c (c := (-1)) (n := (-1)) (by decide)) (by decide) (by decide))) dX11_voice_12
def Lt_X9_hasPoint : WL := []
def LRt_X9_hasPoint : WL := []
set_option maxRecDepth 100000 in
set_option maxHeartbeats 4000000 in
theorem t_X9_hasPoint (l : Launch) (D : va_G) (cy : Nat → ClassId) (tx : (Nat → Nat) × (Nat → Nat)) (base Z : Nat) (K N : Nat → Nat) (Ma : MT) (Ra : RT) (Ja : JT) (hTy : Ty Z K N Ma Ra) (a0 : Nat) (hz_a0 : a0 < Z) (hk_a0 : K a0 = 10) (a1 : Int32) (h_a1 : iv (-2147483648) 2147483647 a1) : Met l yX9_hasPoint [Cond.code yX9_hasPoint cX9_hasPoint 2 (some .boolean)] (md_rm 1 0 0) (va_Pc [.ref (base + a0), .int a1] (md_U D cy tx base Z K N Ma Ra Ja)) (mQi D cy tx base (fun r u => TP Z K N Lt_X9_hasPoint LRt_X9_hasPoint Ma Ra u ∧ (iv 0 1 r ∧ (¬ r = 0 → iv 0 11 a1)))) 0 0 (fun q => base ≤ q) := by
  refine tw_ofW (L := Lt_X9_hasPoint) (LR := LRt_X9_hasPoint) (by decide) (Nat.le_of_ble_eq_true rfl) hTy ?_
  intro p e s m args below meth c Q ls hx hb hr hlocks hown hml hW hK hT hS hQ hl
  have hl : lv_has ls 2 [(0, .ref (base + a0)), (1, .int a1)] := hl
  refine lv_iload_n hx hb dX9_hasPoint_0 rfl (lv_at hl 1 rfl) ?_
  refine lv_if_lt (tgt := 16) hx hb dX9_hasPoint_1 (by decide) (fun c1 => ?_) (fun c1 => ?_)
  · have q2 : a1.toInt < 0 := ti_lt c1
    have h3 : iv (-2147483648) (-1) a1 := iv_ltL (y := 0) h_a1 (iv_c (c := 0) (n := 0) (by decide)) q2 (by decide)
    refine lv_iconst (v := 0) hx hb dX9_hasPoint_16 (by decide) ?_
    exact tw_endz hx hb hr hlocks hK hT hS hQ rfl (⟨(iv_mono (iv_c (c := 0) (n := 0) (by decide)) (by decide) (by decide)), (fun h => absurd rfl h)⟩) dX9_hasPoint_17
  · have q4 : 0 ≤ a1.toInt := ti_nlt c1
    have h5 : iv 0 2147483647 a1 := iv_geL (y := 0) h_a1 (iv_c (c := 0) (n := 0) (by decide)) q4 (by decide)
    refine lv_iload_n hx hb dX9_hasPoint_4 rfl (lv_at hl 1 rfl) ?_
    refine lv_aload_n hx hb dX9_hasPoint_5 rfl (lv_at hl 0 rfl) ?_
    refine tw_geti hx hb hW hown hK hS f_X9_37_9 hz_a0 hk_a0 (lo := 0) (hi := 12) rfl dX9_hasPoint_6 (fun x8 k7 h6 => ?_)
    refine lv_icmp_ge (tgt := 16) hx hb dX9_hasPoint_9 (by decide) (fun c9 => ?_) (fun c9 => ?_)
    · have q10 : x8.toInt ≤ a1.toInt := ti_le c9
      refine lv_iconst (v := 0) hx hb dX9_hasPoint_16 (by decide) ?_
      exact tw_endz hx hb hr hlocks hK hT hS hQ rfl (⟨(iv_mono (iv_c (c := 0) (n := 0) (by decide)) (by decide) (by decide)), (fun h => absurd rfl h)⟩) dX9_hasPoint_17
    · have q11 : a1.toInt < x8.toInt := ti_nle c9
      have h12 : iv 0 11 a1 := iv_ltL (y := x8) h5 h6 q11 (by decide)
      have h13 : iv 1 12 x8 := iv_gtL (y := a1) h6 h5 q11 (by decide)
      refine lv_iconst (v := 1) hx hb dX9_hasPoint_12 (by decide) ?_
      refine lv_goto (tgt := 17) hx hb dX9_hasPoint_13 (by decide) ?_
      exact tw_endz hx hb hr hlocks hK hT hS hQ rfl (⟨(iv_mono (iv_c (c := 1) (n := 1) (by decide)) (by decide) (by decide)), (fun _ => h12)⟩) dX9_hasPoint_17
def Lt_X9_makeFresh : WL := [(10, 0, 6), (10, 7, 9), (14, 0, 2000000), (20, 0, 2000000)]
def LRt_X9_makeFresh : WL := []
set_option maxRecDepth 100000 in
set_option maxHeartbeats 4000000 in
theorem t_X9_makeFresh (l : Launch) (D : va_G) (cy : Nat → ClassId) (tx : (Nat → Nat) × (Nat → Nat)) (base Z : Nat) (K N : Nat → Nat) (Ma : MT) (Ra : RT) (Ja : JT) (hTy : Ty Z K N Ma Ra) (a0 : Nat) (hz_a0 : a0 < Z) (hk_a0 : K a0 = 10) : Met l yX9_makeFresh [Cond.code yX9_makeFresh cX9_makeFresh 2 none] (md_rm 1 0 0) (va_Pc [.ref (base + a0)] (md_U D cy tx base Z K N Ma Ra Ja)) (mQv D cy tx base (fun u => TP Z K N Lt_X9_makeFresh LRt_X9_makeFresh Ma Ra u ∧ (True))) 0 0 (fun q => base ≤ q) := by
  refine tw_ofW (L := Lt_X9_makeFresh) (LR := LRt_X9_makeFresh) (by decide) (Nat.le_of_ble_eq_true rfl) hTy ?_
  intro p e s m args below meth c Q ls hx hb hr hlocks hown hml hW hK hT hS hQ hl
  have hl : lv_has ls 2 [(0, .ref (base + a0))] := hl
  refine lv_aload_n hx hb dX9_makeFresh_0 rfl (lv_at hl 0 rfl) ?_
  refine lv_iconst (v := 0) hx hb dX9_makeFresh_1 (by decide) ?_
  refine tw_puti hx hb hW hown hK hS f_X9_33_9 hz_a0 hk_a0 rfl rfl (lo := (-2147483648)) (hi := 10) rfl (iv_mono (iv_c (c := 0) (n := 0) (by decide)) (by decide) (by decide)) rfl dX9_makeFresh_2 (fun H locs M3 hS k1 f2 => ?_)
  refine lv_aload_n hx hb dX9_makeFresh_5 rfl (lv_at hl 0 rfl) ?_
  refine lv_iconst (v := 0) hx hb dX9_makeFresh_6 (by decide) ?_
  refine tw_puti hx hb hW hown hK hS f_X9_37_9 hz_a0 hk_a0 rfl rfl (lo := 0) (hi := 12) rfl (iv_mono (iv_c (c := 0) (n := 0) (by decide)) (by decide) (by decide)) rfl dX9_makeFresh_7 (fun H locs M6 hS k4 f5 => ?_)
  refine lv_aload_n hx hb dX9_makeFresh_10 rfl (lv_at hl 0 rfl) ?_
  refine lv_iconst (v := 0) hx hb dX9_makeFresh_11 (by decide) ?_
  refine tw_puti hx hb hW hown hK hS f_X9_40_9 hz_a0 hk_a0 rfl rfl (lo := (-2147483648)) (hi := 2147483647) rfl (iv_mono (iv_c (c := 0) (n := 0) (by decide)) (by decide) (by decide)) rfl dX9_makeFresh_12 (fun H locs M9 hS k7 f8 => ?_)
  refine lv_aload_n hx hb dX9_makeFresh_15 rfl (lv_at hl 0 rfl) ?_
  refine lv_iconst (v := 0) hx hb dX9_makeFresh_16 (by decide) ?_
  refine tw_puti hx hb hW hown hK hS f_X9_43_9 hz_a0 hk_a0 rfl rfl (lo := (-2147483648)) (hi := 2147483647) rfl (iv_mono (iv_c (c := 0) (n := 0) (by decide)) (by decide) (by decide)) rfl dX9_makeFresh_17 (fun H locs M12 hS k10 f11 => ?_)
  refine lv_aload_n hx hb dX9_makeFresh_20 rfl (lv_at hl 0 rfl) ?_
  refine lv_iconst (v := 0) hx hb dX9_makeFresh_21 (by decide) ?_
  refine tw_puti hx hb hW hown hK hS f_X9_46_9 hz_a0 hk_a0 rfl rfl (lo := (-2147483648)) (hi := 2147483647) rfl (iv_mono (iv_c (c := 0) (n := 0) (by decide)) (by decide) (by decide)) rfl dX9_makeFresh_22 (fun H locs M15 hS k13 f14 => ?_)
  refine lv_aload_n hx hb dX9_makeFresh_25 rfl (lv_at hl 0 rfl) ?_
  refine lv_sipush (v := 9999) hx hb dX9_makeFresh_26 (by decide) ?_
  refine tw_puti hx hb hW hown hK hS f_X9_49_9 hz_a0 hk_a0 rfl rfl (lo := 0) (hi := 9999) rfl (iv_mono (iv_c (c := 9999) (n := 9999) (by decide)) (by decide) (by decide)) rfl dX9_makeFresh_29 (fun H locs M18 hS k16 f17 => ?_)
  refine lv_aload_n hx hb dX9_makeFresh_32 rfl (lv_at hl 0 rfl) ?_
  refine lv_iconst (v := 0) hx hb dX9_makeFresh_33 (by decide) ?_
  refine tw_puti hx hb hW hown hK hS f_X9_52_9 hz_a0 hk_a0 rfl rfl (lo := 0) (hi := 8) rfl (iv_mono (iv_c (c := 0) (n := 0) (by decide)) (by decide) (by decide)) rfl dX9_makeFresh_34 (fun H locs M21 hS k19 f20 => ?_)
  refine lv_aload_n hx hb dX9_makeFresh_37 rfl (lv_at hl 0 rfl) ?_
  refine lv_iconst (v := 0) hx hb dX9_makeFresh_38 (by decide) ?_
  refine tw_puti hx hb hW hown hK hS f_X9_55_9 hz_a0 hk_a0 rfl rfl (lo := 0) (hi := 12) rfl (iv_mono (iv_c (c := 0) (n := 0) (by decide)) (by decide) (by decide)) rfl dX9_makeFresh_39 (fun H locs M24 hS k22 f23 => ?_)
  refine lv_iconst (v := 0) hx hb dX9_makeFresh_42 (by decide) ?_
  refine lv_istore_n (lv' := [(1, .int 0), (0, .ref (base + a0))]) hx hb dX9_makeFresh_43 rfl hl (by decide) rfl (fun ls hl => ?_)
  have W44_26 : ∀ (n : Nat) (x25 : Int32) (M26 : MT) (R27 : RT) (J28 : JT) (H : Heap) (locs : List Loc) (ls : Array Slot) (h_x25 : iv 0 10 x25) (hm_26 : 10 - x25.toInt < (n : Int)) (hS : SB D cy base Z K N Lt_X9_makeFresh LRt_X9_makeFresh Ma Ra M26 R27 J28 s H locs) (hl : lv_has ls 2 [(1, .int x25), (0, .ref (base + a0))]), W p l e (md_rm 1 0 0) s m args below meth c H locs 0 0 Q (F0 m 44 ls []) := by
    intro n
    induction n with
    | zero =>
      intro x25 M26 R27 J28 H locs ls h_x25 hm_26 hS hl
      exfalso
      have := (h_x25).1; have := (h_x25).2; omega
    | succ n ih_26 =>
      intro x25 M26 R27 J28 H locs ls h_x25 hm_26 hS hl
      have f29 := hS.2.2.1
      have g30 := hS.2.2.2
      refine lv_iload_n hx hb dX9_makeFresh_44 rfl (lv_at hl 0 rfl) ?_
      refine lv_bipush (v := 10) hx hb dX9_makeFresh_45 (by decide) ?_
      refine lv_icmp_ge (tgt := 84) hx hb dX9_makeFresh_47 (by decide) (fun c31 => ?_) (fun c31 => ?_)
      · have q32 : 10 ≤ x25.toInt := ti_le c31
        have h33 : iv 10 10 x25 := iv_geL (y := 10) h_x25 (iv_c (c := 10) (n := 10) (by decide)) q32 (by decide)
        exact tw_endv hx hb hr hlocks hK hT hS hQ (trivial) dX9_makeFresh_84
      · have q34 : x25.toInt < 10 := ti_nle c31
        have h35 : iv 0 9 x25 := iv_ltL (y := 10) h_x25 (iv_c (c := 10) (n := 10) (by decide)) q34 (by decide)
        refine lv_aload_n hx hb dX9_makeFresh_50 rfl (lv_at hl 1 rfl) ?_
        refine tw_getr hx hb hW hown hK hS f_X9_15_9 hz_a0 hk_a0 (t := 20) (n := 10) rfl dX9_makeFresh_51 (fun b36 k37 hz_b36 hk_b36 hn_b36 => ?_)
        have hn_b36 := hn_b36 (by decide)
        refine lv_iload_n hx hb dX9_makeFresh_54 rfl (lv_at hl 0 rfl) ?_
        refine lv_iconst (v := 1) hx hb dX9_makeFresh_55 (by decide) ?_
        refine tw_iast hx hb hK hS hz_b36 hk_b36 (Or.inr (by decide)) hn_b36 h35 ⟨by decide, by decide⟩ (iv_c (c := 1) (n := 1) (by decide)) (rg_s20 ⟨by decide, by decide⟩) (jl := 0) (jh := 1999999) ⟨by decide, by decide⟩ rfl dX9_makeFresh_56 (fun H locs M40 hS k38 f39 => ?_)
        refine lv_aload_n hx hb dX9_makeFresh_57 rfl (lv_at hl 1 rfl) ?_
        refine tw_getr hx hb hW hown hK hS f_X9_18_9 hz_a0 hk_a0 (t := 14) (n := 10) rfl dX9_makeFresh_58 (fun b41 k42 hz_b41 hk_b41 hn_b41 => ?_)
        have hn_b41 := hn_b41 (by decide)
        refine lv_iload_n hx hb dX9_makeFresh_61 rfl (lv_at hl 0 rfl) ?_
        refine lv_iconst (v := (-1)) hx hb dX9_makeFresh_62 (by decide) ?_
        refine tw_iast hx hb hK hS hz_b41 hk_b41 (Or.inl rfl) hn_b41 h35 ⟨by decide, by decide⟩ (iv_c (c := (-1)) (n := (-1)) (by decide)) (rg_s14 ⟨by decide, by decide⟩) (jl := 0) (jh := 1999999) ⟨by decide, by decide⟩ rfl dX9_makeFresh_63 (fun H locs M45 hS k43 f44 => ?_)
        refine lv_aload_n hx hb dX9_makeFresh_64 rfl (lv_at hl 1 rfl) ?_
        refine tw_getr hx hb hW hown hK hS f_X9_21_9 hz_a0 hk_a0 (t := 14) (n := 10) rfl dX9_makeFresh_65 (fun b46 k47 hz_b46 hk_b46 hn_b46 => ?_)
        have hn_b46 := hn_b46 (by decide)
        refine lv_iload_n hx hb dX9_makeFresh_68 rfl (lv_at hl 0 rfl) ?_
        refine lv_iconst (v := 0) hx hb dX9_makeFresh_69 (by decide) ?_
        refine tw_iast hx hb hK hS hz_b46 hk_b46 (Or.inl rfl) hn_b46 h35 ⟨by decide, by decide⟩ (iv_c (c := 0) (n := 0) (by decide)) (rg_s14 ⟨by decide, by decide⟩) (jl := 0) (jh := 1999999) ⟨by decide, by decide⟩ rfl dX9_makeFresh_70 (fun H locs M50 hS k48 f49 => ?_)
        refine lv_aload_n hx hb dX9_makeFresh_71 rfl (lv_at hl 1 rfl) ?_
        refine tw_getr hx hb hW hown hK hS f_X9_24_9 hz_a0 hk_a0 (t := 14) (n := 10) rfl dX9_makeFresh_72 (fun b51 k52 hz_b51 hk_b51 hn_b51 => ?_)
        have hn_b51 := hn_b51 (by decide)
        refine lv_iload_n hx hb dX9_makeFresh_75 rfl (lv_at hl 0 rfl) ?_
        refine lv_iconst (v := 0) hx hb dX9_makeFresh_76 (by decide) ?_
        refine tw_iast hx hb hK hS hz_b51 hk_b51 (Or.inl rfl) hn_b51 h35 ⟨by decide, by decide⟩ (iv_c (c := 0) (n := 0) (by decide)) (rg_s14 ⟨by decide, by decide⟩) (jl := 0) (jh := 1999999) ⟨by decide, by decide⟩ rfl dX9_makeFresh_77 (fun H locs M55 hS k53 f54 => ?_)
        refine tw_iinc (lv' := fun x58 => [(1, .int x58), (0, .ref (base + a0))]) (lo := 1) (hi := 10) hx hb dX9_makeFresh_78 hl (k := 0) rfl h35 (by decide) ⟨by decide, by decide⟩ ⟨by decide, by decide⟩ (by decide) (fun _ => rfl) (fun x58 ls e57 h56 hl => ?_)
        refine lv_goto (tgt := 44) hx hb dX9_makeFresh_81 (by decide) ?_
        have hm59 : 10 - x58.toInt < (n : Int) := by
          have := (h35).1; have := (h35).2; have := (h56).1; have := (h56).2; omega
        exact ih_26 x58 M55 R27 J28 H locs _ (iv_mono h56 (by decide) (by decide)) hm59 hS hl
  have hm60 : 10 - (0 : Int32).toInt < (((11 : Nat) : Int) : Int) := by
    have : (0 : Int32).toInt = 0 := by decide; omega
  exact W44_26 11 0 M24 Ra Ja H locs _ (iv_mono (iv_c (c := 0) (n := 0) (by decide)) (by decide) (by decide)) hm60 hS hl
def Lt_X9_sumOf : WL := []
def LRt_X9_sumOf : WL := []
set_option maxRecDepth 100000 in
set_option maxHeartbeats 4000000 in
theorem t_X9_sumOf (l : Launch) (D : va_G) (cy : Nat → ClassId) (tx : (Nat → Nat) × (Nat → Nat)) (base Z : Nat) (K N : Nat → Nat) (Ma : MT) (Ra : RT) (Ja : JT) (hTy : Ty Z K N Ma Ra) (a0 : Nat) (hz_a0 : a0 < Z) (hk_a0 : K a0 = 10) (a1 : Nat) (hz_a1 : a1 < Z) (hk_a1 : K a1 = 20) (hn_a1 : N a1 = 10) (a2 : Int32) (h_a2 : iv (-2147483648) 2147483647 a2) : Met l yX9_sumOf [Cond.code yX9_sumOf cX9_sumOf 5 (some .int)] (md_rm 1 0 0) (va_Pc [.ref (base + a0), .ref (base + a1), .int a2] (md_U D cy tx base Z K N Ma Ra Ja)) (mQi D cy tx base (fun r u => TP Z K N Lt_X9_sumOf LRt_X9_sumOf Ma Ra u ∧ (iv (-2147483648) 2147483647 r))) 0 0 (fun q => base ≤ q) := by
  refine tw_ofW (L := Lt_X9_sumOf) (LR := LRt_X9_sumOf) (by decide) (Nat.le_of_ble_eq_true rfl) hTy ?_
  intro p e s m args below meth c Q ls hx hb hr hlocks hown hml hW hK hT hS hQ hl
  have hl : lv_has ls 5 [(0, .ref (base + a0)), (1, .ref (base + a1)), (2, .int a2)] := hl
  refine lv_iconst (v := 0) hx hb dX9_sumOf_0 (by decide) ?_
  refine lv_istore_n (lv' := [(3, .int 0), (0, .ref (base + a0)), (1, .ref (base + a1)), (2, .int a2)]) hx hb dX9_sumOf_1 rfl hl (by decide) rfl (fun ls hl => ?_)
  refine lv_iconst (v := 0) hx hb dX9_sumOf_2 (by decide) ?_
  refine lv_istore (lv' := [(4, .int 0), (3, .int 0), (0, .ref (base + a0)), (1, .ref (base + a1)), (2, .int a2)]) hx hb dX9_sumOf_3 hl (by decide) rfl (fun ls hl => ?_)
  have W5_3 : ∀ (n : Nat) (x1 : Int32) (x2 : Int32) (M3 : MT) (R4 : RT) (J5 : JT) (H : Heap) (locs : List Loc) (ls : Array Slot) (h_x1 : iv (-2147483648) 2147483647 x1) (h_x2 : iv 0 10 x2) (hm_3 : 10 - x2.toInt < (n : Int)) (hS : SB D cy base Z K N Lt_X9_sumOf LRt_X9_sumOf Ma Ra M3 R4 J5 s H locs) (hl : lv_has ls 5 [(3, .int x1), (4, .int x2), (0, .ref (base + a0)), (1, .ref (base + a1)), (2, .int a2)]), W p l e (md_rm 1 0 0) s m args below meth c H locs 0 0 Q (F0 m 5 ls []) := by
    intro n
    induction n with
    | zero =>
      intro x1 x2 M3 R4 J5 H locs ls h_x1 h_x2 hm_3 hS hl
      exfalso
      have := (h_x2).1; have := (h_x2).2; omega
    | succ n ih_3 =>
      intro x1 x2 M3 R4 J5 H locs ls h_x1 h_x2 hm_3 hS hl
      have f6 := hS.2.2.1
      have g7 := hS.2.2.2
      refine lv_iload hx hb dX9_sumOf_5 (lv_at hl 1 rfl) ?_
      refine lv_aload_n hx hb dX9_sumOf_7 rfl (lv_at hl 2 rfl) ?_
      refine tw_geti hx hb hW hown hK hS f_X9_33_9 hz_a0 hk_a0 (lo := (-2147483648)) (hi := 10) rfl dX9_sumOf_8 (fun x10 k9 h8 => ?_)
      refine lv_icmp_ge (tgt := 37) hx hb dX9_sumOf_11 (by decide) (fun c11 => ?_) (fun c11 => ?_)
      · have q12 : x10.toInt ≤ x2.toInt := ti_le c11
        refine lv_iload_n hx hb dX9_sumOf_37 rfl (lv_at hl 0 rfl) ?_
        exact tw_endi hx hb hr hlocks hK hT hS hQ (h_x1) dX9_sumOf_38
      · have q13 : x2.toInt < x10.toInt := ti_nle c11
        have h14 : iv 0 9 x2 := iv_ltL (y := x10) h_x2 h8 q13 (by decide)
        have h15 : iv 1 10 x10 := iv_gtL (y := x2) h8 h_x2 q13 (by decide)
        refine lv_iload_n hx hb dX9_sumOf_14 rfl (lv_at hl 4 rfl) ?_
        refine lv_iload hx hb dX9_sumOf_15 (lv_at hl 1 rfl) ?_
        refine lv_ishr hx hb dX9_sumOf_17 ?_
        refine tw_top (fun x17 => ?_)
        have h16 := iv_any x17
        refine lv_iconst (v := 1) hx hb dX9_sumOf_18 (by decide) ?_
        refine tw_iand (hi := 1) hx hb (iv_mono (iv_c (c := 1) (n := 1) (by decide)) (lo := 0) (hi := 1) (by decide) (by decide)) (by decide) dX9_sumOf_19 (fun x20 h18 => ?_)
        refine lv_iconst (v := 1) hx hb dX9_sumOf_20 (by decide) ?_
        refine lv_icmp_ne (tgt := 31) hx hb dX9_sumOf_21 (by decide) (fun c21 => ?_) (fun c21 => ?_)
        · have q22 : ¬ x20.toInt = 1 := ti_ne c21
          have h23 : iv 0 0 x20 := ⟨by have := (h18).1; have := ((iv_c (c := 1) (n := 1) (by decide))).1; have := ((iv_c (c := 1) (n := 1) (by decide))).2; omega, by have := (h18).2; have := ((iv_c (c := 1) (n := 1) (by decide))).1; have := ((iv_c (c := 1) (n := 1) (by decide))).2; omega⟩
          refine tw_iinc (lv' := fun x26 => [(4, .int x26), (3, .int x1), (0, .ref (base + a0)), (1, .ref (base + a1)), (2, .int a2)]) (lo := 1) (hi := 10) hx hb dX9_sumOf_31 hl (k := 1) rfl h14 (by decide) ⟨by decide, by decide⟩ ⟨by decide, by decide⟩ (by decide) (fun _ => rfl) (fun x26 ls e25 h24 hl => ?_)
          refine lv_goto (tgt := 5) hx hb dX9_sumOf_34 (by decide) ?_
          have hm27 : 10 - x26.toInt < (n : Int) := by
            have := (h14).1; have := (h14).2; have := (h24).1; have := (h24).2; omega
          exact ih_3 x1 x26 M3 R4 J5 H locs _ h_x1 (iv_mono h24 (by decide) (by decide)) hm27 hS (lv_sub hl [1, 0, 2, 3, 4] rfl)
        · have q28 : x20.toInt = 1 := ti_eq c21
          have h29 : iv 1 1 x20 := ⟨by have := (h18).1; have := ((iv_c (c := 1) (n := 1) (by decide))).1; omega, by have := (h18).2; have := ((iv_c (c := 1) (n := 1) (by decide))).2; omega⟩
          refine lv_iload_n hx hb dX9_sumOf_24 rfl (lv_at hl 0 rfl) ?_
          refine lv_aload_n hx hb dX9_sumOf_25 rfl (lv_at hl 3 rfl) ?_
          refine lv_iload hx hb dX9_sumOf_26 (lv_at hl 1 rfl) ?_
          refine tw_iald hx hb hK hS hz_a1 hk_a1 (Or.inr (by decide)) hn_a1 (lo := (-2147483648)) (hi := 2147483647) h14 ⟨by decide, by decide⟩ rg_u20 dX9_sumOf_28 (fun x32 k31 h30 => ?_)
          refine lv_iadd hx hb dX9_sumOf_29 ?_
          refine tw_top (fun x34 => ?_)
          have h33 := iv_any x34
          refine lv_istore_n (lv' := [(3, .int x34), (4, .int x2), (0, .ref (base + a0)), (1, .ref (base + a1)), (2, .int a2)]) hx hb dX9_sumOf_30 rfl hl (by decide) rfl (fun ls hl => ?_)
          refine tw_iinc (lv' := fun x37 => [(4, .int x37), (3, .int x34), (0, .ref (base + a0)), (1, .ref (base + a1)), (2, .int a2)]) (lo := 1) (hi := 10) hx hb dX9_sumOf_31 hl (k := 1) rfl h14 (by decide) ⟨by decide, by decide⟩ ⟨by decide, by decide⟩ (by decide) (fun _ => rfl) (fun x37 ls e36 h35 hl => ?_)
          refine lv_goto (tgt := 5) hx hb dX9_sumOf_34 (by decide) ?_
          have hm38 : 10 - x37.toInt < (n : Int) := by
            have := (h14).1; have := (h14).2; have := (h35).1; have := (h35).2; omega
          exact ih_3 x34 x37 M3 R4 J5 H locs _ h33 (iv_mono h35 (by decide) (by decide)) hm38 hS (lv_sub hl [1, 0, 2, 3, 4] rfl)
  have hm39 : 10 - (0 : Int32).toInt < (((11 : Nat) : Int) : Int) := by
    have : (0 : Int32).toInt = 0 := by decide; omega
  exact W5_3 11 0 0 Ma Ra Ja H locs _ (iv_mono (iv_c (c := 0) (n := 0) (by decide)) (by decide) (by decide)) (iv_mono (iv_c (c := 0) (n := 0) (by decide)) (by decide) (by decide)) hm39 hS (lv_sub hl [1, 0, 2, 3, 4] rfl)
def Lt_X9_takeFrom : WL := [(10, 0, 9), (14, 0, 2000000), (20, 0, 2000000), (21, 0, 2000000)]
def LRt_X9_takeFrom : WL := []
set_option maxRecDepth 100000 in
set_option maxHeartbeats 4000000 in
theorem t_X9_takeFrom (l : Launch) (D : va_G) (cy : Nat → ClassId) (tx : (Nat → Nat) × (Nat → Nat)) (base Z : Nat) (K N : Nat → Nat) (Ma : MT) (Ra : RT) (Ja : JT) (hTy : Ty Z K N Ma Ra) (a0 : Nat) (hz_a0 : a0 < Z) (hk_a0 : K a0 = 10) (a1 : Nat) (hz_a1 : a1 < Z) (hk_a1 : K a1 = 10) : Met l yX9_takeFrom [Cond.code yX9_takeFrom cX9_takeFrom 2 none] (md_rm 1 0 0) (va_Pc [.ref (base + a0), .ref (base + a1)] (md_U D cy tx base Z K N Ma Ra Ja)) (mQv D cy tx base (fun u => TP Z K N Lt_X9_takeFrom LRt_X9_takeFrom Ma Ra u ∧ (True))) 0 0 (fun q => base ≤ q) := by
  refine tw_ofW (L := Lt_X9_takeFrom) (LR := LRt_X9_takeFrom) (by decide) (Nat.le_of_ble_eq_true rfl) hTy ?_
  intro p e s m args below meth c Q ls hx hb hr hlocks hown hml hW hK hT hS hQ hl
  have hl : lv_has ls 2 [(0, .ref (base + a0)), (1, .ref (base + a1))] := hl
  refine lv_aload_n hx hb dX9_takeFrom_0 rfl (lv_at hl 0 rfl) ?_
  refine lv_aload_n hx hb dX9_takeFrom_1 rfl (lv_at hl 1 rfl) ?_
  refine tw_geti hx hb hW hown hK hS f_X9_33_9 hz_a1 hk_a1 (lo := (-2147483648)) (hi := 10) rfl dX9_takeFrom_2 (fun x3 k2 h1 => ?_)
  refine tw_puti hx hb hW hown hK hS f_X9_33_9 hz_a0 hk_a0 rfl rfl (lo := (-2147483648)) (hi := 10) rfl h1 rfl dX9_takeFrom_5 (fun H locs M6 hS k4 f5 => ?_)
  refine lv_aload_n hx hb dX9_takeFrom_8 rfl (lv_at hl 0 rfl) ?_
  refine lv_aload_n hx hb dX9_takeFrom_9 rfl (lv_at hl 1 rfl) ?_
  refine tw_geti hx hb hW hown hK hS f_X9_37_9 hz_a1 hk_a1 (lo := 0) (hi := 12) rfl dX9_takeFrom_10 (fun x9 k8 h7 => ?_)
  refine tw_puti hx hb hW hown hK hS f_X9_37_9 hz_a0 hk_a0 rfl rfl (lo := 0) (hi := 12) rfl h7 rfl dX9_takeFrom_13 (fun H locs M12 hS k10 f11 => ?_)
  refine lv_aload_n hx hb dX9_takeFrom_16 rfl (lv_at hl 0 rfl) ?_
  refine lv_aload_n hx hb dX9_takeFrom_17 rfl (lv_at hl 1 rfl) ?_
  refine tw_geti hx hb hW hown hK hS f_X9_40_9 hz_a1 hk_a1 (lo := (-2147483648)) (hi := 2147483647) rfl dX9_takeFrom_18 (fun x15 k14 h13 => ?_)
  refine tw_puti hx hb hW hown hK hS f_X9_40_9 hz_a0 hk_a0 rfl rfl (lo := (-2147483648)) (hi := 2147483647) rfl h13 rfl dX9_takeFrom_21 (fun H locs M18 hS k16 f17 => ?_)
  refine lv_aload_n hx hb dX9_takeFrom_24 rfl (lv_at hl 0 rfl) ?_
  refine lv_aload_n hx hb dX9_takeFrom_25 rfl (lv_at hl 1 rfl) ?_
  refine tw_geti hx hb hW hown hK hS f_X9_43_9 hz_a1 hk_a1 (lo := (-2147483648)) (hi := 2147483647) rfl dX9_takeFrom_26 (fun x21 k20 h19 => ?_)
  refine tw_puti hx hb hW hown hK hS f_X9_43_9 hz_a0 hk_a0 rfl rfl (lo := (-2147483648)) (hi := 2147483647) rfl h19 rfl dX9_takeFrom_29 (fun H locs M24 hS k22 f23 => ?_)
  refine lv_aload_n hx hb dX9_takeFrom_32 rfl (lv_at hl 0 rfl) ?_
  refine lv_aload_n hx hb dX9_takeFrom_33 rfl (lv_at hl 1 rfl) ?_
  refine tw_geti hx hb hW hown hK hS f_X9_46_9 hz_a1 hk_a1 (lo := (-2147483648)) (hi := 2147483647) rfl dX9_takeFrom_34 (fun x27 k26 h25 => ?_)
  refine tw_puti hx hb hW hown hK hS f_X9_46_9 hz_a0 hk_a0 rfl rfl (lo := (-2147483648)) (hi := 2147483647) rfl h25 rfl dX9_takeFrom_37 (fun H locs M30 hS k28 f29 => ?_)
  refine lv_aload_n hx hb dX9_takeFrom_40 rfl (lv_at hl 0 rfl) ?_
  refine lv_aload_n hx hb dX9_takeFrom_41 rfl (lv_at hl 1 rfl) ?_
  refine tw_geti hx hb hW hown hK hS f_X9_49_9 hz_a1 hk_a1 (lo := 0) (hi := 9999) rfl dX9_takeFrom_42 (fun x33 k32 h31 => ?_)
  refine tw_puti hx hb hW hown hK hS f_X9_49_9 hz_a0 hk_a0 rfl rfl (lo := 0) (hi := 9999) rfl h31 rfl dX9_takeFrom_45 (fun H locs M36 hS k34 f35 => ?_)
  refine lv_aload_n hx hb dX9_takeFrom_48 rfl (lv_at hl 0 rfl) ?_
  refine lv_aload_n hx hb dX9_takeFrom_49 rfl (lv_at hl 1 rfl) ?_
  refine tw_geti hx hb hW hown hK hS f_X9_58_9 hz_a1 hk_a1 (lo := 0) (hi := 2147483647) rfl dX9_takeFrom_50 (fun x39 k38 h37 => ?_)
  refine tw_puti hx hb hW hown hK hS f_X9_58_9 hz_a0 hk_a0 rfl rfl (lo := 0) (hi := 2147483647) rfl h37 rfl dX9_takeFrom_53 (fun H locs M42 hS k40 f41 => ?_)
  refine lv_aload_n hx hb dX9_takeFrom_56 rfl (lv_at hl 0 rfl) ?_
  refine lv_aload_n hx hb dX9_takeFrom_57 rfl (lv_at hl 1 rfl) ?_
  refine tw_geti hx hb hW hown hK hS f_X9_52_9 hz_a1 hk_a1 (lo := 0) (hi := 8) rfl dX9_takeFrom_58 (fun x45 k44 h43 => ?_)
  refine tw_puti hx hb hW hown hK hS f_X9_52_9 hz_a0 hk_a0 rfl rfl (lo := 0) (hi := 8) rfl h43 rfl dX9_takeFrom_61 (fun H locs M48 hS k46 f47 => ?_)
  refine lv_aload_n hx hb dX9_takeFrom_64 rfl (lv_at hl 0 rfl) ?_
  refine lv_aload_n hx hb dX9_takeFrom_65 rfl (lv_at hl 1 rfl) ?_
  refine tw_geti hx hb hW hown hK hS f_X9_55_9 hz_a1 hk_a1 (lo := 0) (hi := 12) rfl dX9_takeFrom_66 (fun x51 k50 h49 => ?_)
  refine tw_puti hx hb hW hown hK hS f_X9_55_9 hz_a0 hk_a0 rfl rfl (lo := 0) (hi := 12) rfl h49 rfl dX9_takeFrom_69 (fun H locs M54 hS k52 f53 => ?_)
  refine lv_aload_n hx hb dX9_takeFrom_72 rfl (lv_at hl 1 rfl) ?_
  refine tw_getr hx hb hW hown hK hS f_X9_9_9 hz_a1 hk_a1 (t := 14) (n := 120) rfl dX9_takeFrom_73 (fun b55 k56 hz_b55 hk_b55 hn_b55 => ?_)
  have hn_b55 := hn_b55 (by decide)
  refine lv_iconst (v := 0) hx hb dX9_takeFrom_76 (by decide) ?_
  refine lv_aload_n hx hb dX9_takeFrom_77 rfl (lv_at hl 0 rfl) ?_
  refine tw_getr hx hb hW hown hK hS f_X9_9_9 hz_a0 hk_a0 (t := 14) (n := 120) rfl dX9_takeFrom_78 (fun b57 k58 hz_b57 hk_b57 hn_b57 => ?_)
  have hn_b57 := hn_b57 (by decide)
  refine lv_iconst (v := 0) hx hb dX9_takeFrom_81 (by decide) ?_
  refine lv_aload_n hx hb dX9_takeFrom_82 rfl (lv_at hl 0 rfl) ?_
  refine tw_getrk hx hb hW hown hK hS f_X9_9_9 hz_a0 hk_a0 (b := b57) k58 dX9_takeFrom_83 ?_
  refine tw_alenk hx hb hK hS hz_b57 hk_b57 (by decide) hn_b57 (v := 120) (by decide) dX9_takeFrom_86 ?_
  refine tw_copy hx hb (hml.trans hl.1.symm) hW hown hK hS (md_okc w_3_224 rfl (md_okc w_3_226 rfl (md_okc w_3_225 rfl (md_okc w_1_18 rfl (md_ok0))))) hz_b57 hk_b57 (Or.inl rfl) hz_b55 hk_b55 (Or.inl rfl) hn_b57 hn_b55 (by have := ((iv_c (c := 120) (n := 120) (by decide))).1; have := ((iv_c (c := 120) (n := 120) (by decide))).2; have := ((iv_c (c := 0) (n := 0) (by decide))).1; have := ((iv_c (c := 0) (n := 0) (by decide))).2; have := ((iv_c (c := 0) (n := 0) (by decide))).1; have := ((iv_c (c := 0) (n := 0) (by decide))).2; omega) (by have := ((iv_c (c := 120) (n := 120) (by decide))).1; have := ((iv_c (c := 120) (n := 120) (by decide))).2; have := ((iv_c (c := 0) (n := 0) (by decide))).1; have := ((iv_c (c := 0) (n := 0) (by decide))).2; have := ((iv_c (c := 0) (n := 0) (by decide))).1; have := ((iv_c (c := 0) (n := 0) (by decide))).2; omega) (by have := ((iv_c (c := 120) (n := 120) (by decide))).1; have := ((iv_c (c := 120) (n := 120) (by decide))).2; have := ((iv_c (c := 0) (n := 0) (by decide))).1; have := ((iv_c (c := 0) (n := 0) (by decide))).2; have := ((iv_c (c := 0) (n := 0) (by decide))).1; have := ((iv_c (c := 0) (n := 0) (by decide))).2; omega) (by have := ((iv_c (c := 120) (n := 120) (by decide))).1; have := ((iv_c (c := 120) (n := 120) (by decide))).2; have := ((iv_c (c := 0) (n := 0) (by decide))).1; have := ((iv_c (c := 0) (n := 0) (by decide))).2; have := ((iv_c (c := 0) (n := 0) (by decide))).1; have := ((iv_c (c := 0) (n := 0) (by decide))).2; omega) (by have := ((iv_c (c := 120) (n := 120) (by decide))).1; have := ((iv_c (c := 120) (n := 120) (by decide))).2; have := ((iv_c (c := 0) (n := 0) (by decide))).1; have := ((iv_c (c := 0) (n := 0) (by decide))).2; have := ((iv_c (c := 0) (n := 0) (by decide))).1; have := ((iv_c (c := 0) (n := 0) (by decide))).2; omega) (fun _ _ => ⟨by show (-2147483648 : Int) ≤ -2147483648; decide, by show (2147483647 : Int) ≤ 2147483647; decide⟩) (Nat.le_of_ble_eq_true rfl) (Nat.le_of_ble_eq_true rfl) rfl dX9_takeFrom_87 (fun H locs M61 hS f59 k60 => ?_)
  refine lv_aload_n hx hb dX9_takeFrom_90 rfl (lv_at hl 1 rfl) ?_
  refine tw_getr hx hb hW hown hK hS f_X9_15_9 hz_a1 hk_a1 (t := 20) (n := 10) rfl dX9_takeFrom_91 (fun b62 k63 hz_b62 hk_b62 hn_b62 => ?_)
  have hn_b62 := hn_b62 (by decide)
  refine lv_iconst (v := 0) hx hb dX9_takeFrom_94 (by decide) ?_
  refine lv_aload_n hx hb dX9_takeFrom_95 rfl (lv_at hl 0 rfl) ?_
  refine tw_getr hx hb hW hown hK hS f_X9_15_9 hz_a0 hk_a0 (t := 20) (n := 10) rfl dX9_takeFrom_96 (fun b64 k65 hz_b64 hk_b64 hn_b64 => ?_)
  have hn_b64 := hn_b64 (by decide)
  refine lv_iconst (v := 0) hx hb dX9_takeFrom_99 (by decide) ?_
  refine lv_bipush (v := 10) hx hb dX9_takeFrom_100 (by decide) ?_
  refine tw_copy hx hb (hml.trans hl.1.symm) hW hown hK hS (md_okc w_3_224 rfl (md_okc w_3_226 rfl (md_okc w_3_225 rfl (md_okc w_1_18 rfl (md_ok0))))) hz_b64 hk_b64 (Or.inr (by decide)) hz_b62 hk_b62 (Or.inr (by decide)) hn_b64 hn_b62 (by have := ((iv_c (c := 10) (n := 10) (by decide))).1; have := ((iv_c (c := 10) (n := 10) (by decide))).2; have := ((iv_c (c := 0) (n := 0) (by decide))).1; have := ((iv_c (c := 0) (n := 0) (by decide))).2; have := ((iv_c (c := 0) (n := 0) (by decide))).1; have := ((iv_c (c := 0) (n := 0) (by decide))).2; omega) (by have := ((iv_c (c := 10) (n := 10) (by decide))).1; have := ((iv_c (c := 10) (n := 10) (by decide))).2; have := ((iv_c (c := 0) (n := 0) (by decide))).1; have := ((iv_c (c := 0) (n := 0) (by decide))).2; have := ((iv_c (c := 0) (n := 0) (by decide))).1; have := ((iv_c (c := 0) (n := 0) (by decide))).2; omega) (by have := ((iv_c (c := 10) (n := 10) (by decide))).1; have := ((iv_c (c := 10) (n := 10) (by decide))).2; have := ((iv_c (c := 0) (n := 0) (by decide))).1; have := ((iv_c (c := 0) (n := 0) (by decide))).2; have := ((iv_c (c := 0) (n := 0) (by decide))).1; have := ((iv_c (c := 0) (n := 0) (by decide))).2; omega) (by have := ((iv_c (c := 10) (n := 10) (by decide))).1; have := ((iv_c (c := 10) (n := 10) (by decide))).2; have := ((iv_c (c := 0) (n := 0) (by decide))).1; have := ((iv_c (c := 0) (n := 0) (by decide))).2; have := ((iv_c (c := 0) (n := 0) (by decide))).1; have := ((iv_c (c := 0) (n := 0) (by decide))).2; omega) (by have := ((iv_c (c := 10) (n := 10) (by decide))).1; have := ((iv_c (c := 10) (n := 10) (by decide))).2; have := ((iv_c (c := 0) (n := 0) (by decide))).1; have := ((iv_c (c := 0) (n := 0) (by decide))).2; have := ((iv_c (c := 0) (n := 0) (by decide))).1; have := ((iv_c (c := 0) (n := 0) (by decide))).2; omega) (fun _ _ => ⟨by show (-2147483648 : Int) ≤ -2147483648; decide, by show (2147483647 : Int) ≤ 2147483647; decide⟩) (Nat.le_of_ble_eq_true rfl) (Nat.le_of_ble_eq_true rfl) rfl dX9_takeFrom_102 (fun H locs M68 hS f66 k67 => ?_)
  refine lv_aload_n hx hb dX9_takeFrom_105 rfl (lv_at hl 1 rfl) ?_
  refine tw_getr hx hb hW hown hK hS f_X9_18_9 hz_a1 hk_a1 (t := 14) (n := 10) rfl dX9_takeFrom_106 (fun b69 k70 hz_b69 hk_b69 hn_b69 => ?_)
  have hn_b69 := hn_b69 (by decide)
  refine lv_iconst (v := 0) hx hb dX9_takeFrom_109 (by decide) ?_
  refine lv_aload_n hx hb dX9_takeFrom_110 rfl (lv_at hl 0 rfl) ?_
  refine tw_getr hx hb hW hown hK hS f_X9_18_9 hz_a0 hk_a0 (t := 14) (n := 10) rfl dX9_takeFrom_111 (fun b71 k72 hz_b71 hk_b71 hn_b71 => ?_)
  have hn_b71 := hn_b71 (by decide)
  refine lv_iconst (v := 0) hx hb dX9_takeFrom_114 (by decide) ?_
  refine lv_bipush (v := 10) hx hb dX9_takeFrom_115 (by decide) ?_
  refine tw_copy hx hb (hml.trans hl.1.symm) hW hown hK hS (md_okc w_3_224 rfl (md_okc w_3_226 rfl (md_okc w_3_225 rfl (md_okc w_1_18 rfl (md_ok0))))) hz_b71 hk_b71 (Or.inl rfl) hz_b69 hk_b69 (Or.inl rfl) hn_b71 hn_b69 (by have := ((iv_c (c := 10) (n := 10) (by decide))).1; have := ((iv_c (c := 10) (n := 10) (by decide))).2; have := ((iv_c (c := 0) (n := 0) (by decide))).1; have := ((iv_c (c := 0) (n := 0) (by decide))).2; have := ((iv_c (c := 0) (n := 0) (by decide))).1; have := ((iv_c (c := 0) (n := 0) (by decide))).2; omega) (by have := ((iv_c (c := 10) (n := 10) (by decide))).1; have := ((iv_c (c := 10) (n := 10) (by decide))).2; have := ((iv_c (c := 0) (n := 0) (by decide))).1; have := ((iv_c (c := 0) (n := 0) (by decide))).2; have := ((iv_c (c := 0) (n := 0) (by decide))).1; have := ((iv_c (c := 0) (n := 0) (by decide))).2; omega) (by have := ((iv_c (c := 10) (n := 10) (by decide))).1; have := ((iv_c (c := 10) (n := 10) (by decide))).2; have := ((iv_c (c := 0) (n := 0) (by decide))).1; have := ((iv_c (c := 0) (n := 0) (by decide))).2; have := ((iv_c (c := 0) (n := 0) (by decide))).1; have := ((iv_c (c := 0) (n := 0) (by decide))).2; omega) (by have := ((iv_c (c := 10) (n := 10) (by decide))).1; have := ((iv_c (c := 10) (n := 10) (by decide))).2; have := ((iv_c (c := 0) (n := 0) (by decide))).1; have := ((iv_c (c := 0) (n := 0) (by decide))).2; have := ((iv_c (c := 0) (n := 0) (by decide))).1; have := ((iv_c (c := 0) (n := 0) (by decide))).2; omega) (by have := ((iv_c (c := 10) (n := 10) (by decide))).1; have := ((iv_c (c := 10) (n := 10) (by decide))).2; have := ((iv_c (c := 0) (n := 0) (by decide))).1; have := ((iv_c (c := 0) (n := 0) (by decide))).2; have := ((iv_c (c := 0) (n := 0) (by decide))).1; have := ((iv_c (c := 0) (n := 0) (by decide))).2; omega) (fun _ _ => ⟨by show (-2147483648 : Int) ≤ -2147483648; decide, by show (2147483647 : Int) ≤ 2147483647; decide⟩) (Nat.le_of_ble_eq_true rfl) (Nat.le_of_ble_eq_true rfl) rfl dX9_takeFrom_117 (fun H locs M75 hS f73 k74 => ?_)
  refine lv_aload_n hx hb dX9_takeFrom_120 rfl (lv_at hl 1 rfl) ?_
  refine tw_getr hx hb hW hown hK hS f_X9_21_9 hz_a1 hk_a1 (t := 14) (n := 10) rfl dX9_takeFrom_121 (fun b76 k77 hz_b76 hk_b76 hn_b76 => ?_)
  have hn_b76 := hn_b76 (by decide)
  refine lv_iconst (v := 0) hx hb dX9_takeFrom_124 (by decide) ?_
  refine lv_aload_n hx hb dX9_takeFrom_125 rfl (lv_at hl 0 rfl) ?_
  refine tw_getr hx hb hW hown hK hS f_X9_21_9 hz_a0 hk_a0 (t := 14) (n := 10) rfl dX9_takeFrom_126 (fun b78 k79 hz_b78 hk_b78 hn_b78 => ?_)
  have hn_b78 := hn_b78 (by decide)
  refine lv_iconst (v := 0) hx hb dX9_takeFrom_129 (by decide) ?_
  refine lv_bipush (v := 10) hx hb dX9_takeFrom_130 (by decide) ?_
  refine tw_copy hx hb (hml.trans hl.1.symm) hW hown hK hS (md_okc w_3_224 rfl (md_okc w_3_226 rfl (md_okc w_3_225 rfl (md_okc w_1_18 rfl (md_ok0))))) hz_b78 hk_b78 (Or.inl rfl) hz_b76 hk_b76 (Or.inl rfl) hn_b78 hn_b76 (by have := ((iv_c (c := 10) (n := 10) (by decide))).1; have := ((iv_c (c := 10) (n := 10) (by decide))).2; have := ((iv_c (c := 0) (n := 0) (by decide))).1; have := ((iv_c (c := 0) (n := 0) (by decide))).2; have := ((iv_c (c := 0) (n := 0) (by decide))).1; have := ((iv_c (c := 0) (n := 0) (by decide))).2; omega) (by have := ((iv_c (c := 10) (n := 10) (by decide))).1; have := ((iv_c (c := 10) (n := 10) (by decide))).2; have := ((iv_c (c := 0) (n := 0) (by decide))).1; have := ((iv_c (c := 0) (n := 0) (by decide))).2; have := ((iv_c (c := 0) (n := 0) (by decide))).1; have := ((iv_c (c := 0) (n := 0) (by decide))).2; omega) (by have := ((iv_c (c := 10) (n := 10) (by decide))).1; have := ((iv_c (c := 10) (n := 10) (by decide))).2; have := ((iv_c (c := 0) (n := 0) (by decide))).1; have := ((iv_c (c := 0) (n := 0) (by decide))).2; have := ((iv_c (c := 0) (n := 0) (by decide))).1; have := ((iv_c (c := 0) (n := 0) (by decide))).2; omega) (by have := ((iv_c (c := 10) (n := 10) (by decide))).1; have := ((iv_c (c := 10) (n := 10) (by decide))).2; have := ((iv_c (c := 0) (n := 0) (by decide))).1; have := ((iv_c (c := 0) (n := 0) (by decide))).2; have := ((iv_c (c := 0) (n := 0) (by decide))).1; have := ((iv_c (c := 0) (n := 0) (by decide))).2; omega) (by have := ((iv_c (c := 10) (n := 10) (by decide))).1; have := ((iv_c (c := 10) (n := 10) (by decide))).2; have := ((iv_c (c := 0) (n := 0) (by decide))).1; have := ((iv_c (c := 0) (n := 0) (by decide))).2; have := ((iv_c (c := 0) (n := 0) (by decide))).1; have := ((iv_c (c := 0) (n := 0) (by decide))).2; omega) (fun _ _ => ⟨by show (-2147483648 : Int) ≤ -2147483648; decide, by show (2147483647 : Int) ≤ 2147483647; decide⟩) (Nat.le_of_ble_eq_true rfl) (Nat.le_of_ble_eq_true rfl) rfl dX9_takeFrom_132 (fun H locs M82 hS f80 k81 => ?_)
  refine lv_aload_n hx hb dX9_takeFrom_135 rfl (lv_at hl 1 rfl) ?_
  refine tw_getr hx hb hW hown hK hS f_X9_24_9 hz_a1 hk_a1 (t := 14) (n := 10) rfl dX9_takeFrom_136 (fun b83 k84 hz_b83 hk_b83 hn_b83 => ?_)
  have hn_b83 := hn_b83 (by decide)
  refine lv_iconst (v := 0) hx hb dX9_takeFrom_139 (by decide) ?_
  refine lv_aload_n hx hb dX9_takeFrom_140 rfl (lv_at hl 0 rfl) ?_
  refine tw_getr hx hb hW hown hK hS f_X9_24_9 hz_a0 hk_a0 (t := 14) (n := 10) rfl dX9_takeFrom_141 (fun b85 k86 hz_b85 hk_b85 hn_b85 => ?_)
  have hn_b85 := hn_b85 (by decide)
  refine lv_iconst (v := 0) hx hb dX9_takeFrom_144 (by decide) ?_
  refine lv_bipush (v := 10) hx hb dX9_takeFrom_145 (by decide) ?_
  refine tw_copy hx hb (hml.trans hl.1.symm) hW hown hK hS (md_okc w_3_224 rfl (md_okc w_3_226 rfl (md_okc w_3_225 rfl (md_okc w_1_18 rfl (md_ok0))))) hz_b85 hk_b85 (Or.inl rfl) hz_b83 hk_b83 (Or.inl rfl) hn_b85 hn_b83 (by have := ((iv_c (c := 10) (n := 10) (by decide))).1; have := ((iv_c (c := 10) (n := 10) (by decide))).2; have := ((iv_c (c := 0) (n := 0) (by decide))).1; have := ((iv_c (c := 0) (n := 0) (by decide))).2; have := ((iv_c (c := 0) (n := 0) (by decide))).1; have := ((iv_c (c := 0) (n := 0) (by decide))).2; omega) (by have := ((iv_c (c := 10) (n := 10) (by decide))).1; have := ((iv_c (c := 10) (n := 10) (by decide))).2; have := ((iv_c (c := 0) (n := 0) (by decide))).1; have := ((iv_c (c := 0) (n := 0) (by decide))).2; have := ((iv_c (c := 0) (n := 0) (by decide))).1; have := ((iv_c (c := 0) (n := 0) (by decide))).2; omega) (by have := ((iv_c (c := 10) (n := 10) (by decide))).1; have := ((iv_c (c := 10) (n := 10) (by decide))).2; have := ((iv_c (c := 0) (n := 0) (by decide))).1; have := ((iv_c (c := 0) (n := 0) (by decide))).2; have := ((iv_c (c := 0) (n := 0) (by decide))).1; have := ((iv_c (c := 0) (n := 0) (by decide))).2; omega) (by have := ((iv_c (c := 10) (n := 10) (by decide))).1; have := ((iv_c (c := 10) (n := 10) (by decide))).2; have := ((iv_c (c := 0) (n := 0) (by decide))).1; have := ((iv_c (c := 0) (n := 0) (by decide))).2; have := ((iv_c (c := 0) (n := 0) (by decide))).1; have := ((iv_c (c := 0) (n := 0) (by decide))).2; omega) (by have := ((iv_c (c := 10) (n := 10) (by decide))).1; have := ((iv_c (c := 10) (n := 10) (by decide))).2; have := ((iv_c (c := 0) (n := 0) (by decide))).1; have := ((iv_c (c := 0) (n := 0) (by decide))).2; have := ((iv_c (c := 0) (n := 0) (by decide))).1; have := ((iv_c (c := 0) (n := 0) (by decide))).2; omega) (fun _ _ => ⟨by show (-2147483648 : Int) ≤ -2147483648; decide, by show (2147483647 : Int) ≤ 2147483647; decide⟩) (Nat.le_of_ble_eq_true rfl) (Nat.le_of_ble_eq_true rfl) rfl dX9_takeFrom_147 (fun H locs M89 hS f87 k88 => ?_)
  refine lv_aload_n hx hb dX9_takeFrom_150 rfl (lv_at hl 1 rfl) ?_
  refine tw_getr hx hb hW hown hK hS f_X9_27_9 hz_a1 hk_a1 (t := 21) (n := 8) rfl dX9_takeFrom_151 (fun b90 k91 hz_b90 hk_b90 hn_b90 => ?_)
  have hn_b90 := hn_b90 (by decide)
  refine lv_iconst (v := 0) hx hb dX9_takeFrom_154 (by decide) ?_
  refine lv_aload_n hx hb dX9_takeFrom_155 rfl (lv_at hl 0 rfl) ?_
  refine tw_getr hx hb hW hown hK hS f_X9_27_9 hz_a0 hk_a0 (t := 21) (n := 8) rfl dX9_takeFrom_156 (fun b92 k93 hz_b92 hk_b92 hn_b92 => ?_)
  have hn_b92 := hn_b92 (by decide)
  refine lv_iconst (v := 0) hx hb dX9_takeFrom_159 (by decide) ?_
  refine lv_bipush (v := 8) hx hb dX9_takeFrom_160 (by decide) ?_
  refine tw_copy hx hb (hml.trans hl.1.symm) hW hown hK hS (md_okc w_3_224 rfl (md_okc w_3_226 rfl (md_okc w_3_225 rfl (md_okc w_1_18 rfl (md_ok0))))) hz_b92 hk_b92 (Or.inr (by decide)) hz_b90 hk_b90 (Or.inr (by decide)) hn_b92 hn_b90 (by have := ((iv_c (c := 8) (n := 8) (by decide))).1; have := ((iv_c (c := 8) (n := 8) (by decide))).2; have := ((iv_c (c := 0) (n := 0) (by decide))).1; have := ((iv_c (c := 0) (n := 0) (by decide))).2; have := ((iv_c (c := 0) (n := 0) (by decide))).1; have := ((iv_c (c := 0) (n := 0) (by decide))).2; omega) (by have := ((iv_c (c := 8) (n := 8) (by decide))).1; have := ((iv_c (c := 8) (n := 8) (by decide))).2; have := ((iv_c (c := 0) (n := 0) (by decide))).1; have := ((iv_c (c := 0) (n := 0) (by decide))).2; have := ((iv_c (c := 0) (n := 0) (by decide))).1; have := ((iv_c (c := 0) (n := 0) (by decide))).2; omega) (by have := ((iv_c (c := 8) (n := 8) (by decide))).1; have := ((iv_c (c := 8) (n := 8) (by decide))).2; have := ((iv_c (c := 0) (n := 0) (by decide))).1; have := ((iv_c (c := 0) (n := 0) (by decide))).2; have := ((iv_c (c := 0) (n := 0) (by decide))).1; have := ((iv_c (c := 0) (n := 0) (by decide))).2; omega) (by have := ((iv_c (c := 8) (n := 8) (by decide))).1; have := ((iv_c (c := 8) (n := 8) (by decide))).2; have := ((iv_c (c := 0) (n := 0) (by decide))).1; have := ((iv_c (c := 0) (n := 0) (by decide))).2; have := ((iv_c (c := 0) (n := 0) (by decide))).1; have := ((iv_c (c := 0) (n := 0) (by decide))).2; omega) (by have := ((iv_c (c := 8) (n := 8) (by decide))).1; have := ((iv_c (c := 8) (n := 8) (by decide))).2; have := ((iv_c (c := 0) (n := 0) (by decide))).1; have := ((iv_c (c := 0) (n := 0) (by decide))).2; have := ((iv_c (c := 0) (n := 0) (by decide))).1; have := ((iv_c (c := 0) (n := 0) (by decide))).2; omega) (fun _ _ => ⟨by show (0 : Int) ≤ 0; decide, by show (11 : Int) ≤ 11; decide⟩) (Nat.le_of_ble_eq_true rfl) (Nat.le_of_ble_eq_true rfl) rfl dX9_takeFrom_162 (fun H locs M96 hS f94 k95 => ?_)
  refine lv_aload_n hx hb dX9_takeFrom_165 rfl (lv_at hl 1 rfl) ?_
  refine tw_getr hx hb hW hown hK hS f_X9_30_9 hz_a1 hk_a1 (t := 14) (n := 48) rfl dX9_takeFrom_166 (fun b97 k98 hz_b97 hk_b97 hn_b97 => ?_)
  have hn_b97 := hn_b97 (by decide)
  refine lv_iconst (v := 0) hx hb dX9_takeFrom_169 (by decide) ?_
  refine lv_aload_n hx hb dX9_takeFrom_170 rfl (lv_at hl 0 rfl) ?_
  refine tw_getr hx hb hW hown hK hS f_X9_30_9 hz_a0 hk_a0 (t := 14) (n := 48) rfl dX9_takeFrom_171 (fun b99 k100 hz_b99 hk_b99 hn_b99 => ?_)
  have hn_b99 := hn_b99 (by decide)
  refine lv_iconst (v := 0) hx hb dX9_takeFrom_174 (by decide) ?_
  refine lv_aload_n hx hb dX9_takeFrom_175 rfl (lv_at hl 0 rfl) ?_
  refine tw_getrk hx hb hW hown hK hS f_X9_30_9 hz_a0 hk_a0 (b := b99) k100 dX9_takeFrom_176 ?_
  refine tw_alenk hx hb hK hS hz_b99 hk_b99 (by decide) hn_b99 (v := 48) (by decide) dX9_takeFrom_179 ?_
  refine tw_copy hx hb (hml.trans hl.1.symm) hW hown hK hS (md_okc w_3_224 rfl (md_okc w_3_226 rfl (md_okc w_3_225 rfl (md_okc w_1_18 rfl (md_ok0))))) hz_b99 hk_b99 (Or.inl rfl) hz_b97 hk_b97 (Or.inl rfl) hn_b99 hn_b97 (by have := ((iv_c (c := 48) (n := 48) (by decide))).1; have := ((iv_c (c := 48) (n := 48) (by decide))).2; have := ((iv_c (c := 0) (n := 0) (by decide))).1; have := ((iv_c (c := 0) (n := 0) (by decide))).2; have := ((iv_c (c := 0) (n := 0) (by decide))).1; have := ((iv_c (c := 0) (n := 0) (by decide))).2; omega) (by have := ((iv_c (c := 48) (n := 48) (by decide))).1; have := ((iv_c (c := 48) (n := 48) (by decide))).2; have := ((iv_c (c := 0) (n := 0) (by decide))).1; have := ((iv_c (c := 0) (n := 0) (by decide))).2; have := ((iv_c (c := 0) (n := 0) (by decide))).1; have := ((iv_c (c := 0) (n := 0) (by decide))).2; omega) (by have := ((iv_c (c := 48) (n := 48) (by decide))).1; have := ((iv_c (c := 48) (n := 48) (by decide))).2; have := ((iv_c (c := 0) (n := 0) (by decide))).1; have := ((iv_c (c := 0) (n := 0) (by decide))).2; have := ((iv_c (c := 0) (n := 0) (by decide))).1; have := ((iv_c (c := 0) (n := 0) (by decide))).2; omega) (by have := ((iv_c (c := 48) (n := 48) (by decide))).1; have := ((iv_c (c := 48) (n := 48) (by decide))).2; have := ((iv_c (c := 0) (n := 0) (by decide))).1; have := ((iv_c (c := 0) (n := 0) (by decide))).2; have := ((iv_c (c := 0) (n := 0) (by decide))).1; have := ((iv_c (c := 0) (n := 0) (by decide))).2; omega) (by have := ((iv_c (c := 48) (n := 48) (by decide))).1; have := ((iv_c (c := 48) (n := 48) (by decide))).2; have := ((iv_c (c := 0) (n := 0) (by decide))).1; have := ((iv_c (c := 0) (n := 0) (by decide))).2; have := ((iv_c (c := 0) (n := 0) (by decide))).1; have := ((iv_c (c := 0) (n := 0) (by decide))).2; omega) (fun _ _ => ⟨by show (-2147483648 : Int) ≤ -2147483648; decide, by show (2147483647 : Int) ≤ 2147483647; decide⟩) (Nat.le_of_ble_eq_true rfl) (Nat.le_of_ble_eq_true rfl) rfl dX9_takeFrom_180 (fun H locs M103 hS f101 k102 => ?_)
  exact tw_endv hx hb hr hlocks hK hT hS hQ (trivial) dX9_takeFrom_183
def Lt_X9_worthOf : WL := []
def LRt_X9_worthOf : WL := []
set_option maxRecDepth 100000 in
set_option maxHeartbeats 4000000 in
theorem t_X9_worthOf (l : Launch) (D : va_G) (cy : Nat → ClassId) (tx : (Nat → Nat) × (Nat → Nat)) (base Z : Nat) (K N : Nat → Nat) (Ma : MT) (Ra : RT) (Ja : JT) (hTy : Ty Z K N Ma Ra) (a0 : Nat) (hz_a0 : a0 < Z) (hk_a0 : K a0 = 10) (a1 : Int32) (h_a1 : iv 0 9 a1) (a2 : Int32) (h_a2 : iv 0 11 a2) : Met l yX9_worthOf [Cond.code yX9_worthOf cX9_worthOf 3 (some .int)] (md_rm 1 0 0) (va_Pc [.ref (base + a0), .int a1, .int a2] (md_U D cy tx base Z K N Ma Ra Ja)) (mQi D cy tx base (fun r u => TP Z K N Lt_X9_worthOf LRt_X9_worthOf Ma Ra u ∧ (iv (-2147483648) 2147483647 r))) 0 0 (fun q => base ≤ q) := by
  refine tw_ofW (L := Lt_X9_worthOf) (LR := LRt_X9_worthOf) (by decide) (Nat.le_of_ble_eq_true rfl) hTy ?_
  intro p e s m args below meth c Q ls hx hb hr hlocks hown hml hW hK hT hS hQ hl
  have hl : lv_has ls 3 [(0, .ref (base + a0)), (1, .int a1), (2, .int a2)] := hl
  refine lv_aload_n hx hb dX9_worthOf_0 rfl (lv_at hl 0 rfl) ?_
  refine tw_getr hx hb hW hown hK hS f_X9_9_9 hz_a0 hk_a0 (t := 14) (n := 120) rfl dX9_worthOf_1 (fun b1 k2 hz_b1 hk_b1 hn_b1 => ?_)
  have hn_b1 := hn_b1 (by decide)
  refine lv_iload_n hx hb dX9_worthOf_4 rfl (lv_at hl 2 rfl) ?_
  refine lv_bipush (v := 10) hx hb dX9_worthOf_5 (by decide) ?_
  refine tw_imulc (k := 10) (lo := 0) (hi := 110) hx hb h_a2 (by decide) (by decide) ⟨by decide, by decide⟩ ⟨by decide, by decide⟩ dX9_worthOf_7 (fun x5 e4 h3 => ?_)
  refine lv_iload_n hx hb dX9_worthOf_8 rfl (lv_at hl 1 rfl) ?_
  refine tw_iadd (lo := 0) (hi := 119) hx hb h3 h_a1 ⟨by decide, by decide⟩ ⟨by decide, by decide⟩ dX9_worthOf_9 (fun x8 e7 h6 => ?_)
  refine tw_iald hx hb hK hS hz_b1 hk_b1 (Or.inl rfl) hn_b1 (lo := (-2147483648)) (hi := 2147483647) h6 ⟨by decide, by decide⟩ rg_u14 dX9_worthOf_10 (fun x11 k10 h9 => ?_)
  exact tw_endi hx hb hr hlocks hK hT hS hQ (h9) dX9_worthOf_11
def Lt_X9_worthOfSet : WL := []
def LRt_X9_worthOfSet : WL := []
set_option maxRecDepth 100000 in
set_option maxHeartbeats 4000000 in
theorem t_X9_worthOfSet (l : Launch) (D : va_G) (cy : Nat → ClassId) (tx : (Nat → Nat) × (Nat → Nat)) (base Z : Nat) (K N : Nat → Nat) (Ma : MT) (Ra : RT) (Ja : JT) (hTy : Ty Z K N Ma Ra) (a0 : Nat) (hz_a0 : a0 < Z) (hk_a0 : K a0 = 10) (a1 : Int32) (h_a1 : iv (-2147483648) 2147483647 a1) (a2 : Int32) (h_a2 : iv 0 11 a2) : Met l yX9_worthOfSet [Cond.code yX9_worthOfSet cX9_worthOfSet 5 (some .int)] (md_rm 2 0 0) (va_Pc [.ref (base + a0), .int a1, .int a2] (md_U D cy tx base Z K N Ma Ra Ja)) (mQi D cy tx base (fun r u => TP Z K N Lt_X9_worthOfSet LRt_X9_worthOfSet Ma Ra u ∧ (iv (-2147483648) 2147483647 r))) 0 0 (fun q => base ≤ q) := by
  refine tw_ofW (L := Lt_X9_worthOfSet) (LR := LRt_X9_worthOfSet) (by decide) (Nat.le_of_ble_eq_true rfl) hTy ?_
  intro p e s m args below meth c Q ls hx hb hr hlocks hown hml hW hK hT hS hQ hl
  have hl : lv_has ls 5 [(0, .ref (base + a0)), (1, .int a1), (2, .int a2)] := hl
  refine lv_iconst (v := 0) hx hb dX9_worthOfSet_0 (by decide) ?_
  refine lv_istore_n (lv' := [(3, .int 0), (0, .ref (base + a0)), (1, .int a1), (2, .int a2)]) hx hb dX9_worthOfSet_1 rfl hl (by decide) rfl (fun ls hl => ?_)
  refine lv_iconst (v := 0) hx hb dX9_worthOfSet_2 (by decide) ?_
  refine lv_istore (lv' := [(4, .int 0), (3, .int 0), (0, .ref (base + a0)), (1, .int a1), (2, .int a2)]) hx hb dX9_worthOfSet_3 hl (by decide) rfl (fun ls hl => ?_)
  have W5_3 : ∀ (n : Nat) (x1 : Int32) (x2 : Int32) (M3 : MT) (R4 : RT) (J5 : JT) (H : Heap) (locs : List Loc) (ls : Array Slot) (h_x1 : iv (-2147483648) 2147483647 x1) (h_x2 : iv 0 10 x2) (hm_3 : 10 - x2.toInt < (n : Int)) (hS : SB D cy base Z K N Lt_X9_worthOfSet LRt_X9_worthOfSet Ma Ra M3 R4 J5 s H locs) (hl : lv_has ls 5 [(3, .int x1), (4, .int x2), (0, .ref (base + a0)), (1, .int a1), (2, .int a2)]), W p l e (md_rm 2 0 0) s m args below meth c H locs 0 0 Q (F0 m 5 ls []) := by
    intro n
    induction n with
    | zero =>
      intro x1 x2 M3 R4 J5 H locs ls h_x1 h_x2 hm_3 hS hl
      exfalso
      have := (h_x2).1; have := (h_x2).2; omega
    | succ n ih_3 =>
      intro x1 x2 M3 R4 J5 H locs ls h_x1 h_x2 hm_3 hS hl
      have f6 := hS.2.2.1
      have g7 := hS.2.2.2
      refine lv_iload hx hb dX9_worthOfSet_5 (lv_at hl 1 rfl) ?_
      refine lv_aload_n hx hb dX9_worthOfSet_7 rfl (lv_at hl 2 rfl) ?_
      refine tw_geti hx hb hW hown hK hS f_X9_33_9 hz_a0 hk_a0 (lo := (-2147483648)) (hi := 10) rfl dX9_worthOfSet_8 (fun x10 k9 h8 => ?_)
      refine lv_icmp_ge (tgt := 40) hx hb dX9_worthOfSet_11 (by decide) (fun c11 => ?_) (fun c11 => ?_)
      · have q12 : x10.toInt ≤ x2.toInt := ti_le c11
        refine lv_iload_n hx hb dX9_worthOfSet_40 rfl (lv_at hl 0 rfl) ?_
        exact tw_endi hx hb hr hlocks hK hT hS hQ (h_x1) dX9_worthOfSet_41
      · have q13 : x2.toInt < x10.toInt := ti_nle c11
        have h14 : iv 0 9 x2 := iv_ltL (y := x10) h_x2 h8 q13 (by decide)
        have h15 : iv 1 10 x10 := iv_gtL (y := x2) h8 h_x2 q13 (by decide)
        refine lv_iload_n hx hb dX9_worthOfSet_14 rfl (lv_at hl 3 rfl) ?_
        refine lv_iload hx hb dX9_worthOfSet_15 (lv_at hl 1 rfl) ?_
        refine lv_ishr hx hb dX9_worthOfSet_17 ?_
        refine tw_top (fun x17 => ?_)
        have h16 := iv_any x17
        refine lv_iconst (v := 1) hx hb dX9_worthOfSet_18 (by decide) ?_
        refine tw_iand (hi := 1) hx hb (iv_mono (iv_c (c := 1) (n := 1) (by decide)) (lo := 0) (hi := 1) (by decide) (by decide)) (by decide) dX9_worthOfSet_19 (fun x20 h18 => ?_)
        refine lv_iconst (v := 1) hx hb dX9_worthOfSet_20 (by decide) ?_
        refine lv_icmp_ne (tgt := 34) hx hb dX9_worthOfSet_21 (by decide) (fun c21 => ?_) (fun c21 => ?_)
        · have q22 : ¬ x20.toInt = 1 := ti_ne c21
          have h23 : iv 0 0 x20 := ⟨by have := (h18).1; have := ((iv_c (c := 1) (n := 1) (by decide))).1; have := ((iv_c (c := 1) (n := 1) (by decide))).2; omega, by have := (h18).2; have := ((iv_c (c := 1) (n := 1) (by decide))).1; have := ((iv_c (c := 1) (n := 1) (by decide))).2; omega⟩
          refine tw_iinc (lv' := fun x26 => [(4, .int x26), (3, .int x1), (0, .ref (base + a0)), (1, .int a1), (2, .int a2)]) (lo := 1) (hi := 10) hx hb dX9_worthOfSet_34 hl (k := 1) rfl h14 (by decide) ⟨by decide, by decide⟩ ⟨by decide, by decide⟩ (by decide) (fun _ => rfl) (fun x26 ls e25 h24 hl => ?_)
          refine lv_goto (tgt := 5) hx hb dX9_worthOfSet_37 (by decide) ?_
          have hm27 : 10 - x26.toInt < (n : Int) := by
            have := (h14).1; have := (h14).2; have := (h24).1; have := (h24).2; omega
          exact ih_3 x1 x26 M3 R4 J5 H locs _ h_x1 (iv_mono h24 (by decide) (by decide)) hm27 hS (lv_sub hl [1, 0, 2, 3, 4] rfl)
        · have q28 : x20.toInt = 1 := ti_eq c21
          have h29 : iv 1 1 x20 := ⟨by have := (h18).1; have := ((iv_c (c := 1) (n := 1) (by decide))).1; omega, by have := (h18).2; have := ((iv_c (c := 1) (n := 1) (by decide))).2; omega⟩
          refine lv_iload_n hx hb dX9_worthOfSet_24 rfl (lv_at hl 0 rfl) ?_
          refine lv_aload_n hx hb dX9_worthOfSet_25 rfl (lv_at hl 2 rfl) ?_
          refine lv_iload hx hb dX9_worthOfSet_26 (lv_at hl 1 rfl) ?_
          refine lv_iload_n hx hb dX9_worthOfSet_28 rfl (lv_at hl 4 rfl) ?_
          refine tw_goi hS (md_runV (As := [.int x2, .int a2]) (rest := [.int x1]) hx hb hml hown hW hK hT hS.1 (t_X9_worthOf l D cy tx base Z K N M3 R4 J5 hS.2.1 a0 hz_a0 hk_a0 x2 h14 a2 h_a2) s_X9_71 ⟨rfl, rfl, ⟨Nat.le_of_ble_eq_true rfl, Nat.le_of_ble_eq_true rfl⟩, ⟨Nat.le_of_ble_eq_true rfl, Nat.le_of_ble_eq_true rfl⟩⟩ hz_a0 hk_a0 (by decide) rfl rfl hl.1 rfl (Nat.le_of_ble_eq_true rfl) dX9_worthOfSet_29) rfl rfl (fun x36 H locs M32 R33 J34 hS f30 g31 E35 => ?_)
          have h_x36 := E35
          refine lv_iadd hx hb dX9_worthOfSet_32 ?_
          refine tw_top (fun x38 => ?_)
          have h37 := iv_any x38
          refine lv_istore_n (lv' := [(3, .int x38), (4, .int x2), (0, .ref (base + a0)), (1, .int a1), (2, .int a2)]) hx hb dX9_worthOfSet_33 rfl hl (by decide) rfl (fun ls hl => ?_)
          refine tw_iinc (lv' := fun x41 => [(4, .int x41), (3, .int x38), (0, .ref (base + a0)), (1, .int a1), (2, .int a2)]) (lo := 1) (hi := 10) hx hb dX9_worthOfSet_34 hl (k := 1) rfl h14 (by decide) ⟨by decide, by decide⟩ ⟨by decide, by decide⟩ (by decide) (fun _ => rfl) (fun x41 ls e40 h39 hl => ?_)
          refine lv_goto (tgt := 5) hx hb dX9_worthOfSet_37 (by decide) ?_
          have hm42 : 10 - x41.toInt < (n : Int) := by
            have := (h14).1; have := (h14).2; have := (h39).1; have := (h39).2; omega
          exact ih_3 x38 x41 M32 R33 J34 H locs _ h37 (iv_mono h39 (by decide) (by decide)) hm42 hS (lv_sub hl [1, 0, 2, 3, 4] rfl)
  have hm43 : 10 - (0 : Int32).toInt < (((11 : Nat) : Int) : Int) := by
    have : (0 : Int32).toInt = 0 := by decide; omega
  exact W5_3 11 0 0 Ma Ra Ja H locs _ (iv_mono (iv_c (c := 0) (n := 0) (by decide)) (by decide) (by decide)) (iv_mono (iv_c (c := 0) (n := 0) (by decide)) (by decide) (by decide)) hm43 hS (lv_sub hl [1, 0, 2, 3, 4] rfl)
