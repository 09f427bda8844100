def Lt_X9_hasSet : WL := []
def LRt_X9_hasSet : WL := []
set_option maxRecDepth 100000 in
set_option maxHeartbeats 4000000 in
theorem t_X9_hasSet (l : Launch) (D : va_G) (cy : Nat → ClassId) (tx : (Nat → Nat) × (Nat → Nat)) (base Z : Nat) (K N : Nat → Nat) (Ma : MT) (Ra : RT) (Ja : JT) (hTy : Ty Z K N Ma Ra) (a0 : Nat) (hz_a0 : a0 < Z) (hk_a0 : K a0 = 10) (a1 : Int32) (h_a1 : iv (-2147483648) 2147483647 a1) : Met l yX9_hasSet [Cond.code yX9_hasSet cX9_hasSet 2 (some .boolean)] (md_rm 1 0 0) (va_Pc [.ref (base + a0), .int a1] (md_U D cy tx base Z K N Ma Ra Ja)) (mQi D cy tx base (fun r u => TP Z K N Lt_X9_hasSet LRt_X9_hasSet Ma Ra u ∧ (iv 0 1 r))) 0 0 (fun q => base ≤ q) := by
  refine tw_ofW (L := Lt_X9_hasSet) (LR := LRt_X9_hasSet) (by decide) (Nat.le_of_ble_eq_true rfl) hTy ?_
  intro p e s m args below meth c Q ls hx hb hr hlocks hown hml hW hK hT hS hQ hl
  have hl : lv_has ls 2 [(0, .ref (base + a0)), (1, .int a1)] := hl
  refine lv_aload_n hx hb dX9_hasSet_0 rfl (lv_at hl 0 rfl) ?_
  refine tw_geti hx hb hW hown hK hS f_X9_33_9 hz_a0 hk_a0 (lo := (-2147483648)) (hi := 10) rfl dX9_hasSet_1 (fun x3 k2 h1 => ?_)
  refine lv_if_le (tgt := 25) hx hb dX9_hasSet_4 (by decide) (fun c4 => ?_) (fun c4 => ?_)
  · have q5 : x3.toInt ≤ 0 := ti_le c4
    have h6 : iv (-2147483648) 0 x3 := iv_leL (y := 0) h1 (iv_c (c := 0) (n := 0) (by decide)) q5 (by decide)
    refine lv_iconst (v := 0) hx hb dX9_hasSet_25 (by decide) ?_
    exact tw_endz hx hb hr hlocks hK hT hS hQ rfl ((iv_mono (iv_c (c := 0) (n := 0) (by decide)) (by decide) (by decide))) dX9_hasSet_26
  · have q7 : 0 < x3.toInt := ti_nle c4
    have h8 : iv 1 10 x3 := iv_gtL (y := 0) h1 (iv_c (c := 0) (n := 0) (by decide)) q7 (by decide)
    refine lv_iload_n hx hb dX9_hasSet_7 rfl (lv_at hl 1 rfl) ?_
    refine lv_if_lt (tgt := 25) hx hb dX9_hasSet_8 (by decide) (fun c9 => ?_) (fun c9 => ?_)
    · have q10 : a1.toInt < 0 := ti_lt c9
      have h11 : iv (-2147483648) (-1) a1 := iv_ltL (y := 0) h_a1 (iv_c (c := 0) (n := 0) (by decide)) q10 (by decide)
      refine lv_iconst (v := 0) hx hb dX9_hasSet_25 (by decide) ?_
      exact tw_endz hx hb hr hlocks hK hT hS hQ rfl ((iv_mono (iv_c (c := 0) (n := 0) (by decide)) (by decide) (by decide))) dX9_hasSet_26
    · have q12 : 0 ≤ a1.toInt := ti_nlt c9
      have h13 : iv 0 2147483647 a1 := iv_geL (y := 0) h_a1 (iv_c (c := 0) (n := 0) (by decide)) q12 (by decide)
      refine lv_iload_n hx hb dX9_hasSet_11 rfl (lv_at hl 1 rfl) ?_
      refine lv_iconst (v := 1) hx hb dX9_hasSet_12 (by decide) ?_
      refine lv_aload_n hx hb dX9_hasSet_13 rfl (lv_at hl 0 rfl) ?_
      refine tw_getk hx hb hW hown hK hS f_X9_33_9 hz_a0 hk_a0 (v := x3) k2 dX9_hasSet_14 ?_
      refine lv_ishl hx hb dX9_hasSet_17 ?_
      refine tw_top (fun x15 => ?_)
      have h14 := iv_any x15
      refine lv_icmp_ge (tgt := 25) hx hb dX9_hasSet_18 (by decide) (fun c16 => ?_) (fun c16 => ?_)
      · have q17 : x15.toInt ≤ a1.toInt := ti_le c16
        refine lv_iconst (v := 0) hx hb dX9_hasSet_25 (by decide) ?_
        exact tw_endz hx hb hr hlocks hK hT hS hQ rfl ((iv_mono (iv_c (c := 0) (n := 0) (by decide)) (by decide) (by decide))) dX9_hasSet_26
      · have q18 : a1.toInt < x15.toInt := ti_nle c16
        have h19 : iv 0 2147483646 a1 := iv_ltL (y := x15) h13 h14 q18 (by decide)
        have h20 : iv 1 2147483647 x15 := iv_gtL (y := a1) h14 h13 q18 (by decide)
        refine lv_iconst (v := 1) hx hb dX9_hasSet_21 (by decide) ?_
        refine lv_goto (tgt := 26) hx hb dX9_hasSet_22 (by decide) ?_
        exact tw_endz hx hb hr hlocks hK hT hS hQ rfl ((iv_mono (iv_c (c := 1) (n := 1) (by decide)) (by decide) (by decide))) dX9_hasSet_26
def Lt_X11_bench : WL := [(6, 14, 15), (10, 3, 4), (14, 0, 2000000), (20, 0, 2000000)]
def LRt_X11_bench : WL := []
set_option maxRecDepth 100000 in
set_option maxHeartbeats 4000000 in
theorem t_X11_bench (l : Launch) (D : va_G) (cy : Nat → ClassId) (tx : (Nat → Nat) × (Nat → Nat)) (base Z : Nat) (K N : Nat → Nat) (Ma : MT) (Ra : RT) (Ja : JT) (hTy : Ty Z K N Ma Ra) (a0 : Nat) (hz_a0 : a0 < Z) (hk_a0 : K a0 = 11) (a1 : Int32) (h_a1 : iv (-2147483648) 2147483647 a1) (a2 : Int32) (h_a2 : iv (-2147483648) 2147483647 a2) : Met l yX11_bench [Cond.code yX11_bench cX11_bench 3 (some .int)] (md_rm 4 0 0) (va_Pc [.ref (base + a0), .int a1, .int a2] (md_U D cy tx base Z K N Ma Ra Ja)) (mQi D cy tx base (fun r u => TP Z K N Lt_X11_bench LRt_X11_bench Ma Ra u ∧ (iv (-2) 2 r))) 0 0 (fun q => base ≤ q) := by
  refine tw_ofW (L := Lt_X11_bench) (LR := LRt_X11_bench) (by decide) (Nat.le_of_ble_eq_true rfl) hTy ?_
  intro p e s m args below meth c Q ls hx hb hr hlocks hown hml hW hK hT hS hQ hl
  have hl : lv_has ls 3 [(0, .ref (base + a0)), (1, .int a1), (2, .int a2)] := hl
  refine lv_aload_n hx hb dX11_bench_0 rfl (lv_at hl 0 rfl) ?_
  refine tw_getr hx hb hW hown hK hS f_X11_31_10 hz_a0 hk_a0 (t := 10) (n := 0) rfl dX11_bench_1 (fun b1 k2 hz_b1 hk_b1 hn_b1 => ?_)
  refine lv_iload_n hx hb dX11_bench_4 rfl (lv_at hl 1 rfl) ?_
  refine tw_goi hS (md_runV (As := [.int a1]) (rest := []) hx hb hml hown hW hK hT hS.1 (t_X9_hasSet l D cy tx base Z K N Ma Ra Ja hS.2.1 b1 hz_b1 hk_b1 a1 h_a1) s_X11_199 ⟨rfl, rfl, ⟨Nat.le_of_ble_eq_true rfl, Nat.le_of_ble_eq_true rfl⟩, ⟨Nat.le_of_ble_eq_true rfl, Nat.le_of_ble_eq_true rfl⟩⟩ hz_b1 hk_b1 (by decide) rfl rfl hl.1 rfl (Nat.le_of_ble_eq_true rfl) dX11_bench_5) rfl rfl (fun x9 H locs M6 R7 J5 hS f3 g4 E8 => ?_)
  have eM6 := Fr.nil f3 rfl
  subst eM6
  have eR7 := Fr.nil g4 rfl
  subst eR7
  have h_x9 := E8
  clear E8
  refine lv_if_eq (tgt := 28) hx hb dX11_bench_8 (by decide) (fun c10 => ?_) (fun c10 => ?_)
  · have q11 : x9.toInt = 0 := ti_eq c10
    have h12 : iv 0 0 x9 := ⟨by have := (h_x9).1; have := ((iv_c (c := 0) (n := 0) (by decide))).1; omega, by have := (h_x9).2; have := ((iv_c (c := 0) (n := 0) (by decide))).2; omega⟩
    refine lv_aload_n hx hb dX11_bench_28 rfl (lv_at hl 0 rfl) ?_
    refine lv_iconst (v := 0) hx hb dX11_bench_29 (by decide) ?_
    refine tw_goi hS (md_runV (As := [.int 0]) (rest := []) hx hb hml hown hW hK hT hS.1 (t_X11_refuse l D cy tx base Z K N Ma Ra J5 hS.2.1 a0 hz_a0 hk_a0 0 (iv_mono (iv_c (c := 0) (n := 0) (by decide)) (by decide) (by decide))) s_X11_158 ⟨rfl, rfl, ⟨Nat.le_of_ble_eq_true rfl, Nat.le_of_ble_eq_true rfl⟩, ⟨Nat.le_of_ble_eq_true rfl, Nat.le_of_ble_eq_true rfl⟩⟩ hz_a0 hk_a0 (by decide) rfl rfl hl.1 rfl (Nat.le_of_ble_eq_true rfl) dX11_bench_30) rfl rfl (fun x19 H locs M16 R17 J15 hS f13 g14 E18 => ?_)
    have eR17 := Fr.nil g14 rfl
    subst eR17
    have h_x19 := E18
    clear E18
    exact tw_endi hx hb hr hlocks hK hT hS hQ ((iv_mono h_x19 (by decide) (by decide))) dX11_bench_33
  · have q20 : ¬ x9.toInt = 0 := ti_ne c10
    have h21 : iv 1 1 x9 := ⟨by have := (h_x9).1; have := ((iv_c (c := 0) (n := 0) (by decide))).1; have := ((iv_c (c := 0) (n := 0) (by decide))).2; omega, by have := (h_x9).2; have := ((iv_c (c := 0) (n := 0) (by decide))).1; have := ((iv_c (c := 0) (n := 0) (by decide))).2; omega⟩
    refine lv_aload_n hx hb dX11_bench_11 rfl (lv_at hl 0 rfl) ?_
    refine tw_getrk hx hb hW hown hK hS f_X11_31_10 hz_a0 hk_a0 (b := b1) k2 dX11_bench_12 ?_
    refine lv_iload_n hx hb dX11_bench_15 rfl (lv_at hl 2 rfl) ?_
    refine tw_goi hS (md_runV (As := [.int a2]) (rest := []) hx hb hml hown hW hK hT hS.1 (t_X9_hasSet l D cy tx base Z K N Ma Ra J5 hS.2.1 b1 hz_b1 hk_b1 a2 h_a2) s_X11_199 ⟨rfl, rfl, ⟨Nat.le_of_ble_eq_true rfl, Nat.le_of_ble_eq_true rfl⟩, ⟨Nat.le_of_ble_eq_true rfl, Nat.le_of_ble_eq_true rfl⟩⟩ hz_b1 hk_b1 (by decide) rfl rfl hl.1 rfl (Nat.le_of_ble_eq_true rfl) dX11_bench_16) rfl rfl (fun x28 H locs M25 R26 J24 hS f22 g23 E27 => ?_)
    have eM25 := Fr.nil f22 rfl
    subst eM25
    have eR26 := Fr.nil g23 rfl
    subst eR26
    have h_x28 := E27
    clear E27
    refine lv_if_eq (tgt := 28) hx hb dX11_bench_19 (by decide) (fun c29 => ?_) (fun c29 => ?_)
    · have q30 : x28.toInt = 0 := ti_eq c29
      have h31 : iv 0 0 x28 := ⟨by have := (h_x28).1; have := ((iv_c (c := 0) (n := 0) (by decide))).1; omega, by have := (h_x28).2; have := ((iv_c (c := 0) (n := 0) (by decide))).2; omega⟩
      refine lv_aload_n hx hb dX11_bench_28 rfl (lv_at hl 0 rfl) ?_
      refine lv_iconst (v := 0) hx hb dX11_bench_29 (by decide) ?_
      refine tw_goi hS (md_runV (As := [.int 0]) (rest := []) hx hb hml hown hW hK hT hS.1 (t_X11_refuse l D cy tx base Z K N Ma Ra J24 hS.2.1 a0 hz_a0 hk_a0 0 (iv_mono (iv_c (c := 0) (n := 0) (by decide)) (by decide) (by decide))) s_X11_158 ⟨rfl, rfl, ⟨Nat.le_of_ble_eq_true rfl, Nat.le_of_ble_eq_true rfl⟩, ⟨Nat.le_of_ble_eq_true rfl, Nat.le_of_ble_eq_true rfl⟩⟩ hz_a0 hk_a0 (by decide) rfl rfl hl.1 rfl (Nat.le_of_ble_eq_true rfl) dX11_bench_30) rfl rfl (fun x38 H locs M35 R36 J34 hS f32 g33 E37 => ?_)
      have eR36 := Fr.nil g33 rfl
      subst eR36
      have h_x38 := E37
      clear E37
      exact tw_endi hx hb hr hlocks hK hT hS hQ ((iv_mono h_x38 (by decide) (by decide))) dX11_bench_33
    · have q39 : ¬ x28.toInt = 0 := ti_ne c29
      have h40 : iv 1 1 x28 := ⟨by have := (h_x28).1; have := ((iv_c (c := 0) (n := 0) (by decide))).1; have := ((iv_c (c := 0) (n := 0) (by decide))).2; omega, by have := (h_x28).2; have := ((iv_c (c := 0) (n := 0) (by decide))).1; have := ((iv_c (c := 0) (n := 0) (by decide))).2; omega⟩
      refine lv_iload_n hx hb dX11_bench_22 rfl (lv_at hl 1 rfl) ?_
      refine lv_iload_n hx hb dX11_bench_23 rfl (lv_at hl 2 rfl) ?_
      refine lv_iand hx hb dX11_bench_24 ?_
      refine tw_top (fun x42 => ?_)
      have h41 := iv_any x42
      refine lv_if_eq (tgt := 34) hx hb dX11_bench_25 (by decide) (fun c43 => ?_) (fun c43 => ?_)
      · have q44 : x42.toInt = 0 := ti_eq c43
        have h45 : iv 0 0 x42 := ⟨by have := (h41).1; have := ((iv_c (c := 0) (n := 0) (by decide))).1; omega, by have := (h41).2; have := ((iv_c (c := 0) (n := 0) (by decide))).2; omega⟩
        refine lv_aload_n hx hb dX11_bench_34 rfl (lv_at hl 0 rfl) ?_
        refine tw_getr hx hb hW hown hK hS f_X11_39_10 hz_a0 hk_a0 (t := 6) (n := 0) rfl dX11_bench_35 (fun b46 k47 hz_b46 hk_b46 hn_b46 => ?_)
        refine lv_iload_n hx hb dX11_bench_38 rfl (lv_at hl 1 rfl) ?_
        refine lv_aload_n hx hb dX11_bench_39 rfl (lv_at hl 0 rfl) ?_
        refine tw_getrk hx hb hW hown hK hS f_X11_31_10 hz_a0 hk_a0 (b := b1) k2 dX11_bench_40 ?_
        refine tw_geti hx hb hW hown hK hS f_X11_142_9 hz_b1 hk_b1 (lo := (-2147483648)) (hi := 2147483647) rfl dX11_bench_43 (fun x50 k49 h48 => ?_)
        refine lv_iand hx hb dX11_bench_46 ?_
        refine tw_top (fun x52 => ?_)
        have h51 := iv_any x52
        refine lv_iload_n hx hb dX11_bench_47 rfl (lv_at hl 2 rfl) ?_
        refine lv_aload_n hx hb dX11_bench_48 rfl (lv_at hl 0 rfl) ?_
        refine tw_getrk hx hb hW hown hK hS f_X11_31_10 hz_a0 hk_a0 (b := b1) k2 dX11_bench_49 ?_
        refine tw_getk hx hb hW hown hK hS f_X11_142_9 hz_b1 hk_b1 (v := x50) k49 dX11_bench_52 ?_
        refine lv_iand hx hb dX11_bench_55 ?_
        refine tw_top (fun x54 => ?_)
        have h53 := iv_any x54
        refine tw_goi hS (md_runV (As := [.int x52, .int x54]) (rest := []) hx hb hml hown hW hK hT hS.1 (t_X5_holdForGood l D cy tx base Z K N Ma Ra J24 hS.2.1 b46 hz_b46 hk_b46 x52 h51 x54 h53) s_X11_196 ⟨rfl, rfl, ⟨Nat.le_of_ble_eq_true rfl, Nat.le_of_ble_eq_true rfl⟩, ⟨Nat.le_of_ble_eq_true rfl, Nat.le_of_ble_eq_true rfl⟩⟩ hz_b46 hk_b46 (by decide) rfl rfl hl.1 rfl (Nat.le_of_ble_eq_true rfl) dX11_bench_56) rfl rfl (fun x61 H locs M58 R59 J57 hS f55 g56 E60 => ?_)
        have eR59 := Fr.nil g56 rfl
        subst eR59
        have h_x61 := E60
        clear E60
        exact tw_endi hx hb hr hlocks hK hT hS hQ ((iv_mono h_x61 (by decide) (by decide))) dX11_bench_59
      · have q62 : ¬ x42.toInt = 0 := ti_ne c43
        refine lv_aload_n hx hb dX11_bench_28 rfl (lv_at hl 0 rfl) ?_
        refine lv_iconst (v := 0) hx hb dX11_bench_29 (by decide) ?_
        refine tw_goi hS (md_runV (As := [.int 0]) (rest := []) hx hb hml hown hW hK hT hS.1 (t_X11_refuse l D cy tx base Z K N Ma Ra J24 hS.2.1 a0 hz_a0 hk_a0 0 (iv_mono (iv_c (c := 0) (n := 0) (by decide)) (by decide) (by decide))) s_X11_158 ⟨rfl, rfl, ⟨Nat.le_of_ble_eq_true rfl, Nat.le_of_ble_eq_true rfl⟩, ⟨Nat.le_of_ble_eq_true rfl, Nat.le_of_ble_eq_true rfl⟩⟩ hz_a0 hk_a0 (by decide) rfl rfl hl.1 rfl (Nat.le_of_ble_eq_true rfl) dX11_bench_30) rfl rfl (fun x69 H locs M66 R67 J65 hS f63 g64 E68 => ?_)
        have eR67 := Fr.nil g64 rfl
        subst eR67
        have h_x69 := E68
        clear E68
        exact tw_endi hx hb hr hlocks hK hT hS hQ ((iv_mono h_x69 (by decide) (by decide))) dX11_bench_33
def Lt_X11_bend : WL := [(14, 0, 2000000)]
def LRt_X11_bend : WL := []
set_option maxRecDepth 100000 in
set_option maxHeartbeats 4000000 in
theorem t_X11_bend (l : Launch) (D : va_G) (cy : Nat → ClassId) (tx : (Nat → Nat) × (Nat → Nat)) (base Z : Nat) (K N : Nat → Nat) (Ma : MT) (Ra : RT) (Ja : JT) (hTy : Ty Z K N Ma Ra) (a0 : Nat) (hz_a0 : a0 < Z) (hk_a0 : K a0 = 11) (a1 : Int32) (h_a1 : iv (-2147483648) 2147483647 a1) (a2 : Int32) (h_a2 : iv (-2147483648) 2147483647 a2) : Met l yX11_bend [Cond.code yX11_bend cX11_bend 4 (some .int)] (md_rm 2 0 0) (va_Pc [.ref (base + a0), .int a1, .int a2] (md_U D cy tx base Z K N Ma Ra Ja)) (mQi D cy tx base (fun r u => TP Z K N Lt_X11_bend LRt_X11_bend Ma Ra u ∧ (iv (-2147483648) 2147483647 r))) 0 0 (fun q => base ≤ q) := by
  refine tw_ofW (L := Lt_X11_bend) (LR := LRt_X11_bend) (by decide) (Nat.le_of_ble_eq_true rfl) hTy ?_
  intro p e s m args below meth c Q ls hx hb hr hlocks hown hml hW hK hT hS hQ hl
  have hl : lv_has ls 4 [(0, .ref (base + a0)), (1, .int a1), (2, .int a2)] := hl
  refine lv_aload_n hx hb dX11_bend_0 rfl (lv_at hl 0 rfl) ?_
  refine tw_getr hx hb hW hown hK hS f_X11_31_10 hz_a0 hk_a0 (t := 10) (n := 0) rfl dX11_bend_1 (fun b1 k2 hz_b1 hk_b1 hn_b1 => ?_)
  refine lv_iload_n hx hb dX11_bend_4 rfl (lv_at hl 1 rfl) ?_
  refine tw_goi hS (md_runV (As := [.int a1]) (rest := []) hx hb hml hown hW hK hT hS.1 (t_X9_hasMember l D cy tx base Z K N Ma Ra Ja hS.2.1 b1 hz_b1 hk_b1 a1 h_a1) s_X11_132 ⟨rfl, rfl, ⟨Nat.le_of_ble_eq_true rfl, Nat.le_of_ble_eq_true rfl⟩, ⟨Nat.le_of_ble_eq_true rfl, Nat.le_of_ble_eq_true rfl⟩⟩ hz_b1 hk_b1 (by decide) rfl rfl hl.1 rfl (Nat.le_of_ble_eq_true rfl) dX11_bend_5) rfl rfl (fun x9 H locs M6 R7 J5 hS f3 g4 E8 => ?_)
  have eM6 := Fr.nil f3 rfl
  subst eM6
  have eR7 := Fr.nil g4 rfl
  subst eR7
  obtain ⟨h_x9, p10⟩ := E8
  refine lv_if_eq (tgt := 22) hx hb dX11_bend_8 (by decide) (fun c11 => ?_) (fun c11 => ?_)
  · have q12 : x9.toInt = 0 := ti_eq c11
    have h13 : iv 0 0 x9 := ⟨by have := (h_x9).1; have := ((iv_c (c := 0) (n := 0) (by decide))).1; omega, by have := (h_x9).2; have := ((iv_c (c := 0) (n := 0) (by decide))).2; omega⟩
    refine lv_aload_n hx hb dX11_bend_22 rfl (lv_at hl 0 rfl) ?_
    refine lv_iconst (v := 0) hx hb dX11_bend_23 (by decide) ?_
    refine tw_goi hS (md_runV (As := [.int 0]) (rest := []) hx hb hml hown hW hK hT hS.1 (t_X11_refuse l D cy tx base Z K N Ma Ra J5 hS.2.1 a0 hz_a0 hk_a0 0 (iv_mono (iv_c (c := 0) (n := 0) (by decide)) (by decide) (by decide))) s_X11_158 ⟨rfl, rfl, ⟨Nat.le_of_ble_eq_true rfl, Nat.le_of_ble_eq_true rfl⟩, ⟨Nat.le_of_ble_eq_true rfl, Nat.le_of_ble_eq_true rfl⟩⟩ hz_a0 hk_a0 (by decide) rfl rfl hl.1 rfl (Nat.le_of_ble_eq_true rfl) dX11_bend_24) rfl rfl (fun x20 H locs M17 R18 J16 hS f14 g15 E19 => ?_)
    have eR18 := Fr.nil g15 rfl
    subst eR18
    have h_x20 := E19
    clear E19
    exact tw_endi hx hb hr hlocks hK hT hS hQ ((iv_mono h_x20 (by decide) (by decide))) dX11_bend_27
  · have q21 : ¬ x9.toInt = 0 := ti_ne c11
    have h22 : iv 1 1 x9 := ⟨by have := (h_x9).1; have := ((iv_c (c := 0) (n := 0) (by decide))).1; have := ((iv_c (c := 0) (n := 0) (by decide))).2; omega, by have := (h_x9).2; have := ((iv_c (c := 0) (n := 0) (by decide))).1; have := ((iv_c (c := 0) (n := 0) (by decide))).2; omega⟩
    have h23 : iv 0 9 a1 := ⟨by have := (p10 c11).1; have := (h_a1).1; omega, by have := (p10 c11).2; have := (h_a1).2; omega⟩
    refine lv_iload_n hx hb dX11_bend_11 rfl (lv_at hl 2 rfl) ?_
    refine lv_iconst (v := (-1)) hx hb dX11_bend_12 (by decide) ?_
    refine lv_icmp_lt (tgt := 22) hx hb dX11_bend_13 (by decide) (fun c24 => ?_) (fun c24 => ?_)
    · have q25 : a2.toInt < (-1) := ti_lt c24
      have h26 : iv (-2147483648) (-2) a2 := iv_ltL (y := (-1)) h_a2 (iv_c (c := (-1)) (n := (-1)) (by decide)) q25 (by decide)
      refine lv_aload_n hx hb dX11_bend_22 rfl (lv_at hl 0 rfl) ?_
      refine lv_iconst (v := 0) hx hb dX11_bend_23 (by decide) ?_
      refine tw_goi hS (md_runV (As := [.int 0]) (rest := []) hx hb hml hown hW hK hT hS.1 (t_X11_refuse l D cy tx base Z K N Ma Ra J5 hS.2.1 a0 hz_a0 hk_a0 0 (iv_mono (iv_c (c := 0) (n := 0) (by decide)) (by decide) (by decide))) s_X11_158 ⟨rfl, rfl, ⟨Nat.le_of_ble_eq_true rfl, Nat.le_of_ble_eq_true rfl⟩, ⟨Nat.le_of_ble_eq_true rfl, Nat.le_of_ble_eq_true rfl⟩⟩ hz_a0 hk_a0 (by decide) rfl rfl hl.1 rfl (Nat.le_of_ble_eq_true rfl) dX11_bend_24) rfl rfl (fun x33 H locs M30 R31 J29 hS f27 g28 E32 => ?_)
      have eR31 := Fr.nil g28 rfl
      subst eR31
      have h_x33 := E32
      clear E32
      exact tw_endi hx hb hr hlocks hK hT hS hQ ((iv_mono h_x33 (by decide) (by decide))) dX11_bend_27
    · have q34 : (-1) ≤ a2.toInt := ti_nlt c24
      have h35 : iv (-1) 2147483647 a2 := iv_geL (y := (-1)) h_a2 (iv_c (c := (-1)) (n := (-1)) (by decide)) q34 (by decide)
      refine lv_iload_n hx hb dX11_bend_16 rfl (lv_at hl 2 rfl) ?_
      refine lv_bipush (v := 6) hx hb dX11_bend_17 (by decide) ?_
      refine lv_icmp_lt (tgt := 28) hx hb dX11_bend_19 (by decide) (fun c36 => ?_) (fun c36 => ?_)
      · have q37 : a2.toInt < 6 := ti_lt c36
        have h38 : iv (-1) 5 a2 := iv_ltL (y := 6) h35 (iv_c (c := 6) (n := 6) (by decide)) q37 (by decide)
        refine lv_aload_n hx hb dX11_bend_28 rfl (lv_at hl 0 rfl) ?_
        refine tw_getrk hx hb hW hown hK hS f_X11_31_10 hz_a0 hk_a0 (b := b1) k2 dX11_bend_29 ?_
        refine tw_getr hx hb hW hown hK hS f_X11_139_9 hz_b1 hk_b1 (t := 14) (n := 10) rfl dX11_bend_32 (fun b39 k40 hz_b39 hk_b39 hn_b39 => ?_)
        have hn_b39 := hn_b39 (by decide)
        refine lv_iload_n hx hb dX11_bend_35 rfl (lv_at hl 1 rfl) ?_
        refine tw_iald hx hb hK hS hz_b39 hk_b39 (Or.inl rfl) hn_b39 (lo := (-2147483648)) (hi := 2147483647) h23 ⟨by decide, by decide⟩ rg_u14 dX11_bend_36 (fun x43 k42 h41 => ?_)
        refine lv_istore_n (lv' := [(3, .int x43), (0, .ref (base + a0)), (1, .int a1), (2, .int a2)]) hx hb dX11_bend_37 rfl hl (by decide) rfl (fun ls hl => ?_)
        refine lv_aload_n hx hb dX11_bend_38 rfl (lv_at hl 1 rfl) ?_
        refine tw_getrk hx hb hW hown hK hS f_X11_31_10 hz_a0 hk_a0 (b := b1) k2 dX11_bend_39 ?_
        refine tw_getrk hx hb hW hown hK hS f_X11_139_9 hz_b1 hk_b1 (b := b39) k40 dX11_bend_42 ?_
        refine lv_iload_n hx hb dX11_bend_45 rfl (lv_at hl 2 rfl) ?_
        refine lv_iload_n hx hb dX11_bend_46 rfl (lv_at hl 3 rfl) ?_
        refine tw_iast hx hb hK hS hz_b39 hk_b39 (Or.inl rfl) hn_b39 h23 ⟨by decide, by decide⟩ h38 (rg_s14 ⟨by decide, by decide⟩) (jl := 0) (jh := 1999999) ⟨by decide, by decide⟩ rfl dX11_bend_47 (fun H locs M46 hS k44 f45 => ?_)
        refine lv_iload_n hx hb dX11_bend_48 rfl (lv_at hl 0 rfl) ?_
        exact tw_endi hx hb hr hlocks hK hT hS hQ (h41) dX11_bend_49
      · have q47 : 6 ≤ a2.toInt := ti_nlt c36
        have h48 : iv 6 2147483647 a2 := iv_geL (y := 6) h35 (iv_c (c := 6) (n := 6) (by decide)) q47 (by decide)
        refine lv_aload_n hx hb dX11_bend_22 rfl (lv_at hl 0 rfl) ?_
        refine lv_iconst (v := 0) hx hb dX11_bend_23 (by decide) ?_
        refine tw_goi hS (md_runV (As := [.int 0]) (rest := []) hx hb hml hown hW hK hT hS.1 (t_X11_refuse l D cy tx base Z K N Ma Ra J5 hS.2.1 a0 hz_a0 hk_a0 0 (iv_mono (iv_c (c := 0) (n := 0) (by decide)) (by decide) (by decide))) s_X11_158 ⟨rfl, rfl, ⟨Nat.le_of_ble_eq_true rfl, Nat.le_of_ble_eq_true rfl⟩, ⟨Nat.le_of_ble_eq_true rfl, Nat.le_of_ble_eq_true rfl⟩⟩ hz_a0 hk_a0 (by decide) rfl rfl hl.1 rfl (Nat.le_of_ble_eq_true rfl) dX11_bend_24) rfl rfl (fun x55 H locs M52 R53 J51 hS f49 g50 E54 => ?_)
        have eR53 := Fr.nil g50 rfl
        subst eR53
        have h_x55 := E54
        clear E54
        exact tw_endi hx hb hr hlocks hK hT hS hQ ((iv_mono h_x55 (by decide) (by decide))) dX11_bend_27
def Lt_X9_hasCouncil : WL := []
def LRt_X9_hasCouncil : WL := []
set_option maxRecDepth 100000 in
set_option maxHeartbeats 4000000 in
theorem t_X9_hasCouncil (l : Launch) (D : va_G) (cy : Nat → ClassId) (tx : (Nat → Nat) × (Nat → Nat)) (base Z : Nat) (K N : Nat → Nat) (Ma : MT) (Ra : RT) (Ja : JT) (hTy : Ty Z K N Ma Ra) (a0 : Nat) (hz_a0 : a0 < Z) (hk_a0 : K a0 = 10) : Met l yX9_hasCouncil [Cond.code yX9_hasCouncil cX9_hasCouncil 1 (some .boolean)] (md_rm 1 0 0) (va_Pc [.ref (base + a0)] (md_U D cy tx base Z K N Ma Ra Ja)) (mQi D cy tx base (fun r u => TP Z K N Lt_X9_hasCouncil LRt_X9_hasCouncil Ma Ra u ∧ (iv 0 1 r))) 0 0 (fun q => base ≤ q) := by
  refine tw_ofW (L := Lt_X9_hasCouncil) (LR := LRt_X9_hasCouncil) (by decide) (Nat.le_of_ble_eq_true rfl) hTy ?_
  intro p e s m args below meth c Q ls hx hb hr hlocks hown hml hW hK hT hS hQ hl
  have hl : lv_has ls 1 [(0, .ref (base + a0))] := hl
  refine lv_aload_n hx hb dX9_hasCouncil_0 rfl (lv_at hl 0 rfl) ?_
  refine tw_geti hx hb hW hown hK hS f_X9_33_9 hz_a0 hk_a0 (lo := (-2147483648)) (hi := 10) rfl dX9_hasCouncil_1 (fun x3 k2 h1 => ?_)
  refine lv_if_le (tgt := 11) hx hb dX9_hasCouncil_4 (by decide) (fun c4 => ?_) (fun c4 => ?_)
  · have q5 : x3.toInt ≤ 0 := ti_le c4
    have h6 : iv (-2147483648) 0 x3 := iv_leL (y := 0) h1 (iv_c (c := 0) (n := 0) (by decide)) q5 (by decide)
    refine lv_iconst (v := 0) hx hb dX9_hasCouncil_11 (by decide) ?_
    exact tw_endz hx hb hr hlocks hK hT hS hQ rfl ((iv_mono (iv_c (c := 0) (n := 0) (by decide)) (by decide) (by decide))) dX9_hasCouncil_12
  · have q7 : 0 < x3.toInt := ti_nle c4
    have h8 : iv 1 10 x3 := iv_gtL (y := 0) h1 (iv_c (c := 0) (n := 0) (by decide)) q7 (by decide)
    refine lv_iconst (v := 1) hx hb dX9_hasCouncil_7 (by decide) ?_
    refine lv_goto (tgt := 12) hx hb dX9_hasCouncil_8 (by decide) ?_
    exact tw_endz hx hb hr hlocks hK hT hS hQ rfl ((iv_mono (iv_c (c := 1) (n := 1) (by decide)) (by decide) (by decide))) dX9_hasCouncil_12
def Lt_X11_beside : WL := [(10, 4, 6), (14, 0, 2000000)]
def LRt_X11_beside : WL := []
set_option maxRecDepth 100000 in
set_option maxHeartbeats 4000000 in
theorem t_X11_beside (l : Launch) (D : va_G) (cy : Nat → ClassId) (tx : (Nat → Nat) × (Nat → Nat)) (base Z : Nat) (K N : Nat → Nat) (Ma : MT) (Ra : RT) (Ja : JT) (hTy : Ty Z K N Ma Ra) (a0 : Nat) (hz_a0 : a0 < Z) (hk_a0 : K a0 = 11) (a1 : Int32) (h_a1 : iv (-2147483648) 2147483647 a1) (a2 : Int32) (h_a2 : iv (-2147483648) 2147483647 a2) : Met l yX11_beside [Cond.code yX11_beside cX11_beside 5 (some .int)] (md_rm 2 0 0) (va_Pc [.ref (base + a0), .int a1, .int a2] (md_U D cy tx base Z K N Ma Ra Ja)) (mQi D cy tx base (fun r u => TP Z K N Lt_X11_beside LRt_X11_beside Ma Ra u ∧ (iv (-2147483648) 2147483647 r))) 0 0 (fun q => base ≤ q) := by
  refine tw_ofW (L := Lt_X11_beside) (LR := LRt_X11_beside) (by decide) (Nat.le_of_ble_eq_true rfl) hTy ?_
  intro p e s m args below meth c Q ls hx hb hr hlocks hown hml hW hK hT hS hQ hl
  have hl : lv_has ls 5 [(0, .ref (base + a0)), (1, .int a1), (2, .int a2)] := hl
  refine lv_iload_n hx hb dX11_beside_0 rfl (lv_at hl 1 rfl) ?_
  have J25_1 : ∀  (M1 : MT) (R2 : RT) (J3 : JT) (H : Heap) (locs : List Loc) (ls : Array Slot) (hS : SB D cy base Z K N Lt_X11_beside LRt_X11_beside Ma Ra M1 R2 J3 s H locs) (hl : lv_has ls 5 [(0, .ref (base + a0)), (1, .int a1), (2, .int a2)]), W p l e (md_rm 2 0 0) s m args below meth c H locs 0 0 Q (F0 m 25 ls []) := by
    intro  M1 R2 J3 H locs ls  hS hl
    have f4 := hS.2.2.1
    have g5 := hS.2.2.2
    refine lv_iconst (v := 0) hx hb dX11_beside_25 (by decide) ?_
    refine lv_istore_n (lv' := [(3, .int 0), (0, .ref (base + a0)), (1, .int a1), (2, .int a2)]) hx hb dX11_beside_26 rfl hl (by decide) rfl (fun ls hl => ?_)
    refine lv_aload_n hx hb dX11_beside_27 rfl (lv_at hl 1 rfl) ?_
    refine tw_getr hx hb hW hown hK hS f_X11_31_10 hz_a0 hk_a0 (t := 10) (n := 0) rfl dX11_beside_28 (fun b6 k7 hz_b6 hk_b6 hn_b6 => ?_)
    refine tw_goi hS (md_runV (As := []) (rest := []) hx hb hml hown hW hK hT hS.1 (t_X9_hasCouncil l D cy tx base Z K N M1 R2 J3 hS.2.1 b6 hz_b6 hk_b6) s_X11_170 ⟨rfl, rfl, ⟨Nat.le_of_ble_eq_true rfl, Nat.le_of_ble_eq_true rfl⟩, ⟨Nat.le_of_ble_eq_true rfl, Nat.le_of_ble_eq_true rfl⟩⟩ hz_b6 hk_b6 (by decide) rfl rfl hl.1 rfl (Nat.le_of_ble_eq_true rfl) dX11_beside_31) rfl rfl (fun x14 H locs M11 R12 J10 hS f8 g9 E13 => ?_)
    have eM11 := Fr.nil f8 rfl
    subst eM11
    have eR12 := Fr.nil g9 rfl
    subst eR12
    have h_x14 := E13
    clear E13
    refine lv_if_eq (tgt := 41) hx hb dX11_beside_34 (by decide) (fun c15 => ?_) (fun c15 => ?_)
    · have q16 : x14.toInt = 0 := ti_eq c15
      have h17 : iv 0 0 x14 := ⟨by have := (h_x14).1; have := ((iv_c (c := 0) (n := 0) (by decide))).1; omega, by have := (h_x14).2; have := ((iv_c (c := 0) (n := 0) (by decide))).2; omega⟩
      refine lv_aload_n hx hb dX11_beside_41 rfl (lv_at hl 1 rfl) ?_
      refine lv_iconst (v := 0) hx hb dX11_beside_42 (by decide) ?_
      refine tw_goi hS (md_runV (As := [.int 0]) (rest := []) hx hb hml hown hW hK hT hS.1 (t_X11_refuse l D cy tx base Z K N M1 R2 J10 hS.2.1 a0 hz_a0 hk_a0 0 (iv_mono (iv_c (c := 0) (n := 0) (by decide)) (by decide) (by decide))) s_X11_158 ⟨rfl, rfl, ⟨Nat.le_of_ble_eq_true rfl, Nat.le_of_ble_eq_true rfl⟩, ⟨Nat.le_of_ble_eq_true rfl, Nat.le_of_ble_eq_true rfl⟩⟩ hz_a0 hk_a0 (by decide) rfl rfl hl.1 rfl (Nat.le_of_ble_eq_true rfl) dX11_beside_43) rfl rfl (fun x24 H locs M21 R22 J20 hS f18 g19 E23 => ?_)
      have eR22 := Fr.nil g19 rfl
      subst eR22
      have h_x24 := E23
      clear E23
      exact tw_endi hx hb hr hlocks hK hT hS hQ ((iv_mono h_x24 (by decide) (by decide))) dX11_beside_46
    · have q25 : ¬ x14.toInt = 0 := ti_ne c15
      have h26 : iv 1 1 x14 := ⟨by have := (h_x14).1; have := ((iv_c (c := 0) (n := 0) (by decide))).1; have := ((iv_c (c := 0) (n := 0) (by decide))).2; omega, by have := (h_x14).2; have := ((iv_c (c := 0) (n := 0) (by decide))).1; have := ((iv_c (c := 0) (n := 0) (by decide))).2; omega⟩
      refine lv_iload_n hx hb dX11_beside_37 rfl (lv_at hl 0 rfl) ?_
      refine lv_if_ne (tgt := 47) hx hb dX11_beside_38 (by decide) (fun h => absurd h (by decide)) (fun _ => ?_)
      refine lv_aload_n hx hb dX11_beside_41 rfl (lv_at hl 1 rfl) ?_
      refine lv_iconst (v := 0) hx hb dX11_beside_42 (by decide) ?_
      refine tw_goi hS (md_runV (As := [.int 0]) (rest := []) hx hb hml hown hW hK hT hS.1 (t_X11_refuse l D cy tx base Z K N M1 R2 J10 hS.2.1 a0 hz_a0 hk_a0 0 (iv_mono (iv_c (c := 0) (n := 0) (by decide)) (by decide) (by decide))) s_X11_158 ⟨rfl, rfl, ⟨Nat.le_of_ble_eq_true rfl, Nat.le_of_ble_eq_true rfl⟩, ⟨Nat.le_of_ble_eq_true rfl, Nat.le_of_ble_eq_true rfl⟩⟩ hz_a0 hk_a0 (by decide) rfl rfl hl.1 rfl (Nat.le_of_ble_eq_true rfl) dX11_beside_43) rfl rfl (fun x33 H locs M30 R31 J29 hS f27 g28 E32 => ?_)
      have eR31 := Fr.nil g28 rfl
      subst eR31
      have h_x33 := E32
      clear E32
      exact tw_endi hx hb hr hlocks hK hT hS hQ ((iv_mono h_x33 (by decide) (by decide))) dX11_beside_46
  refine lv_if_lt (tgt := 25) hx hb dX11_beside_1 (by decide) (fun c34 => ?_) (fun c34 => ?_)
  · have q35 : a1.toInt < 0 := ti_lt c34
    have h36 : iv (-2147483648) (-1) a1 := iv_ltL (y := 0) h_a1 (iv_c (c := 0) (n := 0) (by decide)) q35 (by decide)
    exact J25_1  Ma Ra Ja s.heap [] _  hS hl
  · have q37 : 0 ≤ a1.toInt := ti_nlt c34
    have h38 : iv 0 2147483647 a1 := iv_geL (y := 0) h_a1 (iv_c (c := 0) (n := 0) (by decide)) q37 (by decide)
    refine lv_iload_n hx hb dX11_beside_4 rfl (lv_at hl 1 rfl) ?_
    refine lv_iconst (v := 2) hx hb dX11_beside_5 (by decide) ?_
    refine lv_icmp_gt (tgt := 25) hx hb dX11_beside_6 (by decide) (fun c39 => ?_) (fun c39 => ?_)
    · have q40 : 2 < a1.toInt := ti_lt c39
      have h41 : iv 3 2147483647 a1 := iv_gtL (y := 2) h38 (iv_c (c := 2) (n := 2) (by decide)) q40 (by decide)
      exact J25_1  Ma Ra Ja s.heap [] _  hS hl
    · have q42 : a1.toInt ≤ 2 := ti_nlt c39
      have h43 : iv 0 2 a1 := iv_leL (y := 2) h38 (iv_c (c := 2) (n := 2) (by decide)) q42 (by decide)
      refine lv_iload_n hx hb dX11_beside_9 rfl (lv_at hl 2 rfl) ?_
      refine lv_iconst (v := 1) hx hb dX11_beside_10 (by decide) ?_
      refine lv_icmp_lt (tgt := 25) hx hb dX11_beside_11 (by decide) (fun c44 => ?_) (fun c44 => ?_)
      · have q45 : a2.toInt < 1 := ti_lt c44
        have h46 : iv (-2147483648) 0 a2 := iv_ltL (y := 1) h_a2 (iv_c (c := 1) (n := 1) (by decide)) q45 (by decide)
        exact J25_1  Ma Ra Ja s.heap [] _  hS hl
      · have q47 : 1 ≤ a2.toInt := ti_nlt c44
        have h48 : iv 1 2147483647 a2 := iv_geL (y := 1) h_a2 (iv_c (c := 1) (n := 1) (by decide)) q47 (by decide)
        refine lv_iload_n hx hb dX11_beside_14 rfl (lv_at hl 2 rfl) ?_
        refine lv_sipush (v := 9999) hx hb dX11_beside_15 (by decide) ?_
        refine lv_icmp_gt (tgt := 25) hx hb dX11_beside_18 (by decide) (fun c49 => ?_) (fun c49 => ?_)
        · have q50 : 9999 < a2.toInt := ti_lt c49
          have h51 : iv 10000 2147483647 a2 := iv_gtL (y := 9999) h48 (iv_c (c := 9999) (n := 9999) (by decide)) q50 (by decide)
          exact J25_1  Ma Ra Ja s.heap [] _  hS hl
        · have q52 : a2.toInt ≤ 9999 := ti_nlt c49
          have h53 : iv 1 9999 a2 := iv_leL (y := 9999) h48 (iv_c (c := 9999) (n := 9999) (by decide)) q52 (by decide)
          refine lv_iconst (v := 1) hx hb dX11_beside_21 (by decide) ?_
          refine lv_goto (tgt := 26) hx hb dX11_beside_22 (by decide) ?_
          refine lv_istore_n (lv' := [(3, .int 1), (0, .ref (base + a0)), (1, .int a1), (2, .int a2)]) hx hb dX11_beside_26 rfl hl (by decide) rfl (fun ls hl => ?_)
          refine lv_aload_n hx hb dX11_beside_27 rfl (lv_at hl 1 rfl) ?_
          refine tw_getr hx hb hW hown hK hS f_X11_31_10 hz_a0 hk_a0 (t := 10) (n := 0) rfl dX11_beside_28 (fun b54 k55 hz_b54 hk_b54 hn_b54 => ?_)
          refine tw_goi hS (md_runV (As := []) (rest := []) hx hb hml hown hW hK hT hS.1 (t_X9_hasCouncil l D cy tx base Z K N Ma Ra Ja hS.2.1 b54 hz_b54 hk_b54) s_X11_170 ⟨rfl, rfl, ⟨Nat.le_of_ble_eq_true rfl, Nat.le_of_ble_eq_true rfl⟩, ⟨Nat.le_of_ble_eq_true rfl, Nat.le_of_ble_eq_true rfl⟩⟩ hz_b54 hk_b54 (by decide) rfl rfl hl.1 rfl (Nat.le_of_ble_eq_true rfl) dX11_beside_31) rfl rfl (fun x62 H locs M59 R60 J58 hS f56 g57 E61 => ?_)
          have eM59 := Fr.nil f56 rfl
          subst eM59
          have eR60 := Fr.nil g57 rfl
          subst eR60
          have h_x62 := E61
          clear E61
          refine lv_if_eq (tgt := 41) hx hb dX11_beside_34 (by decide) (fun c63 => ?_) (fun c63 => ?_)
          · have q64 : x62.toInt = 0 := ti_eq c63
            have h65 : iv 0 0 x62 := ⟨by have := (h_x62).1; have := ((iv_c (c := 0) (n := 0) (by decide))).1; omega, by have := (h_x62).2; have := ((iv_c (c := 0) (n := 0) (by decide))).2; omega⟩
            refine lv_aload_n hx hb dX11_beside_41 rfl (lv_at hl 1 rfl) ?_
            refine lv_iconst (v := 0) hx hb dX11_beside_42 (by decide) ?_
            refine tw_goi hS (md_runV (As := [.int 0]) (rest := []) hx hb hml hown hW hK hT hS.1 (t_X11_refuse l D cy tx base Z K N Ma Ra J58 hS.2.1 a0 hz_a0 hk_a0 0 (iv_mono (iv_c (c := 0) (n := 0) (by decide)) (by decide) (by decide))) s_X11_158 ⟨rfl, rfl, ⟨Nat.le_of_ble_eq_true rfl, Nat.le_of_ble_eq_true rfl⟩, ⟨Nat.le_of_ble_eq_true rfl, Nat.le_of_ble_eq_true rfl⟩⟩ hz_a0 hk_a0 (by decide) rfl rfl hl.1 rfl (Nat.le_of_ble_eq_true rfl) dX11_beside_43) rfl rfl (fun x72 H locs M69 R70 J68 hS f66 g67 E71 => ?_)
            have eR70 := Fr.nil g67 rfl
            subst eR70
            have h_x72 := E71
            clear E71
            exact tw_endi hx hb hr hlocks hK hT hS hQ ((iv_mono h_x72 (by decide) (by decide))) dX11_beside_46
          · have q73 : ¬ x62.toInt = 0 := ti_ne c63
            have h74 : iv 1 1 x62 := ⟨by have := (h_x62).1; have := ((iv_c (c := 0) (n := 0) (by decide))).1; have := ((iv_c (c := 0) (n := 0) (by decide))).2; omega, by have := (h_x62).2; have := ((iv_c (c := 0) (n := 0) (by decide))).1; have := ((iv_c (c := 0) (n := 0) (by decide))).2; omega⟩
            refine lv_iload_n hx hb dX11_beside_37 rfl (lv_at hl 0 rfl) ?_
            refine lv_if_ne (tgt := 47) hx hb dX11_beside_38 (by decide) (fun _ => ?_) (fun h => absurd h (by decide))
            refine lv_aload_n hx hb dX11_beside_47 rfl (lv_at hl 1 rfl) ?_
            refine tw_getrk hx hb hW hown hK hS f_X11_31_10 hz_a0 hk_a0 (b := b54) k55 dX11_beside_48 ?_
            refine tw_geti hx hb hW hown hK hS f_X11_174_9 hz_b54 hk_b54 (lo := (-2147483648)) (hi := 2147483647) rfl dX11_beside_51 (fun x77 k76 h75 => ?_)
            refine lv_istore (lv' := [(4, .int x77), (3, .int 1), (0, .ref (base + a0)), (1, .int a1), (2, .int a2)]) hx hb dX11_beside_54 hl (by decide) rfl (fun ls hl => ?_)
            refine lv_aload_n hx hb dX11_beside_56 rfl (lv_at hl 2 rfl) ?_
            refine tw_getrk hx hb hW hown hK hS f_X11_31_10 hz_a0 hk_a0 (b := b54) k55 dX11_beside_57 ?_
            refine lv_iload_n hx hb dX11_beside_60 rfl (lv_at hl 3 rfl) ?_
            refine tw_puti hx hb hW hown hK hS f_X11_174_9 hz_b54 hk_b54 rfl rfl (lo := (-2147483648)) (hi := 2147483647) rfl (iv_mono h43 (by decide) (by decide)) rfl dX11_beside_61 (fun H locs M80 hS k78 f79 => ?_)
            refine lv_aload_n hx hb dX11_beside_64 rfl (lv_at hl 2 rfl) ?_
            refine tw_getrk hx hb hW hown hK hS f_X11_31_10 hz_a0 hk_a0 (b := b54) k55 dX11_beside_65 ?_
            refine lv_iload_n hx hb dX11_beside_68 rfl (lv_at hl 4 rfl) ?_
            refine tw_puti hx hb hW hown hK hS f_X11_177_9 hz_b54 hk_b54 rfl rfl (lo := 0) (hi := 9999) rfl (iv_mono h53 (by decide) (by decide)) rfl dX11_beside_69 (fun H locs M83 hS k81 f82 => ?_)
            refine lv_iload hx hb dX11_beside_72 (lv_at hl 0 rfl) ?_
            exact tw_endi hx hb hr hlocks hK hT hS hQ (h75) dX11_beside_74
def Lt_X1_gainFound : WL := []
def LRt_X1_gainFound : WL := []
set_option maxRecDepth 100000 in
set_option maxHeartbeats 4000000 in
theorem t_X1_gainFound (l : Launch) (D : va_G) (cy : Nat → ClassId) (tx : (Nat → Nat) × (Nat → Nat)) (base Z : Nat) (K N : Nat → Nat) (Ma : MT) (Ra : RT) (Ja : JT) (hTy : Ty Z K N Ma Ra) (a0 : Nat) (hz_a0 : a0 < Z) (hk_a0 : K a0 = 2) : Met l yX1_gainFound [Cond.code yX1_gainFound cX1_gainFound 1 (some .int)] (md_rm 1 0 0) (va_Pc [.ref (base + a0)] (md_U D cy tx base Z K N Ma Ra Ja)) (mQi D cy tx base (fun r u => TP Z K N Lt_X1_gainFound LRt_X1_gainFound Ma Ra u ∧ (iv (-2147483648) 2147483647 r))) 0 0 (fun q => base ≤ q) := by
  refine tw_ofW (L := Lt_X1_gainFound) (LR := LRt_X1_gainFound) (by decide) (Nat.le_of_ble_eq_true rfl) hTy ?_
  intro p e s m args below meth c Q ls hx hb hr hlocks hown hml hW hK hT hS hQ hl
  have hl : lv_has ls 1 [(0, .ref (base + a0))] := hl
  refine lv_aload_n hx hb dX1_gainFound_0 rfl (lv_at hl 0 rfl) ?_
  refine tw_geti hx hb hW hown hK hS f_X1_35_1 hz_a0 hk_a0 (lo := (-2147483648)) (hi := 2147483647) rfl dX1_gainFound_1 (fun x3 k2 h1 => ?_)
  refine lv_aload_n hx hb dX1_gainFound_4 rfl (lv_at hl 0 rfl) ?_
  refine tw_geti hx hb hW hown hK hS f_X1_53_1 hz_a0 hk_a0 (lo := (-2147483648)) (hi := 2147483647) rfl dX1_gainFound_5 (fun x6 k5 h4 => ?_)
  refine lv_imul hx hb dX1_gainFound_8 ?_
  refine tw_top (fun x8 => ?_)
  have h7 := iv_any x8
  exact tw_endi hx hb hr hlocks hK hT hS hQ (h7) dX1_gainFound_9
def Lt_X1_pointAt : WL := []
def LRt_X1_pointAt : WL := []
set_option maxRecDepth 100000 in
set_option maxHeartbeats 4000000 in
theorem t_X1_pointAt (l : Launch) (D : va_G) (cy : Nat → ClassId) (tx : (Nat → Nat) × (Nat → Nat)) (base Z : Nat) (K N : Nat → Nat) (Ma : MT) (Ra : RT) (Ja : JT) (hTy : Ty Z K N Ma Ra) (a0 : Nat) (hz_a0 : a0 < Z) (hk_a0 : K a0 = 2) (a1 : Int32) (h_a1 : iv 0 5 a1) : Met l yX1_pointAt [Cond.code yX1_pointAt cX1_pointAt 2 (some .int)] (md_rm 1 0 0) (va_Pc [.ref (base + a0), .int a1] (md_U D cy tx base Z K N Ma Ra Ja)) (mQi D cy tx base (fun r u => TP Z K N Lt_X1_pointAt LRt_X1_pointAt Ma Ra u ∧ (iv (-1000000) 11 r))) 0 0 (fun q => base ≤ q) := by
  refine tw_ofW (L := Lt_X1_pointAt) (LR := LRt_X1_pointAt) (by decide) (Nat.le_of_ble_eq_true rfl) hTy ?_
  intro p e s m args below meth c Q ls hx hb hr hlocks hown hml hW hK hT hS hQ hl
  have hl : lv_has ls 2 [(0, .ref (base + a0)), (1, .int a1)] := hl
  refine lv_iload_n hx hb dX1_pointAt_0 rfl (lv_at hl 1 rfl) ?_
  refine lv_if_lt (tgt := 21) hx hb dX1_pointAt_1 (by decide) (fun c1 => False.elim (by have q : a1.toInt < 0 := ti_lt c1; have := (h_a1).1; have := (h_a1).2; omega)) (fun c1 => ?_)
  have q2 : 0 ≤ a1.toInt := ti_nlt c1
  refine lv_iload_n hx hb dX1_pointAt_4 rfl (lv_at hl 1 rfl) ?_
  refine lv_aload_n hx hb dX1_pointAt_5 rfl (lv_at hl 0 rfl) ?_
  refine tw_geti hx hb hW hown hK hS f_X1_49_1 hz_a0 hk_a0 (lo := 0) (hi := 6) rfl dX1_pointAt_6 (fun x5 k4 h3 => ?_)
  refine lv_icmp_ge (tgt := 21) hx hb dX1_pointAt_9 (by decide) (fun c6 => ?_) (fun c6 => ?_)
  · have q7 : x5.toInt ≤ a1.toInt := ti_le c6
    have h8 : iv 0 5 x5 := iv_leL (y := a1) h3 h_a1 q7 (by decide)
    refine lv_ldc hx hb hown (hW _ w_5_149 rfl) dX1_pointAt_21 ?_
    exact tw_endi hx hb hr hlocks hK hT hS hQ ((iv_mono (iv_c (c := (-1000000)) (n := (-1000000)) (by decide)) (by decide) (by decide))) dX1_pointAt_23
  · have q9 : a1.toInt < x5.toInt := ti_nle c6
    have h10 : iv 1 6 x5 := iv_gtL (y := a1) h3 h_a1 q9 (by decide)
    refine lv_aload_n hx hb dX1_pointAt_12 rfl (lv_at hl 0 rfl) ?_
    refine tw_getr hx hb hW hown hK hS f_X1_20_1 hz_a0 hk_a0 (t := 21) (n := 6) rfl dX1_pointAt_13 (fun b11 k12 hz_b11 hk_b11 hn_b11 => ?_)
    have hn_b11 := hn_b11 (by decide)
    refine lv_iload_n hx hb dX1_pointAt_16 rfl (lv_at hl 1 rfl) ?_
    refine tw_iald hx hb hK hS hz_b11 hk_b11 (Or.inr (by decide)) hn_b11 (lo := 0) (hi := 11) h_a1 ⟨by decide, by decide⟩ rg_u21 dX1_pointAt_17 (fun x15 k14 h13 => ?_)
    refine lv_goto (tgt := 23) hx hb dX1_pointAt_18 (by decide) ?_
    exact tw_endi hx hb hr hlocks hK hT hS hQ ((iv_mono h13 (by decide) (by decide))) dX1_pointAt_23
def Lt_X5_trueSaying : WL := []
def LRt_X5_trueSaying : WL := []
set_option maxRecDepth 100000 in
set_option maxHeartbeats 4000000 in
theorem t_X5_trueSaying (l : Launch) (D : va_G) (cy : Nat → ClassId) (tx : (Nat → Nat) × (Nat → Nat)) (base Z : Nat) (K N : Nat → Nat) (Ma : MT) (Ra : RT) (Ja : JT) (hTy : Ty Z K N Ma Ra) (a0 : Int32) (h_a0 : iv (-2147483648) 2147483647 a0) : Met l yX5_trueSaying [Cond.code yX5_trueSaying cX5_trueSaying 1 (some .int)] (md_rm 1 0 0) (va_Pc [.int a0] (md_U D cy tx base Z K N Ma Ra Ja)) (mQi D cy tx base (fun r u => TP Z K N Lt_X5_trueSaying LRt_X5_trueSaying Ma Ra u ∧ (iv 0 2 r))) 0 0 (fun q => base ≤ q) := by
  refine tw_ofW (L := Lt_X5_trueSaying) (LR := LRt_X5_trueSaying) (by decide) (Nat.le_of_ble_eq_true rfl) hTy ?_
  intro p e s m args below meth c Q ls hx hb hr hlocks hown hml hW hK hT hS hQ hl
  have hl : lv_has ls 1 [(0, .int a0)] := hl
  refine lv_iload_n hx hb dX5_trueSaying_0 rfl (lv_at hl 0 rfl) ?_
  refine lv_if_le (tgt := 8) hx hb dX5_trueSaying_1 (by decide) (fun c1 => ?_) (fun c1 => ?_)
  · have q2 : a0.toInt ≤ 0 := ti_le c1
    have h3 : iv (-2147483648) 0 a0 := iv_leL (y := 0) h_a0 (iv_c (c := 0) (n := 0) (by decide)) q2 (by decide)
    refine lv_iload_n hx hb dX5_trueSaying_8 rfl (lv_at hl 0 rfl) ?_
    refine lv_if_ge (tgt := 16) hx hb dX5_trueSaying_9 (by decide) (fun c4 => ?_) (fun c4 => ?_)
    · have q5 : 0 ≤ a0.toInt := ti_le c4
      have h6 : iv 0 0 a0 := iv_geL (y := 0) h3 (iv_c (c := 0) (n := 0) (by decide)) q5 (by decide)
      refine lv_iconst (v := 2) hx hb dX5_trueSaying_16 (by decide) ?_
      exact tw_endi hx hb hr hlocks hK hT hS hQ ((iv_mono (iv_c (c := 2) (n := 2) (by decide)) (by decide) (by decide))) dX5_trueSaying_17
    · have q7 : a0.toInt < 0 := ti_nle c4
      have h8 : iv (-2147483648) (-1) a0 := iv_ltL (y := 0) h3 (iv_c (c := 0) (n := 0) (by decide)) q7 (by decide)
      refine lv_iconst (v := 0) hx hb dX5_trueSaying_12 (by decide) ?_
      refine lv_goto (tgt := 17) hx hb dX5_trueSaying_13 (by decide) ?_
      exact tw_endi hx hb hr hlocks hK hT hS hQ ((iv_mono (iv_c (c := 0) (n := 0) (by decide)) (by decide) (by decide))) dX5_trueSaying_17
  · have q9 : 0 < a0.toInt := ti_nle c1
    have h10 : iv 1 2147483647 a0 := iv_gtL (y := 0) h_a0 (iv_c (c := 0) (n := 0) (by decide)) q9 (by decide)
    refine lv_iconst (v := 1) hx hb dX5_trueSaying_4 (by decide) ?_
    refine lv_goto (tgt := 17) hx hb dX5_trueSaying_5 (by decide) ?_
    exact tw_endi hx hb hr hlocks hK hT hS hQ ((iv_mono (iv_c (c := 1) (n := 1) (by decide)) (by decide) (by decide))) dX5_trueSaying_17
def Lt_X5_countedVoices : WL := [(6, 8, 12)]
def LRt_X5_countedVoices : WL := []
set_option maxRecDepth 100000 in
set_option maxHeartbeats 4000000 in
theorem t_X5_countedVoices (l : Launch) (D : va_G) (cy : Nat → ClassId) (tx : (Nat → Nat) × (Nat → Nat)) (base Z : Nat) (K N : Nat → Nat) (Ma : MT) (Ra : RT) (Ja : JT) (hTy : Ty Z K N Ma Ra) (a0 : Nat) (hz_a0 : a0 < Z) (hk_a0 : K a0 = 6) (a1 : Int32) (h_a1 : iv 4 6 a1) : Met l yX5_countedVoices [Cond.code yX5_countedVoices cX5_countedVoices 4 (some .int)] (md_rm 1 0 0) (va_Pc [.ref (base + a0), .int a1] (md_U D cy tx base Z K N Ma Ra Ja)) (mQi D cy tx base (fun r u => TP Z K N Lt_X5_countedVoices LRt_X5_countedVoices Ma Ra u ∧ (iv (-2147483648) 2147483647 r))) 0 0 (fun q => base ≤ q) := by
  refine tw_ofW (L := Lt_X5_countedVoices) (LR := LRt_X5_countedVoices) (by decide) (Nat.le_of_ble_eq_true rfl) hTy ?_
  intro p e s m args below meth c Q ls hx hb hr hlocks hown hml hW hK hT hS hQ hl
  have hl : lv_has ls 4 [(0, .ref (base + a0)), (1, .int a1)] := hl
  refine lv_aload_n hx hb dX5_countedVoices_0 rfl (lv_at hl 0 rfl) ?_
  refine tw_geti hx hb hW hown hK hS f_X5_43_5 hz_a0 hk_a0 (lo := 0) (hi := 1) rfl dX5_countedVoices_1 (fun x3 k2 h1 => ?_)
  have J140_4 : ∀  (M4 : MT) (R5 : RT) (J6 : JT) (H : Heap) (locs : List Loc) (ls : Array Slot) (hS : SB D cy base Z K N Lt_X5_countedVoices LRt_X5_countedVoices Ma Ra M4 R5 J6 s H locs) (hl : lv_has ls 4 [(0, .ref (base + a0)), (1, .int a1)]), W p l e (md_rm 1 0 0) s m args below meth c H locs 0 0 Q (F0 m 140 ls []) := by
    intro  M4 R5 J6 H locs ls  hS hl
    have f7 := hS.2.2.1
    have g8 := hS.2.2.2
    refine lv_iload_n hx hb dX5_countedVoices_140 rfl (lv_at hl 1 rfl) ?_
    refine lv_iconst (v := 4) hx hb dX5_countedVoices_141 (by decide) ?_
    refine lv_icmp_ne (tgt := 152) hx hb dX5_countedVoices_142 (by decide) (fun c9 => ?_) (fun c9 => ?_)
    · have q10 : ¬ a1.toInt = 4 := ti_ne c9
      have h11 : iv 5 6 a1 := ⟨by have := (h_a1).1; have := ((iv_c (c := 4) (n := 4) (by decide))).1; have := ((iv_c (c := 4) (n := 4) (by decide))).2; omega, by have := (h_a1).2; have := ((iv_c (c := 4) (n := 4) (by decide))).1; have := ((iv_c (c := 4) (n := 4) (by decide))).2; omega⟩
      refine lv_iload_n hx hb dX5_countedVoices_152 rfl (lv_at hl 1 rfl) ?_
      refine lv_iconst (v := 5) hx hb dX5_countedVoices_153 (by decide) ?_
      refine lv_icmp_ne (tgt := 164) hx hb dX5_countedVoices_154 (by decide) (fun c12 => ?_) (fun c12 => ?_)
      · have q13 : ¬ a1.toInt = 5 := ti_ne c12
        have h14 : iv 6 6 a1 := ⟨by have := (h11).1; have := ((iv_c (c := 5) (n := 5) (by decide))).1; have := ((iv_c (c := 5) (n := 5) (by decide))).2; omega, by have := (h11).2; have := ((iv_c (c := 5) (n := 5) (by decide))).1; have := ((iv_c (c := 5) (n := 5) (by decide))).2; omega⟩
        refine lv_aload_n hx hb dX5_countedVoices_164 rfl (lv_at hl 0 rfl) ?_
        refine tw_geti hx hb hW hown hK hS f_X5_85_5 hz_a0 hk_a0 (lo := (-2147483648)) (hi := 2147483647) rfl dX5_countedVoices_165 (fun x17 k16 h15 => ?_)
        exact tw_endi hx hb hr hlocks hK hT hS hQ (h15) dX5_countedVoices_168
      · have q18 : a1.toInt = 5 := ti_eq c12
        have h19 : iv 5 5 a1 := ⟨by have := (h11).1; have := ((iv_c (c := 5) (n := 5) (by decide))).1; omega, by have := (h11).2; have := ((iv_c (c := 5) (n := 5) (by decide))).2; omega⟩
        refine lv_aload_n hx hb dX5_countedVoices_157 rfl (lv_at hl 0 rfl) ?_
        refine tw_geti hx hb hW hown hK hS f_X5_82_5 hz_a0 hk_a0 (lo := (-2147483648)) (hi := 2147483647) rfl dX5_countedVoices_158 (fun x22 k21 h20 => ?_)
        refine lv_goto (tgt := 168) hx hb dX5_countedVoices_161 (by decide) ?_
        exact tw_endi hx hb hr hlocks hK hT hS hQ (h20) dX5_countedVoices_168
    · have q23 : a1.toInt = 4 := ti_eq c9
      have h24 : iv 4 4 a1 := ⟨by have := (h_a1).1; have := ((iv_c (c := 4) (n := 4) (by decide))).1; omega, by have := (h_a1).2; have := ((iv_c (c := 4) (n := 4) (by decide))).2; omega⟩
      refine lv_aload_n hx hb dX5_countedVoices_145 rfl (lv_at hl 0 rfl) ?_
      refine tw_geti hx hb hW hown hK hS f_X5_79_5 hz_a0 hk_a0 (lo := (-2147483648)) (hi := 2147483647) rfl dX5_countedVoices_146 (fun x27 k26 h25 => ?_)
      refine lv_goto (tgt := 168) hx hb dX5_countedVoices_149 (by decide) ?_
      exact tw_endi hx hb hr hlocks hK hT hS hQ (h25) dX5_countedVoices_168
  refine lv_if_ne (tgt := 140) hx hb dX5_countedVoices_4 (by decide) (fun c28 => ?_) (fun c28 => ?_)
  · have q29 : ¬ x3.toInt = 0 := ti_ne c28
    have h30 : iv 1 1 x3 := ⟨by have := (h1).1; have := ((iv_c (c := 0) (n := 0) (by decide))).1; have := ((iv_c (c := 0) (n := 0) (by decide))).2; omega, by have := (h1).2; have := ((iv_c (c := 0) (n := 0) (by decide))).1; have := ((iv_c (c := 0) (n := 0) (by decide))).2; omega⟩
    exact J140_4  Ma Ra Ja s.heap [] _  hS hl
  · have q31 : x3.toInt = 0 := ti_eq c28
    have h32 : iv 0 0 x3 := ⟨by have := (h1).1; have := ((iv_c (c := 0) (n := 0) (by decide))).1; omega, by have := (h1).2; have := ((iv_c (c := 0) (n := 0) (by decide))).2; omega⟩
    refine lv_aload_n hx hb dX5_countedVoices_7 rfl (lv_at hl 0 rfl) ?_
    refine lv_iconst (v := 1) hx hb dX5_countedVoices_8 (by decide) ?_
    refine tw_puti hx hb hW hown hK hS f_X5_43_5 hz_a0 hk_a0 rfl rfl (lo := 0) (hi := 1) rfl (iv_mono (iv_c (c := 1) (n := 1) (by decide)) (by decide) (by decide)) rfl dX5_countedVoices_9 (fun H locs M35 hS k33 f34 => ?_)
    refine lv_aload_n hx hb dX5_countedVoices_12 rfl (lv_at hl 0 rfl) ?_
    refine lv_iconst (v := 0) hx hb dX5_countedVoices_13 (by decide) ?_
    refine tw_puti hx hb hW hown hK hS f_X5_79_5 hz_a0 hk_a0 rfl rfl (lo := (-2147483648)) (hi := 2147483647) rfl (iv_mono (iv_c (c := 0) (n := 0) (by decide)) (by decide) (by decide)) rfl dX5_countedVoices_14 (fun H locs M38 hS k36 f37 => ?_)
    refine lv_aload_n hx hb dX5_countedVoices_17 rfl (lv_at hl 0 rfl) ?_
    refine lv_iconst (v := 0) hx hb dX5_countedVoices_18 (by decide) ?_
    refine tw_puti hx hb hW hown hK hS f_X5_82_5 hz_a0 hk_a0 rfl rfl (lo := (-2147483648)) (hi := 2147483647) rfl (iv_mono (iv_c (c := 0) (n := 0) (by decide)) (by decide) (by decide)) rfl dX5_countedVoices_19 (fun H locs M41 hS k39 f40 => ?_)
    refine lv_aload_n hx hb dX5_countedVoices_22 rfl (lv_at hl 0 rfl) ?_
    refine lv_iconst (v := 0) hx hb dX5_countedVoices_23 (by decide) ?_
    refine tw_puti hx hb hW hown hK hS f_X5_85_5 hz_a0 hk_a0 rfl rfl (lo := (-2147483648)) (hi := 2147483647) rfl (iv_mono (iv_c (c := 0) (n := 0) (by decide)) (by decide) (by decide)) rfl dX5_countedVoices_24 (fun H locs M44 hS k42 f43 => ?_)
    refine lv_iconst (v := 0) hx hb dX5_countedVoices_27 (by decide) ?_
    refine lv_istore_n (lv' := [(2, .int 0), (0, .ref (base + a0)), (1, .int a1)]) hx hb dX5_countedVoices_28 rfl hl (by decide) rfl (fun ls hl => ?_)
    have W29_46 : ∀ (n_46 : Nat) (x45 : Int32) (M46 : MT) (R47 : RT) (J48 : JT) (H : Heap) (locs : List Loc) (ls : Array Slot) (h_x45 : iv 0 10 x45) (hm_46 : 10 - x45.toInt < (n_46 : Int)) (hS : SB D cy base Z K N Lt_X5_countedVoices LRt_X5_countedVoices Ma Ra M46 R47 J48 s H locs) (hl : lv_has ls 4 [(2, .int x45), (0, .ref (base + a0)), (1, .int a1)]), W p l e (md_rm 1 0 0) s m args below meth c H locs 0 0 Q (F0 m 29 ls []) := by
      intro n_46
      induction n_46 with
      | zero =>
        intro x45 M46 R47 J48 H locs ls h_x45 hm_46 hS hl
        exfalso
        have := (h_a1).1; have := (h_a1).2; have := (h_x45).1; have := (h_x45).2; omega
      | succ n_46 ih_46 =>
        intro x45 M46 R47 J48 H locs ls h_x45 hm_46 hS hl
        have f49 := hS.2.2.1
        have g50 := hS.2.2.2
        refine lv_iload_n hx hb dX5_countedVoices_29 rfl (lv_at hl 0 rfl) ?_
        refine lv_aload_n hx hb dX5_countedVoices_30 rfl (lv_at hl 1 rfl) ?_
        refine tw_getr hx hb hW hown hK hS f_X5_9_5 hz_a0 hk_a0 (t := 10) (n := 0) rfl dX5_countedVoices_31 (fun b51 k52 hz_b51 hk_b51 hn_b51 => ?_)
        refine tw_geti hx hb hW hown hK hS f_X5_53_9 hz_b51 hk_b51 (lo := (-2147483648)) (hi := 10) rfl dX5_countedVoices_34 (fun x55 k54 h53 => ?_)
        refine lv_icmp_ge (tgt := 140) hx hb dX5_countedVoices_37 (by decide) (fun c56 => ?_) (fun c56 => ?_)
        · have q57 : x55.toInt ≤ x45.toInt := ti_le c56
          exact J140_4  M46 R47 J48 H locs _  hS (lv_sub hl [1, 2] rfl)
        · have q58 : x45.toInt < x55.toInt := ti_nle c56
          have h59 : iv 0 9 x45 := iv_ltL (y := x55) h_x45 h53 q58 (by decide)
          have h60 : iv 1 10 x55 := iv_gtL (y := x45) h53 h_x45 q58 (by decide)
          refine lv_aload_n hx hb dX5_countedVoices_40 rfl (lv_at hl 1 rfl) ?_
          refine tw_getrk hx hb hW hown hK hS f_X5_9_5 hz_a0 hk_a0 (b := b51) k52 dX5_countedVoices_41 ?_
          refine tw_geti hx hb hW hown hK hS f_X5_88_9 hz_b51 hk_b51 (lo := (-2147483648)) (hi := 2147483647) rfl dX5_countedVoices_44 (fun x63 k62 h61 => ?_)
          refine lv_iload_n hx hb dX5_countedVoices_47 rfl (lv_at hl 0 rfl) ?_
          refine lv_ishr hx hb dX5_countedVoices_48 ?_
          refine tw_top (fun x65 => ?_)
          have h64 := iv_any x65
          refine lv_iconst (v := 1) hx hb dX5_countedVoices_49 (by decide) ?_
          refine tw_iand (hi := 1) hx hb (iv_mono (iv_c (c := 1) (n := 1) (by decide)) (lo := 0) (hi := 1) (by decide) (by decide)) (by decide) dX5_countedVoices_50 (fun x68 h66 => ?_)
          refine lv_iconst (v := 1) hx hb dX5_countedVoices_51 (by decide) ?_
          refine lv_icmp_ne (tgt := 134) hx hb dX5_countedVoices_52 (by decide) (fun c69 => ?_) (fun c69 => ?_)
          · have q70 : ¬ x68.toInt = 1 := ti_ne c69
            have h71 : iv 0 0 x68 := ⟨by have := (h66).1; have := ((iv_c (c := 1) (n := 1) (by decide))).1; have := ((iv_c (c := 1) (n := 1) (by decide))).2; omega, by have := (h66).2; have := ((iv_c (c := 1) (n := 1) (by decide))).1; have := ((iv_c (c := 1) (n := 1) (by decide))).2; omega⟩
            refine tw_iinc (lv' := fun x74 => [(2, .int x74), (0, .ref (base + a0)), (1, .int a1)]) (lo := 1) (hi := 10) hx hb dX5_countedVoices_134 hl (k := 0) rfl h59 (by decide) ⟨by decide, by decide⟩ ⟨by decide, by decide⟩ (by decide) (fun _ => rfl) (fun x74 ls e73 h72 hl => ?_)
            refine lv_goto (tgt := 29) hx hb dX5_countedVoices_137 (by decide) ?_
            have hm75 : 10 - x74.toInt < (n_46 : Int) := by
              have := (h_a1).1; have := (h_a1).2; have := (h59).1; have := (h59).2; have := (h72).1; have := (h72).2; omega
            exact ih_46 x74 M46 R47 J48 H locs _ (iv_mono h72 (by decide) (by decide)) hm75 hS hl
          · have q76 : x68.toInt = 1 := ti_eq c69
            have h77 : iv 1 1 x68 := ⟨by have := (h66).1; have := ((iv_c (c := 1) (n := 1) (by decide))).1; omega, by have := (h66).2; have := ((iv_c (c := 1) (n := 1) (by decide))).2; omega⟩
            refine lv_aload_n hx hb dX5_countedVoices_55 rfl (lv_at hl 1 rfl) ?_
            refine tw_getrk hx hb hW hown hK hS f_X5_9_5 hz_a0 hk_a0 (b := b51) k52 dX5_countedVoices_56 ?_
            refine tw_getr hx hb hW hown hK hS f_X5_91_9 hz_b51 hk_b51 (t := 14) (n := 120) rfl dX5_countedVoices_59 (fun b78 k79 hz_b78 hk_b78 hn_b78 => ?_)
            have hn_b78 := hn_b78 (by decide)
            refine lv_aload_n hx hb dX5_countedVoices_62 rfl (lv_at hl 1 rfl) ?_
            refine tw_geti hx hb hW hown hK hS f_X5_30_5 hz_a0 hk_a0 (lo := 0) (hi := 11) rfl dX5_countedVoices_63 (fun x82 k81 h80 => ?_)
            refine lv_bipush (v := 10) hx hb dX5_countedVoices_66 (by decide) ?_
            refine tw_imulc (k := 10) (lo := 0) (hi := 110) hx hb h80 (by decide) (by decide) ⟨by decide, by decide⟩ ⟨by decide, by decide⟩ dX5_countedVoices_68 (fun x85 e84 h83 => ?_)
            refine lv_iload_n hx hb dX5_countedVoices_69 rfl (lv_at hl 0 rfl) ?_
            refine tw_iadd (lo := 0) (hi := 119) hx hb h83 h59 ⟨by decide, by decide⟩ ⟨by decide, by decide⟩ dX5_countedVoices_70 (fun x88 e87 h86 => ?_)
            refine tw_iald hx hb hK hS hz_b78 hk_b78 (Or.inl rfl) hn_b78 (lo := (-2147483648)) (hi := 2147483647) h86 ⟨by decide, by decide⟩ rg_u14 dX5_countedVoices_71 (fun x91 k90 h89 => ?_)
            refine lv_istore_n (lv' := [(3, .int x91), (2, .int x45), (0, .ref (base + a0)), (1, .int a1)]) hx hb dX5_countedVoices_72 rfl hl (by decide) rfl (fun ls hl => ?_)
            refine lv_aload_n hx hb dX5_countedVoices_73 rfl (lv_at hl 2 rfl) ?_
            refine lv_dup hx hb dX5_countedVoices_74 rfl ?_
            refine tw_geti hx hb hW hown hK hS f_X5_79_5 hz_a0 hk_a0 (lo := (-2147483648)) (hi := 2147483647) rfl dX5_countedVoices_75 (fun x94 k93 h92 => ?_)
            refine lv_aload_n hx hb dX5_countedVoices_78 rfl (lv_at hl 2 rfl) ?_
            refine tw_getr hx hb hW hown hK hS f_X5_25_5 hz_a0 hk_a0 (t := 20) (n := 10) rfl dX5_countedVoices_79 (fun b95 k96 hz_b95 hk_b95 hn_b95 => ?_)
            have hn_b95 := hn_b95 (by decide)
            refine lv_iload_n hx hb dX5_countedVoices_82 rfl (lv_at hl 1 rfl) ?_
            refine tw_iald hx hb hK hS hz_b95 hk_b95 (Or.inr (by decide)) hn_b95 (lo := (-2147483648)) (hi := 2147483647) h59 ⟨by decide, by decide⟩ rg_u20 dX5_countedVoices_83 (fun x99 k98 h97 => ?_)
            refine lv_iadd hx hb dX5_countedVoices_84 ?_
            refine tw_top (fun x101 => ?_)
            have h100 := iv_any x101
            refine tw_puti hx hb hW hown hK hS f_X5_79_5 hz_a0 hk_a0 rfl rfl (lo := (-2147483648)) (hi := 2147483647) rfl h100 rfl dX5_countedVoices_85 (fun H locs M104 hS k102 f103 => ?_)
            refine lv_aload_n hx hb dX5_countedVoices_88 rfl (lv_at hl 2 rfl) ?_
            refine lv_dup hx hb dX5_countedVoices_89 rfl ?_
            refine tw_geti hx hb hW hown hK hS f_X5_82_5 hz_a0 hk_a0 (lo := (-2147483648)) (hi := 2147483647) rfl dX5_countedVoices_90 (fun x107 k106 h105 => ?_)
            refine lv_iload_n hx hb dX5_countedVoices_93 rfl (lv_at hl 0 rfl) ?_
            refine lv_if_le (tgt := 106) hx hb dX5_countedVoices_94 (by decide) (fun c108 => ?_) (fun c108 => ?_)
            · have q109 : x91.toInt ≤ 0 := ti_le c108
              have h110 : iv (-2147483648) 0 x91 := iv_leL (y := 0) h89 (iv_c (c := 0) (n := 0) (by decide)) q109 (by decide)
              refine lv_iconst (v := 0) hx hb dX5_countedVoices_106 (by decide) ?_
              refine tw_iadd (lo := (-2147483648)) (hi := 2147483647) hx hb h105 (iv_c (c := 0) (n := 0) (by decide)) ⟨by decide, by decide⟩ ⟨by decide, by decide⟩ dX5_countedVoices_107 (fun x113 e112 h111 => ?_)
              have e112 : x113.toInt = x107.toInt + 0 := e112
              refine tw_puti hx hb hW hown hK hS f_X5_82_5 hz_a0 hk_a0 rfl rfl (lo := (-2147483648)) (hi := 2147483647) rfl h111 rfl dX5_countedVoices_108 (fun H locs M116 hS k114 f115 => ?_)
              refine lv_aload_n hx hb dX5_countedVoices_111 rfl (lv_at hl 2 rfl) ?_
              refine lv_dup hx hb dX5_countedVoices_112 rfl ?_
              refine tw_geti hx hb hW hown hK hS f_X5_85_5 hz_a0 hk_a0 (lo := (-2147483648)) (hi := 2147483647) rfl dX5_countedVoices_113 (fun x119 k118 h117 => ?_)
              refine lv_iload_n hx hb dX5_countedVoices_116 rfl (lv_at hl 0 rfl) ?_
              refine lv_if_ge (tgt := 129) hx hb dX5_countedVoices_117 (by decide) (fun c120 => ?_) (fun c120 => ?_)
              · have q121 : 0 ≤ x91.toInt := ti_le c120
                have h122 : iv 0 0 x91 := iv_geL (y := 0) h110 (iv_c (c := 0) (n := 0) (by decide)) q121 (by decide)
                refine lv_iconst (v := 0) hx hb dX5_countedVoices_129 (by decide) ?_
                refine tw_iadd (lo := (-2147483648)) (hi := 2147483647) hx hb h117 (iv_c (c := 0) (n := 0) (by decide)) ⟨by decide, by decide⟩ ⟨by decide, by decide⟩ dX5_countedVoices_130 (fun x125 e124 h123 => ?_)
                have e124 : x125.toInt = x119.toInt + 0 := e124
                refine tw_puti hx hb hW hown hK hS f_X5_85_5 hz_a0 hk_a0 rfl rfl (lo := (-2147483648)) (hi := 2147483647) rfl h123 rfl dX5_countedVoices_131 (fun H locs M128 hS k126 f127 => ?_)
                refine tw_iinc (lv' := fun x131 => [(2, .int x131), (3, .int x91), (0, .ref (base + a0)), (1, .int a1)]) (lo := 1) (hi := 10) hx hb dX5_countedVoices_134 hl (k := 1) rfl h59 (by decide) ⟨by decide, by decide⟩ ⟨by decide, by decide⟩ (by decide) (fun _ => rfl) (fun x131 ls e130 h129 hl => ?_)
                refine lv_goto (tgt := 29) hx hb dX5_countedVoices_137 (by decide) ?_
                have hm132 : 10 - x131.toInt < (n_46 : Int) := by
                  have := (h_a1).1; have := (h_a1).2; have := (h129).1; have := (h129).2; have := (h59).1; have := (h59).2; have := (h86).1; have := (h86).2; omega
                exact ih_46 x131 M128 R47 J48 H locs _ (iv_mono h129 (by decide) (by decide)) hm132 hS (lv_sub hl [0, 2, 3] rfl)
              · have q133 : x91.toInt < 0 := ti_nle c120
                have h134 : iv (-2147483648) (-1) x91 := iv_ltL (y := 0) h110 (iv_c (c := 0) (n := 0) (by decide)) q133 (by decide)
                refine lv_aload_n hx hb dX5_countedVoices_120 rfl (lv_at hl 2 rfl) ?_
                refine tw_getrk hx hb hW hown hK hS f_X5_25_5 hz_a0 hk_a0 (b := b95) k96 dX5_countedVoices_121 ?_
                refine lv_iload_n hx hb dX5_countedVoices_124 rfl (lv_at hl 1 rfl) ?_
                have k135 : M116 b95 x45.toNatClampNeg = x99 := ((Fr.kpa f115 hk_b95 rfl x45.toNatClampNeg).trans (Fr.kpa f103 hk_b95 rfl x45.toNatClampNeg)).trans k98
                refine tw_ialk hx hb hK hS hz_b95 hk_b95 (Or.inr (by decide)) hn_b95 h59 ⟨by decide, by decide⟩ (v := x99) k135 dX5_countedVoices_125 ?_
                refine lv_goto (tgt := 130) hx hb dX5_countedVoices_126 (by decide) ?_
                refine lv_iadd hx hb dX5_countedVoices_130 ?_
                refine tw_top (fun x137 => ?_)
                have h136 := iv_any x137
                refine tw_puti hx hb hW hown hK hS f_X5_85_5 hz_a0 hk_a0 rfl rfl (lo := (-2147483648)) (hi := 2147483647) rfl h136 rfl dX5_countedVoices_131 (fun H locs M140 hS k138 f139 => ?_)
                refine tw_iinc (lv' := fun x143 => [(2, .int x143), (3, .int x91), (0, .ref (base + a0)), (1, .int a1)]) (lo := 1) (hi := 10) hx hb dX5_countedVoices_134 hl (k := 1) rfl h59 (by decide) ⟨by decide, by decide⟩ ⟨by decide, by decide⟩ (by decide) (fun _ => rfl) (fun x143 ls e142 h141 hl => ?_)
                refine lv_goto (tgt := 29) hx hb dX5_countedVoices_137 (by decide) ?_
                have hm144 : 10 - x143.toInt < (n_46 : Int) := by
                  have := (h_a1).1; have := (h_a1).2; have := (h141).1; have := (h141).2; have := (h59).1; have := (h59).2; have := (h86).1; have := (h86).2; omega
                exact ih_46 x143 M140 R47 J48 H locs _ (iv_mono h141 (by decide) (by decide)) hm144 hS (lv_sub hl [0, 2, 3] rfl)
            · have q145 : 0 < x91.toInt := ti_nle c108
              have h146 : iv 1 2147483647 x91 := iv_gtL (y := 0) h89 (iv_c (c := 0) (n := 0) (by decide)) q145 (by decide)
              refine lv_aload_n hx hb dX5_countedVoices_97 rfl (lv_at hl 2 rfl) ?_
              refine tw_getrk hx hb hW hown hK hS f_X5_25_5 hz_a0 hk_a0 (b := b95) k96 dX5_countedVoices_98 ?_
              refine lv_iload_n hx hb dX5_countedVoices_101 rfl (lv_at hl 1 rfl) ?_
              have k147 : M104 b95 x45.toNatClampNeg = x99 := (Fr.kpa f103 hk_b95 rfl x45.toNatClampNeg).trans k98
              refine tw_ialk hx hb hK hS hz_b95 hk_b95 (Or.inr (by decide)) hn_b95 h59 ⟨by decide, by decide⟩ (v := x99) k147 dX5_countedVoices_102 ?_
              refine lv_goto (tgt := 107) hx hb dX5_countedVoices_103 (by decide) ?_
              refine lv_iadd hx hb dX5_countedVoices_107 ?_
              refine tw_top (fun x149 => ?_)
              have h148 := iv_any x149
              refine tw_puti hx hb hW hown hK hS f_X5_82_5 hz_a0 hk_a0 rfl rfl (lo := (-2147483648)) (hi := 2147483647) rfl h148 rfl dX5_countedVoices_108 (fun H locs M152 hS k150 f151 => ?_)
              refine lv_aload_n hx hb dX5_countedVoices_111 rfl (lv_at hl 2 rfl) ?_
              refine lv_dup hx hb dX5_countedVoices_112 rfl ?_
              refine tw_geti hx hb hW hown hK hS f_X5_85_5 hz_a0 hk_a0 (lo := (-2147483648)) (hi := 2147483647) rfl dX5_countedVoices_113 (fun x155 k154 h153 => ?_)
              refine lv_iload_n hx hb dX5_countedVoices_116 rfl (lv_at hl 0 rfl) ?_
              refine lv_if_ge (tgt := 129) hx hb dX5_countedVoices_117 (by decide) (fun c156 => ?_) (fun c156 => False.elim (by have q : x91.toInt < 0 := ti_nle c156; have := (h146).1; have := (h146).2; omega))
              have q157 : 0 ≤ x91.toInt := ti_le c156
              refine lv_iconst (v := 0) hx hb dX5_countedVoices_129 (by decide) ?_
              refine tw_iadd (lo := (-2147483648)) (hi := 2147483647) hx hb h153 (iv_c (c := 0) (n := 0) (by decide)) ⟨by decide, by decide⟩ ⟨by decide, by decide⟩ dX5_countedVoices_130 (fun x160 e159 h158 => ?_)
              have e159 : x160.toInt = x155.toInt + 0 := e159
              refine tw_puti hx hb hW hown hK hS f_X5_85_5 hz_a0 hk_a0 rfl rfl (lo := (-2147483648)) (hi := 2147483647) rfl h158 rfl dX5_countedVoices_131 (fun H locs M163 hS k161 f162 => ?_)
              refine tw_iinc (lv' := fun x166 => [(2, .int x166), (3, .int x91), (0, .ref (base + a0)), (1, .int a1)]) (lo := 1) (hi := 10) hx hb dX5_countedVoices_134 hl (k := 1) rfl h59 (by decide) ⟨by decide, by decide⟩ ⟨by decide, by decide⟩ (by decide) (fun _ => rfl) (fun x166 ls e165 h164 hl => ?_)
              refine lv_goto (tgt := 29) hx hb dX5_countedVoices_137 (by decide) ?_
              have hm167 : 10 - x166.toInt < (n_46 : Int) := by
                have := (h_a1).1; have := (h_a1).2; have := (h164).1; have := (h164).2; have := (h59).1; have := (h59).2; have := (h86).1; have := (h86).2; omega
              exact ih_46 x166 M163 R47 J48 H locs _ (iv_mono h164 (by decide) (by decide)) hm167 hS (lv_sub hl [0, 2, 3] rfl)
    have hm168 : 10 - (0 : Int32).toInt < (((11 : Nat) : Int) : Int) := by
      have := (h_a1).1; have := (h_a1).2; have : (0 : Int32).toInt = 0 := (by decide); omega
    exact W29_46 11 0 M44 Ra Ja H locs _ (iv_mono (iv_c (c := 0) (n := 0) (by decide)) (by decide) (by decide)) hm168 hS hl
def Lt_X5_mostBehind : WL := []
def LRt_X5_mostBehind : WL := []
set_option maxRecDepth 100000 in
set_option maxHeartbeats 4000000 in
theorem t_X5_mostBehind (l : Launch) (D : va_G) (cy : Nat → ClassId) (tx : (Nat → Nat) × (Nat → Nat)) (base Z : Nat) (K N : Nat → Nat) (Ma : MT) (Ra : RT) (Ja : JT) (hTy : Ty Z K N Ma Ra) (a0 : Nat) (hz_a0 : a0 < Z) (hk_a0 : K a0 = 6) (a1 : Int32) (h_a1 : iv 0 9 a1) (row_a0 : RowOK N Ma Ra a0) : Met l yX5_mostBehind [Cond.code yX5_mostBehind cX5_mostBehind 6 (some .int)] (md_rm 1 0 0) (va_Pc [.ref (base + a0), .int a1] (md_U D cy tx base Z K N Ma Ra Ja)) (mQi D cy tx base (fun r u => TP Z K N Lt_X5_mostBehind LRt_X5_mostBehind Ma Ra u ∧ (iv 0 2147483647 r))) 0 0 (fun q => base ≤ q) := by
  refine tw_ofW (L := Lt_X5_mostBehind) (LR := LRt_X5_mostBehind) (by decide) (Nat.le_of_ble_eq_true rfl) hTy ?_
  intro p e s m args below meth c Q ls hx hb hr hlocks hown hml hW hK hT hS hQ hl
  have hl : lv_has ls 6 [(0, .ref (base + a0)), (1, .int a1)] := hl
  refine lv_iconst (v := 0) hx hb dX5_mostBehind_0 (by decide) ?_
  refine lv_istore_n (lv' := [(2, .int 0), (0, .ref (base + a0)), (1, .int a1)]) hx hb dX5_mostBehind_1 rfl hl (by decide) rfl (fun ls hl => ?_)
  refine lv_aload_n hx hb dX5_mostBehind_2 rfl (lv_at hl 1 rfl) ?_
  refine tw_geti hx hb hW hown hK hS f_X5_37_5 hz_a0 hk_a0 (lo := 0) (hi := 8) rfl dX5_mostBehind_3 (fun x3 k2 h1 => ?_)
  refine lv_istore_n (lv' := [(3, .int x3), (2, .int 0), (0, .ref (base + a0)), (1, .int a1)]) hx hb dX5_mostBehind_6 rfl hl (by decide) rfl (fun ls hl => ?_)
  have W7_6 : ∀ (n_6 : Nat) (x4 : Int32) (x5 : Int32) (M6 : MT) (R7 : RT) (J8 : JT) (H : Heap) (locs : List Loc) (ls : Array Slot) (h_x4 : iv 0 2147483647 x4) (h_x5 : iv 0 8 x5) (hm_6 : 8 - x5.toInt < (n_6 : Int)) (hS : SB D cy base Z K N Lt_X5_mostBehind LRt_X5_mostBehind Ma Ra M6 R7 J8 s H locs) (hl : lv_has ls 6 [(2, .int x4), (3, .int x5), (0, .ref (base + a0)), (1, .int a1)]), W p l e (md_rm 1 0 0) s m args below meth c H locs 0 0 Q (F0 m 7 ls []) := by
    intro n_6
    induction n_6 with
    | zero =>
      intro x4 x5 M6 R7 J8 H locs ls h_x4 h_x5 hm_6 hS hl
      exfalso
      have := (h_a1).1; have := (h_a1).2; have := (h_x5).1; have := (h_x5).2; omega
    | succ n_6 ih_6 =>
      intro x4 x5 M6 R7 J8 H locs ls h_x4 h_x5 hm_6 hS hl
      have f9 := hS.2.2.1
      have g10 := hS.2.2.2
      refine lv_iload_n hx hb dX5_mostBehind_7 rfl (lv_at hl 1 rfl) ?_
      refine lv_aload_n hx hb dX5_mostBehind_8 rfl (lv_at hl 2 rfl) ?_
      refine tw_geti hx hb hW hown hK hS f_X5_40_5 hz_a0 hk_a0 (lo := 0) (hi := 8) rfl dX5_mostBehind_9 (fun x13 k12 h11 => ?_)
      refine lv_icmp_ge (tgt := 70) hx hb dX5_mostBehind_12 (by decide) (fun c14 => ?_) (fun c14 => ?_)
      · have q15 : x13.toInt ≤ x5.toInt := ti_le c14
        refine lv_iload_n hx hb dX5_mostBehind_70 rfl (lv_at hl 0 rfl) ?_
        exact tw_endi hx hb hr hlocks hK hT hS hQ (h_x4) dX5_mostBehind_71
      · have q16 : x5.toInt < x13.toInt := ti_nle c14
        have h17 : iv 0 7 x5 := iv_ltL (y := x13) h_x5 h11 q16 (by decide)
        have h18 : iv 1 8 x13 := iv_gtL (y := x5) h11 h_x5 q16 (by decide)
        refine lv_aload_n hx hb dX5_mostBehind_15 rfl (lv_at hl 2 rfl) ?_
        refine tw_getr hx hb hW hown hK hS f_X5_9_5 hz_a0 hk_a0 (t := 10) (n := 0) rfl dX5_mostBehind_16 (fun b19 k20 hz_b19 hk_b19 hn_b19 => ?_)
        refine tw_getr hx hb hW hown hK hS f_X5_91_9 hz_b19 hk_b19 (t := 14) (n := 120) rfl dX5_mostBehind_19 (fun b21 k22 hz_b21 hk_b21 hn_b21 => ?_)
        have hn_b21 := hn_b21 (by decide)
        refine lv_aload_n hx hb dX5_mostBehind_22 rfl (lv_at hl 2 rfl) ?_
        refine tw_getr hx hb hW hown hK hS f_X5_29_5 hz_a0 hk_a0 (t := 21) (n := 0) rfl dX5_mostBehind_23 (fun b23 k24 hz_b23 hk_b23 hn_b23 => ?_)
        refine lv_iload_n hx hb dX5_mostBehind_26 rfl (lv_at hl 1 rfl) ?_
        have q25 : x13.toInt ≤ (N b23 : Int) := by have := (RowOK.to row_a0 (Fr.kp (k := 7) f9 hk_a0 rfl) (Fr.kp (k := 5) g10 hk_a0 rfl)) b23 k24; rw [k12] at this; exact this
        refine tw_ialn hx hb hK hS hz_b23 hk_b23 (Or.inr (by decide)) (by have := (h_a1).1; have := (h_a1).2; have := (h17).1; have := (h17).2; omega) (by have := (h_a1).1; have := (h_a1).2; have := (h17).1; have := (h17).2; omega) (lo := 0) (hi := 11) rg_u21 dX5_mostBehind_27 (fun x28 k27 h26 => ?_)
        refine lv_bipush (v := 10) hx hb dX5_mostBehind_28 (by decide) ?_
        refine tw_imulc (k := 10) (lo := 0) (hi := 110) hx hb h26 (by decide) (by decide) ⟨by decide, by decide⟩ ⟨by decide, by decide⟩ dX5_mostBehind_30 (fun x31 e30 h29 => ?_)
        refine lv_iload_n hx hb dX5_mostBehind_31 rfl (lv_at hl 3 rfl) ?_
        refine tw_iadd (lo := 0) (hi := 119) hx hb h29 h_a1 ⟨by decide, by decide⟩ ⟨by decide, by decide⟩ dX5_mostBehind_32 (fun x34 e33 h32 => ?_)
        refine tw_iald hx hb hK hS hz_b21 hk_b21 (Or.inl rfl) hn_b21 (lo := (-2147483648)) (hi := 2147483647) h32 ⟨by decide, by decide⟩ rg_u14 dX5_mostBehind_33 (fun x37 k36 h35 => ?_)
        refine lv_istore (lv' := [(4, .int x37), (2, .int x4), (3, .int x5), (0, .ref (base + a0)), (1, .int a1)]) hx hb dX5_mostBehind_34 hl (by decide) rfl (fun ls hl => ?_)
        refine lv_iload hx hb dX5_mostBehind_36 (lv_at hl 0 rfl) ?_
        refine lv_if_ge (tgt := 47) hx hb dX5_mostBehind_38 (by decide) (fun c38 => ?_) (fun c38 => ?_)
        · have q39 : 0 ≤ x37.toInt := ti_le c38
          have h40 : iv 0 2147483647 x37 := iv_geL (y := 0) h35 (iv_c (c := 0) (n := 0) (by decide)) q39 (by decide)
          refine lv_iload hx hb dX5_mostBehind_47 (lv_at hl 0 rfl) ?_
          refine lv_istore (lv' := [(5, .int x37), (4, .int x37), (2, .int x4), (3, .int x5), (0, .ref (base + a0)), (1, .int a1)]) hx hb dX5_mostBehind_49 hl (by decide) rfl (fun ls hl => ?_)
          refine lv_iload hx hb dX5_mostBehind_51 (lv_at hl 0 rfl) ?_
          refine lv_iload_n hx hb dX5_mostBehind_53 rfl (lv_at hl 2 rfl) ?_
          refine lv_icmp_le (tgt := 62) hx hb dX5_mostBehind_54 (by decide) (fun c41 => ?_) (fun c41 => ?_)
          · have q42 : x37.toInt ≤ x4.toInt := ti_le c41
            refine lv_iload_n hx hb dX5_mostBehind_62 rfl (lv_at hl 2 rfl) ?_
            refine lv_istore_n (lv' := [(2, .int x4), (5, .int x37), (4, .int x37), (3, .int x5), (0, .ref (base + a0)), (1, .int a1)]) hx hb dX5_mostBehind_63 rfl hl (by decide) rfl (fun ls hl => ?_)
            refine tw_iinc (lv' := fun x45 => [(3, .int x45), (2, .int x4), (5, .int x37), (4, .int x37), (0, .ref (base + a0)), (1, .int a1)]) (lo := 1) (hi := 8) hx hb dX5_mostBehind_64 hl (k := 3) rfl h17 (by decide) ⟨by decide, by decide⟩ ⟨by decide, by decide⟩ (by decide) (fun _ => rfl) (fun x45 ls e44 h43 hl => ?_)
            refine lv_goto (tgt := 7) hx hb dX5_mostBehind_67 (by decide) ?_
            have hm46 : 8 - x45.toInt < (n_6 : Int) := by
              have := (h_a1).1; have := (h_a1).2; have := (h43).1; have := (h43).2; have := (h17).1; have := (h17).2; omega
            exact ih_6 x4 x45 M6 R7 J8 H locs _ h_x4 (iv_mono h43 (by decide) (by decide)) hm46 hS (lv_sub hl [1, 0, 4, 5] rfl)
          · have q47 : x4.toInt < x37.toInt := ti_nle c41
            have h48 : iv 1 2147483647 x37 := iv_gtL (y := x4) h40 h_x4 q47 (by decide)
            have h49 : iv 0 2147483646 x4 := iv_ltL (y := x37) h_x4 h40 q47 (by decide)
            refine lv_iload hx hb dX5_mostBehind_57 (lv_at hl 0 rfl) ?_
            refine lv_goto (tgt := 63) hx hb dX5_mostBehind_59 (by decide) ?_
            refine lv_istore_n (lv' := [(2, .int x37), (5, .int x37), (4, .int x37), (3, .int x5), (0, .ref (base + a0)), (1, .int a1)]) hx hb dX5_mostBehind_63 rfl hl (by decide) rfl (fun ls hl => ?_)
            refine tw_iinc (lv' := fun x52 => [(3, .int x52), (2, .int x37), (5, .int x37), (4, .int x37), (0, .ref (base + a0)), (1, .int a1)]) (lo := 1) (hi := 8) hx hb dX5_mostBehind_64 hl (k := 3) rfl h17 (by decide) ⟨by decide, by decide⟩ ⟨by decide, by decide⟩ (by decide) (fun _ => rfl) (fun x52 ls e51 h50 hl => ?_)
            refine lv_goto (tgt := 7) hx hb dX5_mostBehind_67 (by decide) ?_
            have hm53 : 8 - x52.toInt < (n_6 : Int) := by
              have := (h_a1).1; have := (h_a1).2; have := (h17).1; have := (h17).2; have := (h50).1; have := (h50).2; omega
            exact ih_6 x37 x52 M6 R7 J8 H locs _ (iv_mono h48 (by decide) (by decide)) (iv_mono h50 (by decide) (by decide)) hm53 hS (lv_sub hl [1, 0, 4, 5] rfl)
        · have q54 : x37.toInt < 0 := ti_nle c38
          have h55 : iv (-2147483648) (-1) x37 := iv_ltL (y := 0) h35 (iv_c (c := 0) (n := 0) (by decide)) q54 (by decide)
          refine lv_iload hx hb dX5_mostBehind_41 (lv_at hl 0 rfl) ?_
          refine lv_ineg hx hb dX5_mostBehind_43 ?_
          refine tw_top (fun x57 => ?_)
          have h56 := iv_any x57
          refine lv_goto (tgt := 49) hx hb dX5_mostBehind_44 (by decide) ?_
          refine lv_istore (lv' := [(5, .int x57), (4, .int x37), (2, .int x4), (3, .int x5), (0, .ref (base + a0)), (1, .int a1)]) hx hb dX5_mostBehind_49 hl (by decide) rfl (fun ls hl => ?_)
          refine lv_iload hx hb dX5_mostBehind_51 (lv_at hl 0 rfl) ?_
          refine lv_iload_n hx hb dX5_mostBehind_53 rfl (lv_at hl 2 rfl) ?_
          refine lv_icmp_le (tgt := 62) hx hb dX5_mostBehind_54 (by decide) (fun c58 => ?_) (fun c58 => ?_)
          · have q59 : x57.toInt ≤ x4.toInt := ti_le c58
            refine lv_iload_n hx hb dX5_mostBehind_62 rfl (lv_at hl 2 rfl) ?_
            refine lv_istore_n (lv' := [(2, .int x4), (5, .int x57), (4, .int x37), (3, .int x5), (0, .ref (base + a0)), (1, .int a1)]) hx hb dX5_mostBehind_63 rfl hl (by decide) rfl (fun ls hl => ?_)
            refine tw_iinc (lv' := fun x62 => [(3, .int x62), (2, .int x4), (5, .int x57), (4, .int x37), (0, .ref (base + a0)), (1, .int a1)]) (lo := 1) (hi := 8) hx hb dX5_mostBehind_64 hl (k := 3) rfl h17 (by decide) ⟨by decide, by decide⟩ ⟨by decide, by decide⟩ (by decide) (fun _ => rfl) (fun x62 ls e61 h60 hl => ?_)
            refine lv_goto (tgt := 7) hx hb dX5_mostBehind_67 (by decide) ?_
            have hm63 : 8 - x62.toInt < (n_6 : Int) := by
              have := (h_a1).1; have := (h_a1).2; have := (h17).1; have := (h17).2; have := (h60).1; have := (h60).2; omega
            exact ih_6 x4 x62 M6 R7 J8 H locs _ h_x4 (iv_mono h60 (by decide) (by decide)) hm63 hS (lv_sub hl [1, 0, 4, 5] rfl)
          · have q64 : x4.toInt < x57.toInt := ti_nle c58
            have h65 : iv 1 2147483647 x57 := iv_gtL (y := x4) h56 h_x4 q64 (by decide)
            have h66 : iv 0 2147483646 x4 := iv_ltL (y := x57) h_x4 h56 q64 (by decide)
            refine lv_iload hx hb dX5_mostBehind_57 (lv_at hl 0 rfl) ?_
            refine lv_goto (tgt := 63) hx hb dX5_mostBehind_59 (by decide) ?_
            refine lv_istore_n (lv' := [(2, .int x57), (5, .int x57), (4, .int x37), (3, .int x5), (0, .ref (base + a0)), (1, .int a1)]) hx hb dX5_mostBehind_63 rfl hl (by decide) rfl (fun ls hl => ?_)
            refine tw_iinc (lv' := fun x69 => [(3, .int x69), (2, .int x57), (5, .int x57), (4, .int x37), (0, .ref (base + a0)), (1, .int a1)]) (lo := 1) (hi := 8) hx hb dX5_mostBehind_64 hl (k := 3) rfl h17 (by decide) ⟨by decide, by decide⟩ ⟨by decide, by decide⟩ (by decide) (fun _ => rfl) (fun x69 ls e68 h67 hl => ?_)
            refine lv_goto (tgt := 7) hx hb dX5_mostBehind_67 (by decide) ?_
            have hm70 : 8 - x69.toInt < (n_6 : Int) := by
              have := (h_a1).1; have := (h_a1).2; have := (h17).1; have := (h17).2; have := (h67).1; have := (h67).2; omega
            exact ih_6 x57 x69 M6 R7 J8 H locs _ (iv_mono h65 (by decide) (by decide)) (iv_mono h67 (by decide) (by decide)) hm70 hS (lv_sub hl [1, 0, 4, 5] rfl)
  have hm71 : 8 - x3.toInt < (((9 : Nat) : Int) : Int) := by
    have := (h_a1).1; have := (h_a1).2; have := (h1).1; have := (h1).2; omega
  exact W7_6 9 0 x3 Ma Ra Ja s.heap [] _ (iv_mono (iv_c (c := 0) (n := 0) (by decide)) (by decide) (by decide)) h1 hm71 hS (lv_sub hl [1, 0, 2, 3] rfl)
def Lt_X9_worthOf : WL := []
def LRt_X9_worthOf : WL := []
set_option maxRecDepth 100000 in
set_option maxHeartbeats 4000000 in
theorem t_X9_worthOf (l : Launch) (D : va_G) (cy : Nat → ClassId) (tx : (Nat → Nat) × (Nat → Nat)) (base Z : Nat) (K N : Nat → Nat) (Ma : MT) (Ra : RT) (Ja : JT) (hTy : Ty Z K N Ma Ra) (a0 : Nat) (hz_a0 : a0 < Z) (hk_a0 : K a0 = 10) (a1 : Int32) (h_a1 : iv 0 9 a1) (a2 : Int32) (h_a2 : iv 0 11 a2) : Met l yX9_worthOf [Cond.code yX9_worthOf cX9_worthOf 3 (some .int)] (md_rm 1 0 0) (va_Pc [.ref (base + a0), .int a1, .int a2] (md_U D cy tx base Z K N Ma Ra Ja)) (mQi D cy tx base (fun r u => TP Z K N Lt_X9_worthOf LRt_X9_worthOf Ma Ra u ∧ (iv (-2147483648) 2147483647 r))) 0 0 (fun q => base ≤ q) := by
  refine tw_ofW (L := Lt_X9_worthOf) (LR := LRt_X9_worthOf) (by decide) (Nat.le_of_ble_eq_true rfl) hTy ?_
  intro p e s m args below meth c Q ls hx hb hr hlocks hown hml hW hK hT hS hQ hl
  have hl : lv_has ls 3 [(0, .ref (base + a0)), (1, .int a1), (2, .int a2)] := hl
  refine lv_aload_n hx hb dX9_worthOf_0 rfl (lv_at hl 0 rfl) ?_
  refine tw_getr hx hb hW hown hK hS f_X9_9_9 hz_a0 hk_a0 (t := 14) (n := 120) rfl dX9_worthOf_1 (fun b1 k2 hz_b1 hk_b1 hn_b1 => ?_)
  have hn_b1 := hn_b1 (by decide)
  refine lv_iload_n hx hb dX9_worthOf_4 rfl (lv_at hl 2 rfl) ?_
  refine lv_bipush (v := 10) hx hb dX9_worthOf_5 (by decide) ?_
  refine tw_imulc (k := 10) (lo := 0) (hi := 110) hx hb h_a2 (by decide) (by decide) ⟨by decide, by decide⟩ ⟨by decide, by decide⟩ dX9_worthOf_7 (fun x5 e4 h3 => ?_)
  refine lv_iload_n hx hb dX9_worthOf_8 rfl (lv_at hl 1 rfl) ?_
  refine tw_iadd (lo := 0) (hi := 119) hx hb h3 h_a1 ⟨by decide, by decide⟩ ⟨by decide, by decide⟩ dX9_worthOf_9 (fun x8 e7 h6 => ?_)
  refine tw_iald hx hb hK hS hz_b1 hk_b1 (Or.inl rfl) hn_b1 (lo := (-2147483648)) (hi := 2147483647) h6 ⟨by decide, by decide⟩ rg_u14 dX9_worthOf_10 (fun x11 k10 h9 => ?_)
  exact tw_endi hx hb hr hlocks hK hT hS hQ (h9) dX9_worthOf_11
def Lt_X5_wordOf : WL := [(6, 8, 12)]
def LRt_X5_wordOf : WL := []
set_option maxRecDepth 100000 in
set_option maxHeartbeats 4000000 in
theorem t_X5_wordOf (l : Launch) (D : va_G) (cy : Nat → ClassId) (tx : (Nat → Nat) × (Nat → Nat)) (base Z : Nat) (K N : Nat → Nat) (Ma : MT) (Ra : RT) (Ja : JT) (hTy : Ty Z K N Ma Ra) (a0 : Nat) (hz_a0 : a0 < Z) (hk_a0 : K a0 = 6) (a1 : Int32) (h_a1 : iv (-134217728) 134217727 a1) (a2 : Int32) (h_a2 : iv 0 9 a2) (row_a0 : RowOK N Ma Ra a0) : Met l yX5_wordOf [Cond.code yX5_wordOf cX5_wordOf 3 (some .long)] (md_rm 2 0 0) (va_Pc [.ref (base + a0), .int a1, .int a2] (md_U D cy tx base Z K N Ma Ra Ja)) (mQl D cy tx base (fun r u => TP Z K N Lt_X5_wordOf LRt_X5_wordOf Ma Ra u ∧ (True))) 0 0 (fun q => base ≤ q) := by
  refine tw_ofW (L := Lt_X5_wordOf) (LR := LRt_X5_wordOf) (by decide) (Nat.le_of_ble_eq_true rfl) hTy ?_
  intro p e s m args below meth c Q ls hx hb hr hlocks hown hml hW hK hT hS hQ hl
  have hl : lv_has ls 3 [(0, .ref (base + a0)), (1, .int a1), (2, .int a2)] := hl
  refine lv_iload_n hx hb dX5_wordOf_0 rfl (lv_at hl 1 rfl) ?_
  by_cases c1 : a1 = 0
  · subst c1
    refine lv_tableIn (off := 51) (tgt := 52) hx hb dX5_wordOf_1 (by decide) (by decide) rfl (by decide) ?_
    refine lv_iload_n hx hb dX5_wordOf_52 rfl (lv_at hl 2 rfl) ?_
    refine lv_i2l hx hb dX5_wordOf_53 rfl ?_
    exact tw_endl hx hb hr hlocks hK hT hS hQ (trivial) dX5_wordOf_54
  have q2 : ¬ a1.toInt = 0 := ti_ne c1
  by_cases c3 : a1 = 1
  · subst c3
    refine lv_tableIn (off := 54) (tgt := 55) hx hb dX5_wordOf_1 (by decide) (by decide) rfl (by decide) ?_
    refine lv_aload_n hx hb dX5_wordOf_55 rfl (lv_at hl 0 rfl) ?_
    refine tw_geti hx hb hW hown hK hS f_X5_30_5 hz_a0 hk_a0 (lo := 0) (hi := 11) rfl dX5_wordOf_56 (fun x6 k5 h4 => ?_)
    refine lv_i2l hx hb dX5_wordOf_59 rfl ?_
    exact tw_endl hx hb hr hlocks hK hT hS hQ (trivial) dX5_wordOf_60
  have q7 : ¬ a1.toInt = 1 := ti_ne c3
  by_cases c8 : a1 = 2
  · subst c8
    refine lv_tableIn (off := 60) (tgt := 61) hx hb dX5_wordOf_1 (by decide) (by decide) rfl (by decide) ?_
    refine lv_aload_n hx hb dX5_wordOf_61 rfl (lv_at hl 0 rfl) ?_
    refine tw_getr hx hb hW hown hK hS f_X5_9_5 hz_a0 hk_a0 (t := 10) (n := 0) rfl dX5_wordOf_62 (fun b9 k10 hz_b9 hk_b9 hn_b9 => ?_)
    refine lv_iload_n hx hb dX5_wordOf_65 rfl (lv_at hl 2 rfl) ?_
    refine lv_aload_n hx hb dX5_wordOf_66 rfl (lv_at hl 0 rfl) ?_
    refine tw_geti hx hb hW hown hK hS f_X5_30_5 hz_a0 hk_a0 (lo := 0) (hi := 11) rfl dX5_wordOf_67 (fun x13 k12 h11 => ?_)
    refine tw_goi hS (md_runV (As := [.int a2, .int x13]) (rest := []) hx hb hml hown hW hK hT hS.1 (t_X9_worthOf l D cy tx base Z K N Ma Ra Ja hS.2.1 b9 hz_b9 hk_b9 a2 h_a2 x13 h11) s_X5_65 ⟨rfl, rfl, ⟨Nat.le_of_ble_eq_true rfl, Nat.le_of_ble_eq_true rfl⟩, ⟨Nat.le_of_ble_eq_true rfl, Nat.le_of_ble_eq_true rfl⟩⟩ hz_b9 hk_b9 (by decide) rfl rfl hl.1 rfl (Nat.le_of_ble_eq_true rfl) dX5_wordOf_70) rfl rfl (fun x20 H locs M17 R18 J16 hS f14 g15 E19 => ?_)
    have eM17 := Fr.nil f14 rfl
    subst eM17
    have eR18 := Fr.nil g15 rfl
    subst eR18
    have h_x20 := E19
    clear E19
    refine lv_i2l hx hb dX5_wordOf_73 rfl ?_
    exact tw_endl hx hb hr hlocks hK hT hS hQ (trivial) dX5_wordOf_74
  have q21 : ¬ a1.toInt = 2 := ti_ne c8
  by_cases c22 : a1 = 3
  · subst c22
    refine lv_tableIn (off := 74) (tgt := 75) hx hb dX5_wordOf_1 (by decide) (by decide) rfl (by decide) ?_
    refine lv_aload_n hx hb dX5_wordOf_75 rfl (lv_at hl 0 rfl) ?_
    refine tw_getr hx hb hW hown hK hS f_X5_25_5 hz_a0 hk_a0 (t := 20) (n := 10) rfl dX5_wordOf_76 (fun b23 k24 hz_b23 hk_b23 hn_b23 => ?_)
    have hn_b23 := hn_b23 (by decide)
    refine lv_iload_n hx hb dX5_wordOf_79 rfl (lv_at hl 2 rfl) ?_
    refine tw_iald hx hb hK hS hz_b23 hk_b23 (Or.inr (by decide)) hn_b23 (lo := (-2147483648)) (hi := 2147483647) h_a2 ⟨by decide, by decide⟩ rg_u20 dX5_wordOf_80 (fun x27 k26 h25 => ?_)
    refine lv_i2l hx hb dX5_wordOf_81 rfl ?_
    exact tw_endl hx hb hr hlocks hK hT hS hQ (trivial) dX5_wordOf_82
  have q28 : ¬ a1.toInt = 3 := ti_ne c22
  by_cases c29 : a1 = 4
  · subst c29
    refine lv_tableIn (off := 82) (tgt := 83) hx hb dX5_wordOf_1 (by decide) (by decide) rfl (by decide) ?_
    refine lv_aload_n hx hb dX5_wordOf_83 rfl (lv_at hl 0 rfl) ?_
    refine lv_iload_n hx hb dX5_wordOf_84 rfl (lv_at hl 1 rfl) ?_
    refine tw_goi hS (md_runV (As := [.int 4]) (rest := []) hx hb hml hown hW hK hT hS.1 (t_X5_countedVoices l D cy tx base Z K N Ma Ra Ja hS.2.1 a0 hz_a0 hk_a0 4 (iv_mono (iv_c (c := 4) (n := 4) (by decide)) (by decide) (by decide))) s_X5_73 ⟨rfl, rfl, ⟨Nat.le_of_ble_eq_true rfl, Nat.le_of_ble_eq_true rfl⟩, ⟨Nat.le_of_ble_eq_true rfl, Nat.le_of_ble_eq_true rfl⟩⟩ hz_a0 hk_a0 (by decide) rfl rfl hl.1 rfl (Nat.le_of_ble_eq_true rfl) dX5_wordOf_85) rfl rfl (fun x36 H locs M33 R34 J32 hS f30 g31 E35 => ?_)
    have eR34 := Fr.nil g31 rfl
    subst eR34
    have h_x36 := E35
    clear E35
    refine lv_i2l hx hb dX5_wordOf_88 rfl ?_
    exact tw_endl hx hb hr hlocks hK hT hS hQ (trivial) dX5_wordOf_89
  have q37 : ¬ a1.toInt = 4 := ti_ne c29
  by_cases c38 : a1 = 5
  · subst c38
    refine lv_tableIn (off := 82) (tgt := 83) hx hb dX5_wordOf_1 (by decide) (by decide) rfl (by decide) ?_
    refine lv_aload_n hx hb dX5_wordOf_83 rfl (lv_at hl 0 rfl) ?_
    refine lv_iload_n hx hb dX5_wordOf_84 rfl (lv_at hl 1 rfl) ?_
    refine tw_goi hS (md_runV (As := [.int 5]) (rest := []) hx hb hml hown hW hK hT hS.1 (t_X5_countedVoices l D cy tx base Z K N Ma Ra Ja hS.2.1 a0 hz_a0 hk_a0 5 (iv_mono (iv_c (c := 5) (n := 5) (by decide)) (by decide) (by decide))) s_X5_73 ⟨rfl, rfl, ⟨Nat.le_of_ble_eq_true rfl, Nat.le_of_ble_eq_true rfl⟩, ⟨Nat.le_of_ble_eq_true rfl, Nat.le_of_ble_eq_true rfl⟩⟩ hz_a0 hk_a0 (by decide) rfl rfl hl.1 rfl (Nat.le_of_ble_eq_true rfl) dX5_wordOf_85) rfl rfl (fun x45 H locs M42 R43 J41 hS f39 g40 E44 => ?_)
    have eR43 := Fr.nil g40 rfl
    subst eR43
    have h_x45 := E44
    clear E44
    refine lv_i2l hx hb dX5_wordOf_88 rfl ?_
    exact tw_endl hx hb hr hlocks hK hT hS hQ (trivial) dX5_wordOf_89
  have q46 : ¬ a1.toInt = 5 := ti_ne c38
  by_cases c47 : a1 = 6
  · subst c47
    refine lv_tableIn (off := 82) (tgt := 83) hx hb dX5_wordOf_1 (by decide) (by decide) rfl (by decide) ?_
    refine lv_aload_n hx hb dX5_wordOf_83 rfl (lv_at hl 0 rfl) ?_
    refine lv_iload_n hx hb dX5_wordOf_84 rfl (lv_at hl 1 rfl) ?_
    refine tw_goi hS (md_runV (As := [.int 6]) (rest := []) hx hb hml hown hW hK hT hS.1 (t_X5_countedVoices l D cy tx base Z K N Ma Ra Ja hS.2.1 a0 hz_a0 hk_a0 6 (iv_mono (iv_c (c := 6) (n := 6) (by decide)) (by decide) (by decide))) s_X5_73 ⟨rfl, rfl, ⟨Nat.le_of_ble_eq_true rfl, Nat.le_of_ble_eq_true rfl⟩, ⟨Nat.le_of_ble_eq_true rfl, Nat.le_of_ble_eq_true rfl⟩⟩ hz_a0 hk_a0 (by decide) rfl rfl hl.1 rfl (Nat.le_of_ble_eq_true rfl) dX5_wordOf_85) rfl rfl (fun x54 H locs M51 R52 J50 hS f48 g49 E53 => ?_)
    have eR52 := Fr.nil g49 rfl
    subst eR52
    have h_x54 := E53
    clear E53
    refine lv_i2l hx hb dX5_wordOf_88 rfl ?_
    exact tw_endl hx hb hr hlocks hK hT hS hQ (trivial) dX5_wordOf_89
  have q55 : ¬ a1.toInt = 6 := ti_ne c47
  by_cases c56 : a1 = 7
  · subst c56
    refine lv_tableIn (off := 89) (tgt := 90) hx hb dX5_wordOf_1 (by decide) (by decide) rfl (by decide) ?_
    refine lv_aload_n hx hb dX5_wordOf_90 rfl (lv_at hl 0 rfl) ?_
    refine lv_iload_n hx hb dX5_wordOf_91 rfl (lv_at hl 2 rfl) ?_
    refine tw_goi hS (md_runV (As := [.int a2]) (rest := []) hx hb hml hown hW hK hT hS.1 (t_X5_mostBehind l D cy tx base Z K N Ma Ra Ja hS.2.1 a0 hz_a0 hk_a0 a2 h_a2 row_a0) s_X5_76 ⟨rfl, rfl, ⟨Nat.le_of_ble_eq_true rfl, Nat.le_of_ble_eq_true rfl⟩, ⟨Nat.le_of_ble_eq_true rfl, Nat.le_of_ble_eq_true rfl⟩⟩ hz_a0 hk_a0 (by decide) rfl rfl hl.1 rfl (Nat.le_of_ble_eq_true rfl) dX5_wordOf_92) rfl rfl (fun x63 H locs M60 R61 J59 hS f57 g58 E62 => ?_)
    have eM60 := Fr.nil f57 rfl
    subst eM60
    have eR61 := Fr.nil g58 rfl
    subst eR61
    have h_x63 := E62
    clear E62
    refine lv_i2l hx hb dX5_wordOf_95 rfl ?_
    exact tw_endl hx hb hr hlocks hK hT hS hQ (trivial) dX5_wordOf_96
  have q64 : ¬ a1.toInt = 7 := ti_ne c56
  by_cases c65 : a1 = 8
  · subst c65
    refine lv_tableIn (off := 96) (tgt := 97) hx hb dX5_wordOf_1 (by decide) (by decide) rfl (by decide) ?_
    refine lv_aload_n hx hb dX5_wordOf_97 rfl (lv_at hl 0 rfl) ?_
    refine tw_geti hx hb hW hown hK hS f_X5_40_5 hz_a0 hk_a0 (lo := 0) (hi := 8) rfl dX5_wordOf_98 (fun x68 k67 h66 => ?_)
    refine lv_aload_n hx hb dX5_wordOf_101 rfl (lv_at hl 0 rfl) ?_
    refine tw_geti hx hb hW hown hK hS f_X5_37_5 hz_a0 hk_a0 (lo := 0) (hi := 8) rfl dX5_wordOf_102 (fun x71 k70 h69 => ?_)
    refine lv_icmp_le (tgt := 121) hx hb dX5_wordOf_105 (by decide) (fun c72 => ?_) (fun c72 => ?_)
    · have q73 : x68.toInt ≤ x71.toInt := ti_le c72
      refine lv_lconst (v := 0) hx hb dX5_wordOf_121 (by decide) ?_
      exact tw_endl hx hb hr hlocks hK hT hS hQ (trivial) dX5_wordOf_122
    · have q74 : x71.toInt < x68.toInt := ti_nle c72
      have h75 : iv 1 8 x68 := iv_gtL (y := x71) h66 h69 q74 (by decide)
      have h76 : iv 0 7 x71 := iv_ltL (y := x68) h69 h66 q74 (by decide)
      refine lv_aload_n hx hb dX5_wordOf_108 rfl (lv_at hl 0 rfl) ?_
      refine tw_getk hx hb hW hown hK hS f_X5_40_5 hz_a0 hk_a0 (v := x68) k67 dX5_wordOf_109 ?_
      refine lv_aload_n hx hb dX5_wordOf_112 rfl (lv_at hl 0 rfl) ?_
      refine tw_getk hx hb hW hown hK hS f_X5_37_5 hz_a0 hk_a0 (v := x71) k70 dX5_wordOf_113 ?_
      refine tw_isub (lo := (-6)) (hi := 8) hx hb h75 h76 ⟨by decide, by decide⟩ ⟨by decide, by decide⟩ dX5_wordOf_116 (fun x79 e78 h77 => ?_)
      refine lv_i2l hx hb dX5_wordOf_117 rfl ?_
      refine lv_goto (tgt := 122) hx hb dX5_wordOf_118 (by decide) ?_
      exact tw_endl hx hb hr hlocks hK hT hS hQ (trivial) dX5_wordOf_122
  have q80 : ¬ a1.toInt = 8 := ti_ne c65
  refine lv_tableOut (tgt := 123) hx hb dX5_wordOf_1 (by have := (h_a1).1; have := (h_a1).2; omega) (by decide) ?_
  refine lv_aload_n hx hb dX5_wordOf_123 rfl (lv_at hl 0 rfl) ?_
  refine tw_geti hx hb hW hown hK hS f_X5_34_5 hz_a0 hk_a0 (lo := (-2147483648)) (hi := 2147483647) rfl dX5_wordOf_124 (fun x83 k82 h81 => ?_)
  refine lv_i2l hx hb dX5_wordOf_127 rfl ?_
  exact tw_endl hx hb hr hlocks hK hT hS hQ (trivial) dX5_wordOf_128
def Lt_X7_joined : WL := []
def LRt_X7_joined : WL := []
set_option maxRecDepth 100000 in
set_option maxHeartbeats 4000000 in
theorem t_X7_joined (l : Launch) (D : va_G) (cy : Nat → ClassId) (tx : (Nat → Nat) × (Nat → Nat)) (base Z : Nat) (K N : Nat → Nat) (Ma : MT) (Ra : RT) (Ja : JT) (hTy : Ty Z K N Ma Ra) (a0 : Int32) (h_a0 : iv 2 10 a0) (a1 : Int64) (a2 : Int64) : Met l yX7_joined [Cond.code yX7_joined cX7_joined 5 (some .long)] (md_rm 1 0 0) (va_Pc [.int a0, .long a1, .long a2] (md_U D cy tx base Z K N Ma Ra Ja)) (mQl D cy tx base (fun r u => TP Z K N Lt_X7_joined LRt_X7_joined Ma Ra u ∧ (True))) 0 0 (fun q => base ≤ q) := by
  refine tw_ofW (L := Lt_X7_joined) (LR := LRt_X7_joined) (by decide) (Nat.le_of_ble_eq_true rfl) hTy ?_
  intro p e s m args below meth c Q ls hx hb hr hlocks hown hml hW hK hT hS hQ hl
  have hl : lv_has ls 5 [(0, .int a0), (1, .long a1), (3, .long a2)] := hl
  refine lv_iload_n hx hb dX7_joined_0 rfl (lv_at hl 0 rfl) ?_
  by_cases c1 : a0 = 2
  · subst c1
    refine lv_tableIn (off := 47) (tgt := 48) hx hb dX7_joined_1 (by decide) (by decide) rfl (by decide) ?_
    refine lv_lload_n hx hb dX7_joined_48 rfl (lv_at hl 1 rfl) ?_
    refine lv_lload_n hx hb dX7_joined_49 rfl (lv_at hl 2 rfl) ?_
    refine lv_ladd hx hb dX7_joined_50 ?_
    refine tw_topl (fun x2 => ?_)
    exact tw_endl hx hb hr hlocks hK hT hS hQ (trivial) dX7_joined_51
  have q3 : ¬ a0.toInt = 2 := ti_ne c1
  by_cases c4 : a0 = 3
  · subst c4
    refine lv_tableIn (off := 51) (tgt := 52) hx hb dX7_joined_1 (by decide) (by decide) rfl (by decide) ?_
    refine lv_lload_n hx hb dX7_joined_52 rfl (lv_at hl 1 rfl) ?_
    refine lv_lload_n hx hb dX7_joined_53 rfl (lv_at hl 2 rfl) ?_
    refine lv_lsub hx hb dX7_joined_54 ?_
    refine tw_topl (fun x5 => ?_)
    exact tw_endl hx hb hr hlocks hK hT hS hQ (trivial) dX7_joined_55
  have q6 : ¬ a0.toInt = 3 := ti_ne c4
  by_cases c7 : a0 = 4
  · subst c7
    refine lv_tableIn (off := 55) (tgt := 56) hx hb dX7_joined_1 (by decide) (by decide) rfl (by decide) ?_
    refine lv_lload_n hx hb dX7_joined_56 rfl (lv_at hl 1 rfl) ?_
    refine lv_lload_n hx hb dX7_joined_57 rfl (lv_at hl 2 rfl) ?_
    refine lv_lmul hx hb dX7_joined_58 ?_
    refine tw_topl (fun x8 => ?_)
    exact tw_endl hx hb hr hlocks hK hT hS hQ (trivial) dX7_joined_59
  have q9 : ¬ a0.toInt = 4 := ti_ne c7
  by_cases c10 : a0 = 5
  · subst c10
    refine lv_tableIn (off := 59) (tgt := 60) hx hb dX7_joined_1 (by decide) (by decide) rfl (by decide) ?_
    refine lv_lload_n hx hb dX7_joined_60 rfl (lv_at hl 2 rfl) ?_
    refine lv_lconst (v := 0) hx hb dX7_joined_61 (by decide) ?_
    refine W.lcmp hx hb dX7_joined_62 ?_
    refine lv_topi (fun x13 e12 => ?_)
    have h11 := iv_any x13
    refine lv_if_ne (tgt := 70) hx hb dX7_joined_63 (by decide) (fun c14 => ?_) (fun c14 => ?_)
    · have q15 : ¬ x13.toInt = 0 := ti_ne c14
      have n16 := md_lne e12 c14
      refine lv_lload_n hx hb dX7_joined_70 rfl (lv_at hl 1 rfl) ?_
      refine lv_lload_n hx hb dX7_joined_71 rfl (lv_at hl 2 rfl) ?_
      refine lv_ldiv hx hb dX7_joined_72 n16 ?_
      refine tw_topl (fun x17 => ?_)
      exact tw_endl hx hb hr hlocks hK hT hS hQ (trivial) dX7_joined_73
    · have q18 : x13.toInt = 0 := ti_eq c14
      have h19 : iv 0 0 x13 := ⟨by have := (h11).1; have := ((iv_c (c := 0) (n := 0) (by decide))).1; omega, by have := (h11).2; have := ((iv_c (c := 0) (n := 0) (by decide))).2; omega⟩
      refine lv_lconst (v := 0) hx hb dX7_joined_66 (by decide) ?_
      refine lv_goto (tgt := 73) hx hb dX7_joined_67 (by decide) ?_
      exact tw_endl hx hb hr hlocks hK hT hS hQ (trivial) dX7_joined_73
  have q20 : ¬ a0.toInt = 5 := ti_ne c10
  by_cases c21 : a0 = 6
  · subst c21
    refine lv_tableIn (off := 73) (tgt := 74) hx hb dX7_joined_1 (by decide) (by decide) rfl (by decide) ?_
    refine lv_lload_n hx hb dX7_joined_74 rfl (lv_at hl 1 rfl) ?_
    refine lv_lload_n hx hb dX7_joined_75 rfl (lv_at hl 2 rfl) ?_
    refine W.lcmp hx hb dX7_joined_76 ?_
    refine lv_topi (fun x24 e23 => ?_)
    have h22 := iv_any x24
    refine lv_if_ge (tgt := 84) hx hb dX7_joined_77 (by decide) (fun c25 => ?_) (fun c25 => ?_)
    · have q26 : 0 ≤ x24.toInt := ti_le c25
      have n27 := lcm_ge e23 q26
      have h28 : iv 0 2147483647 x24 := iv_geL (y := 0) h22 (iv_c (c := 0) (n := 0) (by decide)) q26 (by decide)
      refine lv_lconst (v := 0) hx hb dX7_joined_84 (by decide) ?_
      exact tw_endl hx hb hr hlocks hK hT hS hQ (trivial) dX7_joined_85
    · have q29 : x24.toInt < 0 := ti_nle c25
      have n30 := lcm_lt e23 q29
      have h31 : iv (-2147483648) (-1) x24 := iv_ltL (y := 0) h22 (iv_c (c := 0) (n := 0) (by decide)) q29 (by decide)
      refine lv_lconst (v := 1) hx hb dX7_joined_80 (by decide) ?_
      refine lv_goto (tgt := 85) hx hb dX7_joined_81 (by decide) ?_
      exact tw_endl hx hb hr hlocks hK hT hS hQ (trivial) dX7_joined_85
  have q32 : ¬ a0.toInt = 6 := ti_ne c21
  by_cases c33 : a0 = 7
  · subst c33
    refine lv_tableIn (off := 85) (tgt := 86) hx hb dX7_joined_1 (by decide) (by decide) rfl (by decide) ?_
    refine lv_lload_n hx hb dX7_joined_86 rfl (lv_at hl 1 rfl) ?_
    refine lv_lload_n hx hb dX7_joined_87 rfl (lv_at hl 2 rfl) ?_
    refine W.lcmp hx hb dX7_joined_88 ?_
    refine lv_topi (fun x36 e35 => ?_)
    have h34 := iv_any x36
    refine lv_if_gt (tgt := 96) hx hb dX7_joined_89 (by decide) (fun c37 => ?_) (fun c37 => ?_)
    · have q38 : 0 < x36.toInt := ti_lt c37
      have n39 := lcm_gt e35 q38
      have h40 : iv 1 2147483647 x36 := iv_gtL (y := 0) h34 (iv_c (c := 0) (n := 0) (by decide)) q38 (by decide)
      refine lv_lconst (v := 0) hx hb dX7_joined_96 (by decide) ?_
      exact tw_endl hx hb hr hlocks hK hT hS hQ (trivial) dX7_joined_97
    · have q41 : x36.toInt ≤ 0 := ti_nlt c37
      have n42 := lcm_le e35 q41
      have h43 : iv (-2147483648) 0 x36 := iv_leL (y := 0) h34 (iv_c (c := 0) (n := 0) (by decide)) q41 (by decide)
      refine lv_lconst (v := 1) hx hb dX7_joined_92 (by decide) ?_
      refine lv_goto (tgt := 97) hx hb dX7_joined_93 (by decide) ?_
      exact tw_endl hx hb hr hlocks hK hT hS hQ (trivial) dX7_joined_97
  have q44 : ¬ a0.toInt = 7 := ti_ne c33
  by_cases c45 : a0 = 8
  · subst c45
    refine lv_tableIn (off := 97) (tgt := 98) hx hb dX7_joined_1 (by decide) (by decide) rfl (by decide) ?_
    refine lv_lload_n hx hb dX7_joined_98 rfl (lv_at hl 1 rfl) ?_
    refine lv_lload_n hx hb dX7_joined_99 rfl (lv_at hl 2 rfl) ?_
    refine W.lcmp hx hb dX7_joined_100 ?_
    refine lv_topi (fun x48 e47 => ?_)
    have h46 := iv_any x48
    refine lv_if_ne (tgt := 108) hx hb dX7_joined_101 (by decide) (fun c49 => ?_) (fun c49 => ?_)
    · have q50 : ¬ x48.toInt = 0 := ti_ne c49
      have n51 := md_lne e47 c49
      refine lv_lconst (v := 0) hx hb dX7_joined_108 (by decide) ?_
      exact tw_endl hx hb hr hlocks hK hT hS hQ (trivial) dX7_joined_109
    · have q52 : x48.toInt = 0 := ti_eq c49
      have h53 : iv 0 0 x48 := ⟨by have := (h46).1; have := ((iv_c (c := 0) (n := 0) (by decide))).1; omega, by have := (h46).2; have := ((iv_c (c := 0) (n := 0) (by decide))).2; omega⟩
      refine lv_lconst (v := 1) hx hb dX7_joined_104 (by decide) ?_
      refine lv_goto (tgt := 109) hx hb dX7_joined_105 (by decide) ?_
      exact tw_endl hx hb hr hlocks hK hT hS hQ (trivial) dX7_joined_109
  have q54 : ¬ a0.toInt = 8 := ti_ne c45
  by_cases c55 : a0 = 9
  · subst c55
    refine lv_tableIn (off := 109) (tgt := 110) hx hb dX7_joined_1 (by decide) (by decide) rfl (by decide) ?_
    refine lv_lload_n hx hb dX7_joined_110 rfl (lv_at hl 1 rfl) ?_
    refine lv_lload_n hx hb dX7_joined_111 rfl (lv_at hl 2 rfl) ?_
    refine W.lcmp hx hb dX7_joined_112 ?_
    refine lv_topi (fun x58 e57 => ?_)
    have h56 := iv_any x58
    refine lv_if_lt (tgt := 120) hx hb dX7_joined_113 (by decide) (fun c59 => ?_) (fun c59 => ?_)
    · have q60 : x58.toInt < 0 := ti_lt c59
      have n61 := lcm_lt e57 q60
      have h62 : iv (-2147483648) (-1) x58 := iv_ltL (y := 0) h56 (iv_c (c := 0) (n := 0) (by decide)) q60 (by decide)
      refine lv_lconst (v := 0) hx hb dX7_joined_120 (by decide) ?_
      exact tw_endl hx hb hr hlocks hK hT hS hQ (trivial) dX7_joined_121
    · have q63 : 0 ≤ x58.toInt := ti_nlt c59
      have n64 := lcm_ge e57 q63
      have h65 : iv 0 2147483647 x58 := iv_geL (y := 0) h56 (iv_c (c := 0) (n := 0) (by decide)) q63 (by decide)
      refine lv_lconst (v := 1) hx hb dX7_joined_116 (by decide) ?_
      refine lv_goto (tgt := 121) hx hb dX7_joined_117 (by decide) ?_
      exact tw_endl hx hb hr hlocks hK hT hS hQ (trivial) dX7_joined_121
  have q66 : ¬ a0.toInt = 9 := ti_ne c55
  refine lv_tableOut (tgt := 122) hx hb dX7_joined_1 (by have := (h_a0).1; have := (h_a0).2; omega) (by decide) ?_
  have h67 : iv 10 10 a0 := ⟨by have := (h_a0).1; omega, (h_a0).2⟩
  refine lv_lload_n hx hb dX7_joined_122 rfl (lv_at hl 1 rfl) ?_
  refine lv_lload_n hx hb dX7_joined_123 rfl (lv_at hl 2 rfl) ?_
  refine W.lcmp hx hb dX7_joined_124 ?_
  refine lv_topi (fun x70 e69 => ?_)
  have h68 := iv_any x70
  refine lv_if_le (tgt := 132) hx hb dX7_joined_125 (by decide) (fun c71 => ?_) (fun c71 => ?_)
  · have q72 : x70.toInt ≤ 0 := ti_le c71
    have n73 := lcm_le e69 q72
    have h74 : iv (-2147483648) 0 x70 := iv_leL (y := 0) h68 (iv_c (c := 0) (n := 0) (by decide)) q72 (by decide)
    refine lv_lconst (v := 0) hx hb dX7_joined_132 (by decide) ?_
    exact tw_endl hx hb hr hlocks hK hT hS hQ (trivial) dX7_joined_133
  · have q75 : 0 < x70.toInt := ti_nle c71
    have n76 := lcm_gt e69 q75
    have h77 : iv 1 2147483647 x70 := iv_gtL (y := 0) h68 (iv_c (c := 0) (n := 0) (by decide)) q75 (by decide)
    refine lv_lconst (v := 1) hx hb dX7_joined_128 (by decide) ?_
    refine lv_goto (tgt := 133) hx hb dX7_joined_129 (by decide) ?_
    exact tw_endl hx hb hr hlocks hK hT hS hQ (trivial) dX7_joined_133
def Lt_X7_sayingOf : WL := [(6, 8, 12)]
def LRt_X7_sayingOf : WL := []
set_option maxRecDepth 100000 in
set_option maxHeartbeats 4000000 in
theorem t_X7_sayingOf (l : Launch) (D : va_G) (cy : Nat → ClassId) (tx : (Nat → Nat) × (Nat → Nat)) (base Z : Nat) (K N : Nat → Nat) (Ma : MT) (Ra : RT) (Ja : JT) (hTy : Ty Z K N Ma Ra) (a0 : Nat) (hz_a0 : a0 < Z) (hk_a0 : K a0 = 8) (a1 : Int32) (h_a1 : iv 0 9 a1) (a2 : Nat) (hz_a2 : a2 < Z) (hk_a2 : K a2 = 6) (row_a2 : RowOK N Ma Ra a2) : Met l yX7_sayingOf [Cond.code yX7_sayingOf cX7_sayingOf 9 (some .int)] (md_rm 3 0 0) (va_Pc [.ref (base + a0), .int a1, .ref (base + a2)] (md_U D cy tx base Z K N Ma Ra Ja)) (mQi D cy tx base (fun r u => TP Z K N Lt_X7_sayingOf LRt_X7_sayingOf Ma Ra u ∧ (iv (-134217728) 134217727 r))) 0 0 (fun q => base ≤ q) := by
  refine tw_ofW (L := Lt_X7_sayingOf) (LR := LRt_X7_sayingOf) (by decide) (Nat.le_of_ble_eq_true rfl) hTy ?_
  intro p e s m args below meth c Q ls hx hb hr hlocks hown hml hW hK hT hS hQ hl
  have hl : lv_has ls 9 [(0, .ref (base + a0)), (1, .int a1), (2, .ref (base + a2))] := hl
  refine lv_iconst (v := (-1)) hx hb dX7_sayingOf_0 (by decide) ?_
  refine lv_istore_n (lv' := [(3, .int (-1)), (0, .ref (base + a0)), (1, .int a1), (2, .ref (base + a2))]) hx hb dX7_sayingOf_1 rfl hl (by decide) rfl (fun ls hl => ?_)
  refine lv_iconst (v := 0) hx hb dX7_sayingOf_2 (by decide) ?_
  refine lv_istore (lv' := [(4, .int 0), (3, .int (-1)), (0, .ref (base + a0)), (1, .int a1), (2, .ref (base + a2))]) hx hb dX7_sayingOf_3 hl (by decide) rfl (fun ls hl => ?_)
  have W5_3 : ∀ (n_3 : Nat) (x1 : Int32) (x2 : Int32) (M3 : MT) (R4 : RT) (J5 : JT) (H : Heap) (locs : List Loc) (ls : Array Slot) (h_x1 : iv (-2147483648) 2147483647 x1) (h_x2 : iv 0 134217727 x2) (hm_3 : 134217727 - x2.toInt < (n_3 : Int)) (hS : SB D cy base Z K N Lt_X7_sayingOf LRt_X7_sayingOf Ma Ra M3 R4 J5 s H locs) (hl : lv_has ls 9 [(3, .int x1), (4, .int x2), (0, .ref (base + a0)), (1, .int a1), (2, .ref (base + a2))]), W p l e (md_rm 3 0 0) s m args below meth c H locs 0 0 Q (F0 m 5 ls []) := by
    intro n_3
    induction n_3 with
    | zero =>
      intro x1 x2 M3 R4 J5 H locs ls h_x1 h_x2 hm_3 hS hl
      exfalso
      have := (h_a1).1; have := (h_a1).2; have := (h_x2).1; have := (h_x2).2; omega
    | succ n_3 ih_3 =>
      intro x1 x2 M3 R4 J5 H locs ls h_x1 h_x2 hm_3 hS hl
      have f6 := hS.2.2.1
      have g7 := hS.2.2.2
      refine lv_iload hx hb dX7_sayingOf_5 (lv_at hl 1 rfl) ?_
      refine lv_aload_n hx hb dX7_sayingOf_7 rfl (lv_at hl 2 rfl) ?_
      refine tw_getr hx hb hW hown hK hS f_X7_30_7 hz_a0 hk_a0 (t := 14) (n := 0) rfl dX7_sayingOf_8 (fun b8 k9 hz_b8 hk_b8 hn_b8 => ?_)
      refine tw_alen hx hb hK hS hz_b8 hk_b8 (by decide) dX7_sayingOf_11 (fun x12 e11 h10 => ?_)
      refine lv_icmp_ge (tgt := 251) hx hb dX7_sayingOf_12 (by decide) (fun c13 => ?_) (fun c13 => ?_)
      · have q14 : x12.toInt ≤ x2.toInt := ti_le c13
        refine lv_iconst (v := (-1)) hx hb dX7_sayingOf_251 (by decide) ?_
        exact tw_endi hx hb hr hlocks hK hT hS hQ ((iv_mono (iv_c (c := (-1)) (n := (-1)) (by decide)) (by decide) (by decide))) dX7_sayingOf_252
      · have q15 : x2.toInt < x12.toInt := ti_nle c13
        have h16 : iv 0 1048575 x2 := iv_ltL (y := x12) h_x2 h10 q15 (by decide)
        have h17 : iv 1 1048576 x12 := iv_gtL (y := x2) h10 h_x2 q15 (by decide)
        refine lv_aload_n hx hb dX7_sayingOf_15 rfl (lv_at hl 2 rfl) ?_
        refine tw_getrk hx hb hW hown hK hS f_X7_30_7 hz_a0 hk_a0 (b := b8) k9 dX7_sayingOf_16 ?_
        refine lv_iload hx hb dX7_sayingOf_19 (lv_at hl 1 rfl) ?_
        refine tw_ialn hx hb hK hS hz_b8 hk_b8 (Or.inl rfl) (by have := (h_a1).1; have := (h_a1).2; have := (h16).1; have := (h16).2; omega) (by have := (h_a1).1; have := (h_a1).2; have := (h16).1; have := (h16).2; omega) (lo := (-2147483648)) (hi := 2147483647) rg_u14 dX7_sayingOf_21 (fun x20 k19 h18 => ?_)
        refine lv_bipush (v := 15) hx hb dX7_sayingOf_22 (by decide) ?_
        refine tw_iand (hi := 15) hx hb (iv_mono (iv_c (c := 15) (n := 15) (by decide)) (lo := 0) (hi := 15) (by decide) (by decide)) (by decide) dX7_sayingOf_24 (fun x23 h21 => ?_)
        refine lv_istore (lv' := [(5, .int x23), (3, .int x1), (4, .int x2), (0, .ref (base + a0)), (1, .int a1), (2, .ref (base + a2))]) hx hb dX7_sayingOf_25 hl (by decide) rfl (fun ls hl => ?_)
        refine lv_aload_n hx hb dX7_sayingOf_27 rfl (lv_at hl 3 rfl) ?_
        refine tw_getrk hx hb hW hown hK hS f_X7_30_7 hz_a0 hk_a0 (b := b8) k9 dX7_sayingOf_28 ?_
        refine lv_iload hx hb dX7_sayingOf_31 (lv_at hl 2 rfl) ?_
        refine tw_ialn hx hb hK hS hz_b8 hk_b8 (Or.inl rfl) (by have := (h_a1).1; have := (h_a1).2; have := (h16).1; have := (h16).2; omega) (by have := (h_a1).1; have := (h_a1).2; have := (h16).1; have := (h16).2; omega) (lo := (-2147483648)) (hi := 2147483647) rg_u14 dX7_sayingOf_33 (fun x26 k25 h24 => ?_)
        refine lv_iconst (v := 4) hx hb dX7_sayingOf_34 (by decide) ?_
        refine lv_ishr hx hb dX7_sayingOf_35 ?_
        refine tw_ti (iv_shr4 _) (fun x28 h27 => ?_)
        refine lv_istore (lv' := [(6, .int x28), (5, .int x23), (3, .int x1), (4, .int x2), (0, .ref (base + a0)), (1, .int a1), (2, .ref (base + a2))]) hx hb dX7_sayingOf_36 hl (by decide) rfl (fun ls hl => ?_)
        refine lv_iload hx hb dX7_sayingOf_38 (lv_at hl 1 rfl) ?_
        refine lv_bipush (v := 15) hx hb dX7_sayingOf_40 (by decide) ?_
        refine lv_icmp_ne (tgt := 48) hx hb dX7_sayingOf_42 (by decide) (fun c29 => ?_) (fun c29 => ?_)
        · have q30 : ¬ x23.toInt = 15 := ti_ne c29
          have h31 : iv 0 14 x23 := ⟨by have := (h21).1; have := ((iv_c (c := 15) (n := 15) (by decide))).1; have := ((iv_c (c := 15) (n := 15) (by decide))).2; omega, by have := (h21).2; have := ((iv_c (c := 15) (n := 15) (by decide))).1; have := ((iv_c (c := 15) (n := 15) (by decide))).2; omega⟩
          refine lv_iload hx hb dX7_sayingOf_48 (lv_at hl 1 rfl) ?_
          refine lv_iconst (v := 1) hx hb dX7_sayingOf_50 (by decide) ?_
          refine lv_icmp_gt (tgt := 88) hx hb dX7_sayingOf_51 (by decide) (fun c32 => ?_) (fun c32 => ?_)
          · have q33 : 1 < x23.toInt := ti_lt c32
            have h34 : iv 2 14 x23 := iv_gtL (y := 1) h31 (iv_c (c := 1) (n := 1) (by decide)) q33 (by decide)
            refine lv_iload hx hb dX7_sayingOf_88 (lv_at hl 1 rfl) ?_
            refine lv_bipush (v := 10) hx hb dX7_sayingOf_90 (by decide) ?_
            refine lv_icmp_gt (tgt := 139) hx hb dX7_sayingOf_92 (by decide) (fun c35 => ?_) (fun c35 => ?_)
            · have q36 : 10 < x23.toInt := ti_lt c35
              have h37 : iv 11 14 x23 := iv_gtL (y := 10) h34 (iv_c (c := 10) (n := 10) (by decide)) q36 (by decide)
              refine lv_iload hx hb dX7_sayingOf_139 (lv_at hl 1 rfl) ?_
              refine lv_bipush (v := 11) hx hb dX7_sayingOf_141 (by decide) ?_
              refine lv_icmp_ne (tgt := 169) hx hb dX7_sayingOf_143 (by decide) (fun c38 => ?_) (fun c38 => ?_)
              · have q39 : ¬ x23.toInt = 11 := ti_ne c38
                have h40 : iv 12 14 x23 := ⟨by have := (h37).1; have := ((iv_c (c := 11) (n := 11) (by decide))).1; have := ((iv_c (c := 11) (n := 11) (by decide))).2; omega, by have := (h37).2; have := ((iv_c (c := 11) (n := 11) (by decide))).1; have := ((iv_c (c := 11) (n := 11) (by decide))).2; omega⟩
                refine lv_aload_n hx hb dX7_sayingOf_169 rfl (lv_at hl 4 rfl) ?_
                refine tw_getr hx hb hW hown hK hS f_X7_11_7 hz_a0 hk_a0 (t := 15) (n := 8) rfl dX7_sayingOf_170 (fun b41 k42 hz_b41 hk_b41 hn_b41 => ?_)
                have hn_b41 := hn_b41 (by decide)
                refine lv_iload_n hx hb dX7_sayingOf_173 rfl (lv_at hl 2 rfl) ?_
                refine lv_bipush (v := 7) hx hb dX7_sayingOf_174 (by decide) ?_
                refine tw_iand (hi := 7) hx hb (iv_mono (iv_c (c := 7) (n := 7) (by decide)) (lo := 0) (hi := 7) (by decide) (by decide)) (by decide) dX7_sayingOf_176 (fun x45 h43 => ?_)
                refine tw_lald hx hb hK hS hz_b41 hk_b41 hn_b41 h43 ⟨by decide, by decide⟩ dX7_sayingOf_177 (fun x46 => ?_)
                refine lv_lconst (v := 0) hx hb dX7_sayingOf_178 (by decide) ?_
                refine W.lcmp hx hb dX7_sayingOf_179 ?_
                refine lv_topi (fun x49 e48 => ?_)
                have h47 := iv_any x49
                refine lv_if_eq (tgt := 187) hx hb dX7_sayingOf_180 (by decide) (fun c50 => ?_) (fun c50 => ?_)
                · have q51 : x49.toInt = 0 := ti_eq c50
                  have h52 : iv 0 0 x49 := ⟨by have := (h47).1; have := ((iv_c (c := 0) (n := 0) (by decide))).1; omega, by have := (h47).2; have := ((iv_c (c := 0) (n := 0) (by decide))).2; omega⟩
                  refine lv_iconst (v := 0) hx hb dX7_sayingOf_187 (by decide) ?_
                  refine lv_istore (lv' := [(7, .int 0), (6, .int x28), (5, .int x23), (3, .int x1), (4, .int x2), (0, .ref (base + a0)), (1, .int a1), (2, .ref (base + a2))]) hx hb dX7_sayingOf_188 hl (by decide) rfl (fun ls hl => ?_)
                  refine lv_iload hx hb dX7_sayingOf_190 (lv_at hl 0 rfl) ?_
                  refine lv_iload hx hb dX7_sayingOf_192 (lv_at hl 2 rfl) ?_
                  refine lv_bipush (v := 13) hx hb dX7_sayingOf_194 (by decide) ?_
                  refine lv_icmp_ne (tgt := 203) hx hb dX7_sayingOf_196 (by decide) (fun c53 => ?_) (fun c53 => ?_)
                  · have q54 : ¬ x23.toInt = 13 := ti_ne c53
                    refine lv_iconst (v := 0) hx hb dX7_sayingOf_203 (by decide) ?_
                    refine lv_icmp_ne (tgt := 211) hx hb dX7_sayingOf_204 (by decide) (fun h => absurd h (by decide)) (fun _ => ?_)
                    refine lv_iconst (v := 1) hx hb dX7_sayingOf_207 (by decide) ?_
                    refine lv_goto (tgt := 212) hx hb dX7_sayingOf_208 (by decide) ?_
                    refine lv_istore (lv' := [(8, .int 1), (7, .int 0), (6, .int x28), (5, .int x23), (3, .int x1), (4, .int x2), (0, .ref (base + a0)), (1, .int a1), (2, .ref (base + a2))]) hx hb dX7_sayingOf_212 hl (by decide) rfl (fun ls hl => ?_)
                    refine lv_iload hx hb dX7_sayingOf_214 (lv_at hl 0 rfl) ?_
                    have J230_56 : ∀ (x55 : Int32) (M56 : MT) (R57 : RT) (J58 : JT) (H : Heap) (locs : List Loc) (ls : Array Slot) (h_x55 : iv 0 134217726 x55) (w0_56 : x2.toInt ≤ x55.toInt) (hS : SB D cy base Z K N Lt_X7_sayingOf LRt_X7_sayingOf Ma Ra M56 R57 J58 s H locs) (hl : lv_has ls 9 [(4, .int x55), (8, .int 1), (7, .int 0), (6, .int x28), (5, .int x23), (3, .int x1), (0, .ref (base + a0)), (1, .int a1), (2, .ref (base + a2))]), W p l e (md_rm 3 0 0) s m args below meth c H locs 0 0 Q (F0 m 230 ls []) := by
                      intro x55 M56 R57 J58 H locs ls h_x55 w0_56 hS hl
                      have f59 := hS.2.2.1
                      have g60 := hS.2.2.2
                      refine lv_iload hx hb dX7_sayingOf_230 (lv_at hl 1 rfl) ?_
                      refine lv_if_eq (tgt := 242) hx hb dX7_sayingOf_232 (by decide) (fun h => absurd h (by decide)) (fun _ => ?_)
                      refine lv_iload hx hb dX7_sayingOf_235 (lv_at hl 4 rfl) ?_
                      refine lv_bipush (v := 14) hx hb dX7_sayingOf_237 (by decide) ?_
                      refine lv_icmp_ne (tgt := 245) hx hb dX7_sayingOf_239 (by decide) (fun c61 => ?_) (fun c61 => ?_)
                      · have q62 : ¬ x23.toInt = 14 := ti_ne c61
                        have h63 : iv 12 13 x23 := ⟨by have := (h40).1; have := ((iv_c (c := 14) (n := 14) (by decide))).1; have := ((iv_c (c := 14) (n := 14) (by decide))).2; omega, by have := (h40).2; have := ((iv_c (c := 14) (n := 14) (by decide))).1; have := ((iv_c (c := 14) (n := 14) (by decide))).2; omega⟩
                        refine tw_iinc (lv' := fun x66 => [(4, .int x66), (8, .int 1), (7, .int 0), (6, .int x28), (5, .int x23), (3, .int x1), (0, .ref (base + a0)), (1, .int a1), (2, .ref (base + a2))]) (lo := 1) (hi := 134217727) hx hb dX7_sayingOf_245 hl (k := 0) rfl h_x55 (by decide) ⟨by decide, by decide⟩ ⟨by decide, by decide⟩ (by decide) (fun _ => rfl) (fun x66 ls e65 h64 hl => ?_)
                        refine lv_goto (tgt := 5) hx hb dX7_sayingOf_248 (by decide) ?_
                        have hm67 : 134217727 - x66.toInt < (n_3 : Int) := by
                          have := (h_a1).1; have := (h_a1).2; have := (h16).1; have := (h16).2; have := (h_x55).1; have := (h_x55).2; have := (h64).1; have := (h64).2; omega
                        exact ih_3 x1 x66 M56 R57 J58 H locs _ h_x1 (iv_mono h64 (by decide) (by decide)) hm67 hS (lv_sub hl [5, 0, 6, 7, 8] rfl)
                      · have q68 : x23.toInt = 14 := ti_eq c61
                        have h69 : iv 14 14 x23 := ⟨by have := (h40).1; have := ((iv_c (c := 14) (n := 14) (by decide))).1; omega, by have := (h40).2; have := ((iv_c (c := 14) (n := 14) (by decide))).2; omega⟩
                        refine tw_iincw (lv' := fun x71 => [(3, .int x71), (4, .int x55), (8, .int 1), (7, .int 0), (6, .int x28), (5, .int x23), (0, .ref (base + a0)), (1, .int a1), (2, .ref (base + a2))]) hx hb dX7_sayingOf_242 hl (k := 5) rfl (by decide) (fun _ => rfl) (fun x71 ls hl => ?_)
                        have h70 := iv_any x71
                        refine tw_iinc (lv' := fun x74 => [(4, .int x74), (3, .int x71), (8, .int 1), (7, .int 0), (6, .int x28), (5, .int x23), (0, .ref (base + a0)), (1, .int a1), (2, .ref (base + a2))]) (lo := 1) (hi := 134217727) hx hb dX7_sayingOf_245 hl (k := 1) rfl h_x55 (by decide) ⟨by decide, by decide⟩ ⟨by decide, by decide⟩ (by decide) (fun _ => rfl) (fun x74 ls e73 h72 hl => ?_)
                        refine lv_goto (tgt := 5) hx hb dX7_sayingOf_248 (by decide) ?_
                        have hm75 : 134217727 - x74.toInt < (n_3 : Int) := by
                          have := (h_a1).1; have := (h_a1).2; have := (h16).1; have := (h16).2; have := (h_x55).1; have := (h_x55).2; have := (h72).1; have := (h72).2; omega
                        exact ih_3 x71 x74 M56 R57 J58 H locs _ h70 (iv_mono h72 (by decide) (by decide)) hm75 hS (lv_sub hl [1, 0, 6, 7, 8] rfl)
                    refine lv_if_eq (tgt := 230) hx hb dX7_sayingOf_216 (by decide) (fun h => absurd h (by decide)) (fun _ => ?_)
                    refine lv_iload hx hb dX7_sayingOf_219 (lv_at hl 5 rfl) ?_
                    refine lv_iload hx hb dX7_sayingOf_221 (lv_at hl 2 rfl) ?_
                    refine lv_iconst (v := 1) hx hb dX7_sayingOf_223 (by decide) ?_
                    refine tw_isub (lo := (-134217729)) (hi := 134217726) hx hb h27 (iv_c (c := 1) (n := 1) (by decide)) ⟨by decide, by decide⟩ ⟨by decide, by decide⟩ dX7_sayingOf_224 (fun x78 e77 h76 => ?_)
                    have e77 : x78.toInt = x28.toInt - 1 := e77
                    refine va_mmax hx hb (hml.trans hl.1.symm) hown (hW _ w_4_74 rfl) (hW _ w_4_75 rfl) (hW _ w_1_13 rfl) (hW _ w_4_76 rfl) (Nat.le_of_ble_eq_true rfl) (Nat.le_of_ble_eq_true rfl) (Nat.le_of_ble_eq_true rfl) (Nat.le_of_ble_eq_true rfl) dX7_sayingOf_225 ?_
                    refine tw_mmax (lo := 0) (hi := 134217726) h16 h76 (by decide) (fun x81 e80 h79 => ?_)
                    refine lv_istore (lv' := [(4, .int x81), (8, .int 1), (7, .int 0), (6, .int x28), (5, .int x23), (3, .int x1), (0, .ref (base + a0)), (1, .int a1), (2, .ref (base + a2))]) hx hb dX7_sayingOf_228 hl (by decide) rfl (fun ls hl => ?_)
                    have w82 : x2.toInt ≤ x81.toInt := by
                      have := (h_a1).1; have := (h_a1).2; have := (h16).1; have := (h16).2; have := (h27).1; have := (h27).2; have := (h76).1; have := (h76).2; have := (h79).1; have := (h79).2; omega
                    exact J230_56 x81 M3 R4 J5 H locs _ h79 w82 hS hl
                  · have q83 : x23.toInt = 13 := ti_eq c53
                    have h84 : iv 13 13 x23 := ⟨by have := (h40).1; have := ((iv_c (c := 13) (n := 13) (by decide))).1; omega, by have := (h40).2; have := ((iv_c (c := 13) (n := 13) (by decide))).2; omega⟩
                    refine lv_iconst (v := 1) hx hb dX7_sayingOf_199 (by decide) ?_
                    refine lv_goto (tgt := 204) hx hb dX7_sayingOf_200 (by decide) ?_
                    refine lv_icmp_ne (tgt := 211) hx hb dX7_sayingOf_204 (by decide) (fun _ => ?_) (fun h => absurd h (by decide))
                    refine lv_iconst (v := 0) hx hb dX7_sayingOf_211 (by decide) ?_
                    refine lv_istore (lv' := [(8, .int 0), (7, .int 0), (6, .int x28), (5, .int x23), (3, .int x1), (4, .int x2), (0, .ref (base + a0)), (1, .int a1), (2, .ref (base + a2))]) hx hb dX7_sayingOf_212 hl (by decide) rfl (fun ls hl => ?_)
                    refine lv_iload hx hb dX7_sayingOf_214 (lv_at hl 0 rfl) ?_
                    have J230_86 : ∀ (x85 : Int32) (M86 : MT) (R87 : RT) (J88 : JT) (H : Heap) (locs : List Loc) (ls : Array Slot) (h_x85 : iv 0 134217726 x85) (w0_86 : x2.toInt ≤ x85.toInt) (hS : SB D cy base Z K N Lt_X7_sayingOf LRt_X7_sayingOf Ma Ra M86 R87 J88 s H locs) (hl : lv_has ls 9 [(4, .int x85), (8, .int 0), (7, .int 0), (6, .int x28), (5, .int x23), (3, .int x1), (0, .ref (base + a0)), (1, .int a1), (2, .ref (base + a2))]), W p l e (md_rm 3 0 0) s m args below meth c H locs 0 0 Q (F0 m 230 ls []) := by
                      intro x85 M86 R87 J88 H locs ls h_x85 w0_86 hS hl
                      have f89 := hS.2.2.1
                      have g90 := hS.2.2.2
                      refine lv_iload hx hb dX7_sayingOf_230 (lv_at hl 1 rfl) ?_
                      refine lv_if_eq (tgt := 242) hx hb dX7_sayingOf_232 (by decide) (fun _ => ?_) (fun h => absurd h (by decide))
                      refine tw_iincw (lv' := fun x92 => [(3, .int x92), (4, .int x85), (8, .int 0), (7, .int 0), (6, .int x28), (5, .int x23), (0, .ref (base + a0)), (1, .int a1), (2, .ref (base + a2))]) hx hb dX7_sayingOf_242 hl (k := 5) rfl (by decide) (fun _ => rfl) (fun x92 ls hl => ?_)
                      have h91 := iv_any x92
                      refine tw_iinc (lv' := fun x95 => [(4, .int x95), (3, .int x92), (8, .int 0), (7, .int 0), (6, .int x28), (5, .int x23), (0, .ref (base + a0)), (1, .int a1), (2, .ref (base + a2))]) (lo := 1) (hi := 134217727) hx hb dX7_sayingOf_245 hl (k := 1) rfl h_x85 (by decide) ⟨by decide, by decide⟩ ⟨by decide, by decide⟩ (by decide) (fun _ => rfl) (fun x95 ls e94 h93 hl => ?_)
                      refine lv_goto (tgt := 5) hx hb dX7_sayingOf_248 (by decide) ?_
                      have hm96 : 134217727 - x95.toInt < (n_3 : Int) := by
                        have := (h_a1).1; have := (h_a1).2; have := (h16).1; have := (h16).2; have := (h_x85).1; have := (h_x85).2; have := (h93).1; have := (h93).2; omega
                      exact ih_3 x92 x95 M86 R87 J88 H locs _ h91 (iv_mono h93 (by decide) (by decide)) hm96 hS (lv_sub hl [1, 0, 6, 7, 8] rfl)
                    refine lv_if_eq (tgt := 230) hx hb dX7_sayingOf_216 (by decide) (fun _ => ?_) (fun h => absurd h (by decide))
                    have w97 : x2.toInt ≤ x2.toInt := by
                      have := (h_a1).1; have := (h_a1).2; have := (h16).1; have := (h16).2; omega
                    exact J230_86 x2 M3 R4 J5 H locs _ (iv_mono h16 (by decide) (by decide)) w97 hS (lv_sub hl [5, 0, 1, 2, 3, 4, 6, 7, 8] rfl)
                · have q98 : ¬ x49.toInt = 0 := ti_ne c50
                  have n99 := md_lne e48 c50
                  refine lv_iconst (v := 1) hx hb dX7_sayingOf_183 (by decide) ?_
                  refine lv_goto (tgt := 188) hx hb dX7_sayingOf_184 (by decide) ?_
                  refine lv_istore (lv' := [(7, .int 1), (6, .int x28), (5, .int x23), (3, .int x1), (4, .int x2), (0, .ref (base + a0)), (1, .int a1), (2, .ref (base + a2))]) hx hb dX7_sayingOf_188 hl (by decide) rfl (fun ls hl => ?_)
                  refine lv_iload hx hb dX7_sayingOf_190 (lv_at hl 0 rfl) ?_
                  refine lv_iload hx hb dX7_sayingOf_192 (lv_at hl 2 rfl) ?_
                  refine lv_bipush (v := 13) hx hb dX7_sayingOf_194 (by decide) ?_
                  refine lv_icmp_ne (tgt := 203) hx hb dX7_sayingOf_196 (by decide) (fun c100 => ?_) (fun c100 => ?_)
                  · have q101 : ¬ x23.toInt = 13 := ti_ne c100
                    refine lv_iconst (v := 0) hx hb dX7_sayingOf_203 (by decide) ?_
                    refine lv_icmp_ne (tgt := 211) hx hb dX7_sayingOf_204 (by decide) (fun _ => ?_) (fun h => absurd h (by decide))
                    refine lv_iconst (v := 0) hx hb dX7_sayingOf_211 (by decide) ?_
                    refine lv_istore (lv' := [(8, .int 0), (7, .int 1), (6, .int x28), (5, .int x23), (3, .int x1), (4, .int x2), (0, .ref (base + a0)), (1, .int a1), (2, .ref (base + a2))]) hx hb dX7_sayingOf_212 hl (by decide) rfl (fun ls hl => ?_)
                    refine lv_iload hx hb dX7_sayingOf_214 (lv_at hl 0 rfl) ?_
                    have J230_103 : ∀ (x102 : Int32) (M103 : MT) (R104 : RT) (J105 : JT) (H : Heap) (locs : List Loc) (ls : Array Slot) (h_x102 : iv 0 134217726 x102) (w0_103 : x2.toInt ≤ x102.toInt) (hS : SB D cy base Z K N Lt_X7_sayingOf LRt_X7_sayingOf Ma Ra M103 R104 J105 s H locs) (hl : lv_has ls 9 [(4, .int x102), (8, .int 0), (7, .int 1), (6, .int x28), (5, .int x23), (3, .int x1), (0, .ref (base + a0)), (1, .int a1), (2, .ref (base + a2))]), W p l e (md_rm 3 0 0) s m args below meth c H locs 0 0 Q (F0 m 230 ls []) := by
                      intro x102 M103 R104 J105 H locs ls h_x102 w0_103 hS hl
                      have f106 := hS.2.2.1
                      have g107 := hS.2.2.2
                      refine lv_iload hx hb dX7_sayingOf_230 (lv_at hl 1 rfl) ?_
                      refine lv_if_eq (tgt := 242) hx hb dX7_sayingOf_232 (by decide) (fun _ => ?_) (fun h => absurd h (by decide))
                      refine tw_iincw (lv' := fun x109 => [(3, .int x109), (4, .int x102), (8, .int 0), (7, .int 1), (6, .int x28), (5, .int x23), (0, .ref (base + a0)), (1, .int a1), (2, .ref (base + a2))]) hx hb dX7_sayingOf_242 hl (k := 5) rfl (by decide) (fun _ => rfl) (fun x109 ls hl => ?_)
                      have h108 := iv_any x109
                      refine tw_iinc (lv' := fun x112 => [(4, .int x112), (3, .int x109), (8, .int 0), (7, .int 1), (6, .int x28), (5, .int x23), (0, .ref (base + a0)), (1, .int a1), (2, .ref (base + a2))]) (lo := 1) (hi := 134217727) hx hb dX7_sayingOf_245 hl (k := 1) rfl h_x102 (by decide) ⟨by decide, by decide⟩ ⟨by decide, by decide⟩ (by decide) (fun _ => rfl) (fun x112 ls e111 h110 hl => ?_)
                      refine lv_goto (tgt := 5) hx hb dX7_sayingOf_248 (by decide) ?_
                      have hm113 : 134217727 - x112.toInt < (n_3 : Int) := by
                        have := (h_a1).1; have := (h_a1).2; have := (h_x102).1; have := (h_x102).2; have := (h110).1; have := (h110).2; have := (h16).1; have := (h16).2; omega
                      exact ih_3 x109 x112 M103 R104 J105 H locs _ h108 (iv_mono h110 (by decide) (by decide)) hm113 hS (lv_sub hl [1, 0, 6, 7, 8] rfl)
                    refine lv_if_eq (tgt := 230) hx hb dX7_sayingOf_216 (by decide) (fun _ => ?_) (fun h => absurd h (by decide))
                    have w114 : x2.toInt ≤ x2.toInt := by
                      have := (h_a1).1; have := (h_a1).2; have := (h16).1; have := (h16).2; omega
                    exact J230_103 x2 M3 R4 J5 H locs _ (iv_mono h16 (by decide) (by decide)) w114 hS (lv_sub hl [5, 0, 1, 2, 3, 4, 6, 7, 8] rfl)
                  · have q115 : x23.toInt = 13 := ti_eq c100
                    have h116 : iv 13 13 x23 := ⟨by have := (h40).1; have := ((iv_c (c := 13) (n := 13) (by decide))).1; omega, by have := (h40).2; have := ((iv_c (c := 13) (n := 13) (by decide))).2; omega⟩
                    refine lv_iconst (v := 1) hx hb dX7_sayingOf_199 (by decide) ?_
                    refine lv_goto (tgt := 204) hx hb dX7_sayingOf_200 (by decide) ?_
                    refine lv_icmp_ne (tgt := 211) hx hb dX7_sayingOf_204 (by decide) (fun h => absurd h (by decide)) (fun _ => ?_)
                    refine lv_iconst (v := 1) hx hb dX7_sayingOf_207 (by decide) ?_
                    refine lv_goto (tgt := 212) hx hb dX7_sayingOf_208 (by decide) ?_
                    refine lv_istore (lv' := [(8, .int 1), (7, .int 1), (6, .int x28), (5, .int x23), (3, .int x1), (4, .int x2), (0, .ref (base + a0)), (1, .int a1), (2, .ref (base + a2))]) hx hb dX7_sayingOf_212 hl (by decide) rfl (fun ls hl => ?_)
                    refine lv_iload hx hb dX7_sayingOf_214 (lv_at hl 0 rfl) ?_
                    have J230_118 : ∀ (x117 : Int32) (M118 : MT) (R119 : RT) (J120 : JT) (H : Heap) (locs : List Loc) (ls : Array Slot) (h_x117 : iv 0 134217726 x117) (w0_118 : x2.toInt ≤ x117.toInt) (hS : SB D cy base Z K N Lt_X7_sayingOf LRt_X7_sayingOf Ma Ra M118 R119 J120 s H locs) (hl : lv_has ls 9 [(4, .int x117), (8, .int 1), (7, .int 1), (6, .int x28), (5, .int x23), (3, .int x1), (0, .ref (base + a0)), (1, .int a1), (2, .ref (base + a2))]), W p l e (md_rm 3 0 0) s m args below meth c H locs 0 0 Q (F0 m 230 ls []) := by
                      intro x117 M118 R119 J120 H locs ls h_x117 w0_118 hS hl
                      have f121 := hS.2.2.1
                      have g122 := hS.2.2.2
                      refine lv_iload hx hb dX7_sayingOf_230 (lv_at hl 1 rfl) ?_
                      refine lv_if_eq (tgt := 242) hx hb dX7_sayingOf_232 (by decide) (fun h => absurd h (by decide)) (fun _ => ?_)
                      refine lv_iload hx hb dX7_sayingOf_235 (lv_at hl 4 rfl) ?_
                      refine lv_bipush (v := 14) hx hb dX7_sayingOf_237 (by decide) ?_
                      refine lv_icmp_ne (tgt := 245) hx hb dX7_sayingOf_239 (by decide) (fun c123 => ?_) (fun c123 => False.elim (by have q : x23.toInt = 14 := ti_eq c123; have := (h116).1; have := (h116).2; omega))
                      have q124 : ¬ x23.toInt = 14 := ti_ne c123
                      refine tw_iinc (lv' := fun x127 => [(4, .int x127), (8, .int 1), (7, .int 1), (6, .int x28), (5, .int x23), (3, .int x1), (0, .ref (base + a0)), (1, .int a1), (2, .ref (base + a2))]) (lo := 1) (hi := 134217727) hx hb dX7_sayingOf_245 hl (k := 0) rfl h_x117 (by decide) ⟨by decide, by decide⟩ ⟨by decide, by decide⟩ (by decide) (fun _ => rfl) (fun x127 ls e126 h125 hl => ?_)
                      refine lv_goto (tgt := 5) hx hb dX7_sayingOf_248 (by decide) ?_
                      have hm128 : 134217727 - x127.toInt < (n_3 : Int) := by
                        have := (h_a1).1; have := (h_a1).2; have := (h_x117).1; have := (h_x117).2; have := (h125).1; have := (h125).2; have := (h16).1; have := (h16).2; omega
                      exact ih_3 x1 x127 M118 R119 J120 H locs _ h_x1 (iv_mono h125 (by decide) (by decide)) hm128 hS (lv_sub hl [5, 0, 6, 7, 8] rfl)
                    refine lv_if_eq (tgt := 230) hx hb dX7_sayingOf_216 (by decide) (fun h => absurd h (by decide)) (fun _ => ?_)
                    refine lv_iload hx hb dX7_sayingOf_219 (lv_at hl 5 rfl) ?_
                    refine lv_iload hx hb dX7_sayingOf_221 (lv_at hl 2 rfl) ?_
                    refine lv_iconst (v := 1) hx hb dX7_sayingOf_223 (by decide) ?_
                    refine tw_isub (lo := (-134217729)) (hi := 134217726) hx hb h27 (iv_c (c := 1) (n := 1) (by decide)) ⟨by decide, by decide⟩ ⟨by decide, by decide⟩ dX7_sayingOf_224 (fun x131 e130 h129 => ?_)
                    have e130 : x131.toInt = x28.toInt - 1 := e130
                    refine va_mmax hx hb (hml.trans hl.1.symm) hown (hW _ w_4_74 rfl) (hW _ w_4_75 rfl) (hW _ w_1_13 rfl) (hW _ w_4_76 rfl) (Nat.le_of_ble_eq_true rfl) (Nat.le_of_ble_eq_true rfl) (Nat.le_of_ble_eq_true rfl) (Nat.le_of_ble_eq_true rfl) dX7_sayingOf_225 ?_
                    refine tw_mmax (lo := 0) (hi := 134217726) h16 h129 (by decide) (fun x134 e133 h132 => ?_)
                    refine lv_istore (lv' := [(4, .int x134), (8, .int 1), (7, .int 1), (6, .int x28), (5, .int x23), (3, .int x1), (0, .ref (base + a0)), (1, .int a1), (2, .ref (base + a2))]) hx hb dX7_sayingOf_228 hl (by decide) rfl (fun ls hl => ?_)
                    have w135 : x2.toInt ≤ x134.toInt := by
                      have := (h_a1).1; have := (h_a1).2; have := (h129).1; have := (h129).2; have := (h132).1; have := (h132).2; have := (h16).1; have := (h16).2; have := (h27).1; have := (h27).2; omega
                    exact J230_118 x134 M3 R4 J5 H locs _ h132 w135 hS hl
              · have q136 : x23.toInt = 11 := ti_eq c38
                have h137 : iv 11 11 x23 := ⟨by have := (h37).1; have := ((iv_c (c := 11) (n := 11) (by decide))).1; omega, by have := (h37).2; have := ((iv_c (c := 11) (n := 11) (by decide))).2; omega⟩
                refine lv_aload_n hx hb dX7_sayingOf_146 rfl (lv_at hl 4 rfl) ?_
                refine tw_getr hx hb hW hown hK hS f_X7_11_7 hz_a0 hk_a0 (t := 15) (n := 8) rfl dX7_sayingOf_147 (fun b138 k139 hz_b138 hk_b138 hn_b138 => ?_)
                have hn_b138 := hn_b138 (by decide)
                refine lv_iload_n hx hb dX7_sayingOf_150 rfl (lv_at hl 2 rfl) ?_
                refine lv_bipush (v := 7) hx hb dX7_sayingOf_151 (by decide) ?_
                refine tw_iand (hi := 7) hx hb (iv_mono (iv_c (c := 7) (n := 7) (by decide)) (lo := 0) (hi := 7) (by decide) (by decide)) (by decide) dX7_sayingOf_153 (fun x142 h140 => ?_)
                refine lv_lconst (v := 1) hx hb dX7_sayingOf_154 (by decide) ?_
                refine lv_aload_n hx hb dX7_sayingOf_155 rfl (lv_at hl 4 rfl) ?_
                refine tw_getrk hx hb hW hown hK hS f_X7_11_7 hz_a0 hk_a0 (b := b138) k139 dX7_sayingOf_156 ?_
                refine lv_iload_n hx hb dX7_sayingOf_159 rfl (lv_at hl 2 rfl) ?_
                refine lv_bipush (v := 7) hx hb dX7_sayingOf_160 (by decide) ?_
                refine tw_iand (hi := 7) hx hb (iv_mono (iv_c (c := 7) (n := 7) (by decide)) (lo := 0) (hi := 7) (by decide) (by decide)) (by decide) dX7_sayingOf_162 (fun x145 h143 => ?_)
                refine tw_lald hx hb hK hS hz_b138 hk_b138 hn_b138 h143 ⟨by decide, by decide⟩ dX7_sayingOf_163 (fun x146 => ?_)
                refine lv_lsub hx hb dX7_sayingOf_164 ?_
                refine tw_topl (fun x147 => ?_)
                refine tw_last hx hb hK hS hz_b138 hk_b138 hn_b138 h140 ⟨by decide, by decide⟩ dX7_sayingOf_165 (fun H locs J148 hS => ?_)
                refine lv_goto (tgt := 245) hx hb dX7_sayingOf_166 (by decide) ?_
                refine tw_iinc (lv' := fun x151 => [(4, .int x151), (6, .int x28), (5, .int x23), (3, .int x1), (0, .ref (base + a0)), (1, .int a1), (2, .ref (base + a2))]) (lo := 1) (hi := 1048576) hx hb dX7_sayingOf_245 hl (k := 3) rfl h16 (by decide) ⟨by decide, by decide⟩ ⟨by decide, by decide⟩ (by decide) (fun _ => rfl) (fun x151 ls e150 h149 hl => ?_)
                refine lv_goto (tgt := 5) hx hb dX7_sayingOf_248 (by decide) ?_
                have hm152 : 134217727 - x151.toInt < (n_3 : Int) := by
                  have := (h_a1).1; have := (h_a1).2; have := (h149).1; have := (h149).2; have := (h16).1; have := (h16).2; omega
                exact ih_3 x1 x151 M3 R4 J148 H locs _ h_x1 (iv_mono h149 (by decide) (by decide)) hm152 hS (lv_sub hl [3, 0, 4, 5, 6] rfl)
            · have q153 : x23.toInt ≤ 10 := ti_nlt c35
              have h154 : iv 2 10 x23 := iv_leL (y := 10) h34 (iv_c (c := 10) (n := 10) (by decide)) q153 (by decide)
              refine tw_iincw (lv' := fun x156 => [(3, .int x156), (6, .int x28), (5, .int x23), (4, .int x2), (0, .ref (base + a0)), (1, .int a1), (2, .ref (base + a2))]) hx hb dX7_sayingOf_95 hl (k := 2) rfl (by decide) (fun _ => rfl) (fun x156 ls hl => ?_)
              have h155 := iv_any x156
              refine lv_aload_n hx hb dX7_sayingOf_98 rfl (lv_at hl 4 rfl) ?_
              refine tw_getr hx hb hW hown hK hS f_X7_11_7 hz_a0 hk_a0 (t := 15) (n := 8) rfl dX7_sayingOf_99 (fun b157 k158 hz_b157 hk_b157 hn_b157 => ?_)
              have hn_b157 := hn_b157 (by decide)
              refine lv_iload_n hx hb dX7_sayingOf_102 rfl (lv_at hl 0 rfl) ?_
              refine lv_bipush (v := 7) hx hb dX7_sayingOf_103 (by decide) ?_
              refine tw_iand (hi := 7) hx hb (iv_mono (iv_c (c := 7) (n := 7) (by decide)) (lo := 0) (hi := 7) (by decide) (by decide)) (by decide) dX7_sayingOf_105 (fun x161 h159 => ?_)
              refine tw_lald hx hb hK hS hz_b157 hk_b157 hn_b157 h159 ⟨by decide, by decide⟩ dX7_sayingOf_106 (fun x162 => ?_)
              refine lv_lstore (lv' := [(7, .long x162), (3, .int x156), (6, .int x28), (5, .int x23), (4, .int x2), (0, .ref (base + a0)), (1, .int a1), (2, .ref (base + a2))]) hx hb dX7_sayingOf_107 hl (by decide) rfl (fun ls hl => ?_)
              refine lv_aload_n hx hb dX7_sayingOf_109 rfl (lv_at hl 5 rfl) ?_
              refine tw_getrk hx hb hW hown hK hS f_X7_11_7 hz_a0 hk_a0 (b := b157) k158 dX7_sayingOf_110 ?_
              refine lv_iload_n hx hb dX7_sayingOf_113 rfl (lv_at hl 1 rfl) ?_
              refine lv_bipush (v := 7) hx hb dX7_sayingOf_114 (by decide) ?_
              refine tw_iand (hi := 7) hx hb (iv_mono (iv_c (c := 7) (n := 7) (by decide)) (lo := 0) (hi := 7) (by decide) (by decide)) (by decide) dX7_sayingOf_116 (fun x165 h163 => ?_)
              refine lv_iload hx hb dX7_sayingOf_117 (lv_at hl 3 rfl) ?_
              refine lv_lload hx hb dX7_sayingOf_119 (lv_at hl 0 rfl) ?_
              refine lv_aload_n hx hb dX7_sayingOf_121 rfl (lv_at hl 5 rfl) ?_
              refine tw_getrk hx hb hW hown hK hS f_X7_11_7 hz_a0 hk_a0 (b := b157) k158 dX7_sayingOf_122 ?_
              refine lv_iload_n hx hb dX7_sayingOf_125 rfl (lv_at hl 1 rfl) ?_
              refine lv_iconst (v := 1) hx hb dX7_sayingOf_126 (by decide) ?_
              refine lv_iadd hx hb dX7_sayingOf_127 ?_
              refine tw_top (fun x167 => ?_)
              have h166 := iv_any x167
              refine lv_bipush (v := 7) hx hb dX7_sayingOf_128 (by decide) ?_
              refine tw_iand (hi := 7) hx hb (iv_mono (iv_c (c := 7) (n := 7) (by decide)) (lo := 0) (hi := 7) (by decide) (by decide)) (by decide) dX7_sayingOf_130 (fun x170 h168 => ?_)
              refine tw_lald hx hb hK hS hz_b157 hk_b157 hn_b157 h168 ⟨by decide, by decide⟩ dX7_sayingOf_131 (fun x171 => ?_)
              refine tw_gol hS (md_runS (As := [.int x23, .long x162, .long x171]) (rest := [.int x165, .ref (base + b157)]) hx hb hml hown hW hK hT hS.1 (t_X7_joined l D cy tx base Z K N M3 R4 J5 hS.2.1 x23 h154 (x162) (x171)) s_X7_40 ⟨rfl, rfl, ⟨Nat.le_of_ble_eq_true rfl, Nat.le_of_ble_eq_true rfl⟩, ⟨Nat.le_of_ble_eq_true rfl, Nat.le_of_ble_eq_true rfl⟩⟩ rfl hl.1 rfl (Nat.le_of_ble_eq_true rfl) dX7_sayingOf_132) rfl rfl (fun x178 H locs M175 R176 J174 hS f172 g173 E177 => ?_)
              have eM175 := Fr.nil f172 rfl
              subst eM175
              have eR176 := Fr.nil g173 rfl
              subst eR176
              refine tw_last hx hb hK hS hz_b157 hk_b157 hn_b157 h163 ⟨by decide, by decide⟩ dX7_sayingOf_135 (fun H locs J179 hS => ?_)
              refine lv_goto (tgt := 245) hx hb dX7_sayingOf_136 (by decide) ?_
              refine tw_iinc (lv' := fun x182 => [(4, .int x182), (7, .long x162), (3, .int x156), (6, .int x28), (5, .int x23), (0, .ref (base + a0)), (1, .int a1), (2, .ref (base + a2))]) (lo := 1) (hi := 1048576) hx hb dX7_sayingOf_245 hl (k := 4) rfl h16 (by decide) ⟨by decide, by decide⟩ ⟨by decide, by decide⟩ (by decide) (fun _ => rfl) (fun x182 ls e181 h180 hl => ?_)
              refine lv_goto (tgt := 5) hx hb dX7_sayingOf_248 (by decide) ?_
              have hm183 : 134217727 - x182.toInt < (n_3 : Int) := by
                have := (h_a1).1; have := (h_a1).2; have := (h180).1; have := (h180).2; have := (h16).1; have := (h16).2; omega
              exact ih_3 x156 x182 M3 R4 J179 H locs _ h155 (iv_mono h180 (by decide) (by decide)) hm183 hS (lv_sub hl [2, 0, 5, 6, 7] rfl)
          · have q184 : x23.toInt ≤ 1 := ti_nlt c32
            have h185 : iv 0 1 x23 := iv_leL (y := 1) h31 (iv_c (c := 1) (n := 1) (by decide)) q184 (by decide)
            refine tw_iincw (lv' := fun x187 => [(3, .int x187), (6, .int x28), (5, .int x23), (4, .int x2), (0, .ref (base + a0)), (1, .int a1), (2, .ref (base + a2))]) hx hb dX7_sayingOf_54 hl (k := 2) rfl (by decide) (fun _ => rfl) (fun x187 ls hl => ?_)
            have h186 := iv_any x187
            refine lv_aload_n hx hb dX7_sayingOf_57 rfl (lv_at hl 4 rfl) ?_
            refine tw_getr hx hb hW hown hK hS f_X7_11_7 hz_a0 hk_a0 (t := 15) (n := 8) rfl dX7_sayingOf_58 (fun b188 k189 hz_b188 hk_b188 hn_b188 => ?_)
            have hn_b188 := hn_b188 (by decide)
            refine lv_iload_n hx hb dX7_sayingOf_61 rfl (lv_at hl 0 rfl) ?_
            refine lv_bipush (v := 7) hx hb dX7_sayingOf_62 (by decide) ?_
            refine tw_iand (hi := 7) hx hb (iv_mono (iv_c (c := 7) (n := 7) (by decide)) (lo := 0) (hi := 7) (by decide) (by decide)) (by decide) dX7_sayingOf_64 (fun x192 h190 => ?_)
            refine lv_iload hx hb dX7_sayingOf_65 (lv_at hl 2 rfl) ?_
            refine lv_iconst (v := 1) hx hb dX7_sayingOf_67 (by decide) ?_
            refine lv_icmp_ne (tgt := 81) hx hb dX7_sayingOf_68 (by decide) (fun c193 => ?_) (fun c193 => ?_)
            · have q194 : ¬ x23.toInt = 1 := ti_ne c193
              have h195 : iv 0 0 x23 := ⟨by have := (h185).1; have := ((iv_c (c := 1) (n := 1) (by decide))).1; have := ((iv_c (c := 1) (n := 1) (by decide))).2; omega, by have := (h185).2; have := ((iv_c (c := 1) (n := 1) (by decide))).1; have := ((iv_c (c := 1) (n := 1) (by decide))).2; omega⟩
              refine lv_iload hx hb dX7_sayingOf_81 (lv_at hl 1 rfl) ?_
              refine lv_i2l hx hb dX7_sayingOf_83 rfl ?_
              refine tw_last hx hb hK hS hz_b188 hk_b188 hn_b188 h190 ⟨by decide, by decide⟩ dX7_sayingOf_84 (fun H locs J196 hS => ?_)
              refine lv_goto (tgt := 245) hx hb dX7_sayingOf_85 (by decide) ?_
              refine tw_iinc (lv' := fun x199 => [(4, .int x199), (3, .int x187), (6, .int x28), (5, .int x23), (0, .ref (base + a0)), (1, .int a1), (2, .ref (base + a2))]) (lo := 1) (hi := 1048576) hx hb dX7_sayingOf_245 hl (k := 3) rfl h16 (by decide) ⟨by decide, by decide⟩ ⟨by decide, by decide⟩ (by decide) (fun _ => rfl) (fun x199 ls e198 h197 hl => ?_)
              refine lv_goto (tgt := 5) hx hb dX7_sayingOf_248 (by decide) ?_
              have hm200 : 134217727 - x199.toInt < (n_3 : Int) := by
                have := (h_a1).1; have := (h_a1).2; have := (h197).1; have := (h197).2; have := (h16).1; have := (h16).2; omega
              exact ih_3 x187 x199 M3 R4 J196 H locs _ h186 (iv_mono h197 (by decide) (by decide)) hm200 hS (lv_sub hl [1, 0, 4, 5, 6] rfl)
            · have q201 : x23.toInt = 1 := ti_eq c193
              have h202 : iv 1 1 x23 := ⟨by have := (h185).1; have := ((iv_c (c := 1) (n := 1) (by decide))).1; omega, by have := (h185).2; have := ((iv_c (c := 1) (n := 1) (by decide))).2; omega⟩
              refine lv_aload_n hx hb dX7_sayingOf_71 rfl (lv_at hl 6 rfl) ?_
              refine lv_iload hx hb dX7_sayingOf_72 (lv_at hl 1 rfl) ?_
              refine lv_iload_n hx hb dX7_sayingOf_74 rfl (lv_at hl 5 rfl) ?_
              refine tw_gol hS (md_runV (As := [.int x28, .int a1]) (rest := [.int x192, .ref (base + b188)]) hx hb hml hown hW hK hT hS.1 (t_X5_wordOf l D cy tx base Z K N M3 R4 J5 hS.2.1 a2 hz_a2 hk_a2 x28 h27 a1 h_a1 (RowOK.to row_a2 (Fr.kp (k := 7) f6 hk_a2 rfl) (Fr.kp (k := 5) g7 hk_a2 rfl))) s_X7_34 ⟨rfl, rfl, ⟨Nat.le_of_ble_eq_true rfl, Nat.le_of_ble_eq_true rfl⟩, ⟨Nat.le_of_ble_eq_true rfl, Nat.le_of_ble_eq_true rfl⟩⟩ hz_a2 hk_a2 (by decide) rfl rfl hl.1 rfl (Nat.le_of_ble_eq_true rfl) dX7_sayingOf_75) rfl rfl (fun x209 H locs M206 R207 J205 hS f203 g204 E208 => ?_)
              have eR207 := Fr.nil g204 rfl
              subst eR207
              refine lv_goto (tgt := 84) hx hb dX7_sayingOf_78 (by decide) ?_
              refine tw_last hx hb hK hS hz_b188 hk_b188 hn_b188 h190 ⟨by decide, by decide⟩ dX7_sayingOf_84 (fun H locs J210 hS => ?_)
              refine lv_goto (tgt := 245) hx hb dX7_sayingOf_85 (by decide) ?_
              refine tw_iinc (lv' := fun x213 => [(4, .int x213), (3, .int x187), (6, .int x28), (5, .int x23), (0, .ref (base + a0)), (1, .int a1), (2, .ref (base + a2))]) (lo := 1) (hi := 1048576) hx hb dX7_sayingOf_245 hl (k := 3) rfl h16 (by decide) ⟨by decide, by decide⟩ ⟨by decide, by decide⟩ (by decide) (fun _ => rfl) (fun x213 ls e212 h211 hl => ?_)
              refine lv_goto (tgt := 5) hx hb dX7_sayingOf_248 (by decide) ?_
              have hm214 : 134217727 - x213.toInt < (n_3 : Int) := by
                have := (h_a1).1; have := (h_a1).2; have := (h16).1; have := (h16).2; have := (h211).1; have := (h211).2; omega
              exact ih_3 x187 x213 M206 R4 J210 H locs _ h186 (iv_mono h211 (by decide) (by decide)) hm214 hS (lv_sub hl [1, 0, 4, 5, 6] rfl)
        · have q215 : x23.toInt = 15 := ti_eq c29
          have h216 : iv 15 15 x23 := ⟨by have := (h21).1; have := ((iv_c (c := 15) (n := 15) (by decide))).1; omega, by have := (h21).2; have := ((iv_c (c := 15) (n := 15) (by decide))).2; omega⟩
          refine lv_iload hx hb dX7_sayingOf_45 (lv_at hl 0 rfl) ?_
          exact tw_endi hx hb hr hlocks hK hT hS hQ (h27) dX7_sayingOf_47
  have hm217 : 134217727 - (0 : Int32).toInt < (((134217728 : Nat) : Int) : Int) := by
    have := (h_a1).1; have := (h_a1).2; have : (0 : Int32).toInt = 0 := (by decide); omega
  exact W5_3 134217728 (-1) 0 Ma Ra Ja s.heap [] _ (iv_mono (iv_c (c := (-1)) (n := (-1)) (by decide)) (by decide) (by decide)) (iv_mono (iv_c (c := 0) (n := 0) (by decide)) (by decide) (by decide)) hm217 hS (lv_sub hl [1, 0, 2, 3, 4] rfl)
