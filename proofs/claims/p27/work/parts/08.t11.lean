def Lt_X12_bend : WL := [(14, 0, 2000000), (23, 20, 30)]
def LRt_X12_bend : WL := []
set_option maxRecDepth 100000 in
set_option maxHeartbeats 4000000 in
theorem t_X12_bend (l : Launch) (D : va_G) (cy : Nat → ClassId) (tx : (Nat → Nat) × (Nat → Nat)) (base Z : Nat) (K N : Nat → Nat) (Ma : MT) (Ra : RT) (Ja : JT) (hTy : Ty Z K N Ma Ra) (a0 : Nat) (hz_a0 : a0 < Z) (hk_a0 : K a0 = 12) (a1 : Int32) (h_a1 : iv (-2147483648) 2147483647 a1) (a2 : Int32) (h_a2 : iv (-2147483648) 2147483647 a2) : Met l yX12_bend [Cond.code yX12_bend cX12_bend 4 (some .int)] (md_rm 2 0 0) (va_Pc [.ref (base + a0), .int a1, .int a2] (md_U D cy tx base Z K N Ma Ra Ja)) (mQi D cy tx base (fun r u => TP Z K N Lt_X12_bend LRt_X12_bend Ma Ra u ∧ (iv (-2147483648) 2147483647 r))) 0 0 (fun q => base ≤ q) := by
  refine tw_ofW (L := Lt_X12_bend) (LR := LRt_X12_bend) (by decide) (Nat.le_of_ble_eq_true rfl) hTy ?_
  intro p e s m args below meth c Q ls hx hb hr hlocks hown hml hW hK hT hS hQ hl
  have hl : lv_has ls 4 [(0, .ref (base + a0)), (1, .int a1), (2, .int a2)] := hl
  refine lv_aload_n hx hb dX12_bend_0 rfl (lv_at hl 0 rfl) ?_
  refine lv_iload_n hx hb dX12_bend_1 rfl (lv_at hl 1 rfl) ?_
  refine tw_goi hS (md_runV (As := [.int a1]) (rest := []) hx hb hml hown hW hK hT hS.1 (t_X12_isMember l D cy tx base Z K N Ma Ra Ja hS.2.1 a0 hz_a0 hk_a0 a1 h_a1) s_X12_319 ⟨rfl, rfl, ⟨Nat.le_of_ble_eq_true rfl, Nat.le_of_ble_eq_true rfl⟩, ⟨Nat.le_of_ble_eq_true rfl, Nat.le_of_ble_eq_true rfl⟩⟩ hz_a0 hk_a0 (by decide) rfl rfl hl.1 rfl (Nat.le_of_ble_eq_true rfl) dX12_bend_2) rfl rfl (fun x7 H locs M4 R5 J3 hS f1 g2 E6 => ?_)
  have eM4 := Fr.nil f1 rfl
  subst eM4
  have eR5 := Fr.nil g2 rfl
  subst eR5
  obtain ⟨h_x7, p8⟩ := E6
  refine lv_if_eq (tgt := 22) hx hb dX12_bend_5 (by decide) (fun c9 => ?_) (fun c9 => ?_)
  · have q10 : x7.toInt = 0 := ti_eq c9
    have h11 : iv 0 0 x7 := ⟨by have := (h_x7).1; have := ((iv_c (c := 0) (n := 0) (by decide))).1; omega, by have := (h_x7).2; have := ((iv_c (c := 0) (n := 0) (by decide))).2; omega⟩
    refine lv_aload_n hx hb dX12_bend_22 rfl (lv_at hl 0 rfl) ?_
    refine lv_iconst (v := 0) hx hb dX12_bend_23 (by decide) ?_
    refine tw_goi hS (md_runV (As := [.int 0]) (rest := []) hx hb hml hown hW hK hT hS.1 (t_X12_refuses l D cy tx base Z K N Ma Ra J3 hS.2.1 a0 hz_a0 hk_a0 0 (iv_mono (iv_c (c := 0) (n := 0) (by decide)) (by decide) (by decide))) s_X12_338 ⟨rfl, rfl, ⟨Nat.le_of_ble_eq_true rfl, Nat.le_of_ble_eq_true rfl⟩, ⟨Nat.le_of_ble_eq_true rfl, Nat.le_of_ble_eq_true rfl⟩⟩ hz_a0 hk_a0 (by decide) rfl rfl hl.1 rfl (Nat.le_of_ble_eq_true rfl) dX12_bend_24) rfl rfl (fun x18 H locs M15 R16 J14 hS f12 g13 E17 => ?_)
    have eR16 := Fr.nil g13 rfl
    subst eR16
    have h_x18 := E17
    exact tw_endi hx hb hr hlocks hK hT hS hQ ((iv_mono h_x18 (by decide) (by decide))) dX12_bend_27
  · have q19 : ¬ x7.toInt = 0 := ti_ne c9
    have h20 : iv 1 1 x7 := ⟨by have := (h_x7).1; have := ((iv_c (c := 0) (n := 0) (by decide))).1; have := ((iv_c (c := 0) (n := 0) (by decide))).2; omega, by have := (h_x7).2; have := ((iv_c (c := 0) (n := 0) (by decide))).1; have := ((iv_c (c := 0) (n := 0) (by decide))).2; omega⟩
    have h21 : iv 0 9 a1 := ⟨by have := (p8 c9).1; have := (h_a1).1; omega, by have := (p8 c9).2; have := (h_a1).2; omega⟩
    refine lv_iload_n hx hb dX12_bend_8 rfl (lv_at hl 2 rfl) ?_
    refine lv_i2l hx hb dX12_bend_9 rfl ?_
    refine lv_ldc2 hx hb hown (hW _ w_7_161 rfl) dX12_bend_10 ?_
    refine lv_ldc2 hx hb hown (hW _ w_7_162 rfl) dX12_bend_13 ?_
    refine tw_goi hS (md_runS (As := [.long a2.toInt64, .long (-1), .long 5]) (rest := []) hx hb hml hown hW hK hT hS.1 (t_X12_in l D cy tx base Z K N Ma Ra J3 hS.2.1 (a2.toInt64) ((-1)) (5)) s_X12_155 ⟨rfl, rfl, ⟨Nat.le_of_ble_eq_true rfl, Nat.le_of_ble_eq_true rfl⟩, ⟨Nat.le_of_ble_eq_true rfl, Nat.le_of_ble_eq_true rfl⟩⟩ rfl hl.1 rfl (Nat.le_of_ble_eq_true rfl) dX12_bend_16) rfl rfl (fun x28 H locs M25 R26 J24 hS f22 g23 E27 => ?_)
    have eM25 := Fr.nil f22 rfl
    subst eM25
    have eR26 := Fr.nil g23 rfl
    subst eR26
    obtain ⟨h_x28, p29⟩ := E27
    refine lv_if_ne (tgt := 28) hx hb dX12_bend_19 (by decide) (fun c30 => ?_) (fun c30 => ?_)
    · have q31 : ¬ x28.toInt = 0 := ti_ne c30
      have h32 : iv 1 1 x28 := ⟨by have := (h_x28).1; have := ((iv_c (c := 0) (n := 0) (by decide))).1; have := ((iv_c (c := 0) (n := 0) (by decide))).2; omega, by have := (h_x28).2; have := ((iv_c (c := 0) (n := 0) (by decide))).1; have := ((iv_c (c := 0) (n := 0) (by decide))).2; omega⟩
      have h33 : iv (-1) 5 a2 := in2iv (p29 c30) ((jv_c (x := (-1)) (n := (-1)) (by decide))).1 ((jv_c (x := 5) (n := 5) (by decide))).2
      refine lv_aload_n hx hb dX12_bend_28 rfl (lv_at hl 0 rfl) ?_
      refine tw_getr hx hb hW hown hK hS f_X12_45_11 hz_a0 hk_a0 (t := 23) (n := 226) rfl dX12_bend_29 (fun b34 k35 hz_b34 hk_b34 hn_b34 => ?_)
      have hn_b34 := hn_b34 (by decide)
      refine lv_bipush (v := 20) hx hb dX12_bend_32 (by decide) ?_
      refine lv_iload_n hx hb dX12_bend_34 rfl (lv_at hl 1 rfl) ?_
      refine tw_iadd (lo := 20) (hi := 29) hx hb (iv_c (c := 20) (n := 20) (by decide)) h21 ⟨by decide, by decide⟩ ⟨by decide, by decide⟩ dX12_bend_35 (fun x38 e37 h36 => ?_)
      have e37 : x38.toInt = 20 + a1.toInt := e37
      refine tw_iald hx hb hK hS hz_b34 hk_b34 (Or.inr (by decide)) hn_b34 (lo := (-2147483648)) (hi := 2147483647) h36 ⟨by decide, by decide⟩ rg_full dX12_bend_36 (fun x41 k40 h39 => ?_)
      refine lv_istore_n (lv' := [(3, .int x41), (0, .ref (base + a0)), (1, .int a1), (2, .int a2)]) hx hb dX12_bend_37 rfl hl (by decide) rfl (fun ls hl => ?_)
      refine lv_aload_n hx hb dX12_bend_38 rfl (lv_at hl 1 rfl) ?_
      refine tw_getrk hx hb hW hown hK hS f_X12_45_11 hz_a0 hk_a0 (b := b34) k35 dX12_bend_39 ?_
      refine lv_bipush (v := 20) hx hb dX12_bend_42 (by decide) ?_
      refine lv_iload_n hx hb dX12_bend_44 rfl (lv_at hl 2 rfl) ?_
      refine tw_iadd (lo := 20) (hi := 29) hx hb (iv_c (c := 20) (n := 20) (by decide)) h21 ⟨by decide, by decide⟩ ⟨by decide, by decide⟩ dX12_bend_45 (fun x44 e43 h42 => ?_)
      have e43 : x44.toInt = 20 + a1.toInt := e43
      refine lv_iload_n hx hb dX12_bend_46 rfl (lv_at hl 3 rfl) ?_
      refine tw_iast hx hb hK hS hz_b34 hk_b34 (Or.inr (by decide)) hn_b34 h42 ⟨by decide, by decide⟩ h33 (rg_sas (Or.inl ⟨by decide, by decide⟩) ⟨by decide, by decide⟩) (jl := 20) (jh := 29) ⟨by decide, by decide⟩ rfl dX12_bend_47 (fun H locs M47 hS k45 f46 => ?_)
      refine lv_iload_n hx hb dX12_bend_48 rfl (lv_at hl 0 rfl) ?_
      exact tw_endi hx hb hr hlocks hK hT hS hQ (h39) dX12_bend_49
    · have q48 : x28.toInt = 0 := ti_eq c30
      have h49 : iv 0 0 x28 := ⟨by have := (h_x28).1; have := ((iv_c (c := 0) (n := 0) (by decide))).1; omega, by have := (h_x28).2; have := ((iv_c (c := 0) (n := 0) (by decide))).2; omega⟩
      refine lv_aload_n hx hb dX12_bend_22 rfl (lv_at hl 0 rfl) ?_
      refine lv_iconst (v := 0) hx hb dX12_bend_23 (by decide) ?_
      refine tw_goi hS (md_runV (As := [.int 0]) (rest := []) hx hb hml hown hW hK hT hS.1 (t_X12_refuses l D cy tx base Z K N Ma Ra J24 hS.2.1 a0 hz_a0 hk_a0 0 (iv_mono (iv_c (c := 0) (n := 0) (by decide)) (by decide) (by decide))) s_X12_338 ⟨rfl, rfl, ⟨Nat.le_of_ble_eq_true rfl, Nat.le_of_ble_eq_true rfl⟩, ⟨Nat.le_of_ble_eq_true rfl, Nat.le_of_ble_eq_true rfl⟩⟩ hz_a0 hk_a0 (by decide) rfl rfl hl.1 rfl (Nat.le_of_ble_eq_true rfl) dX12_bend_24) rfl rfl (fun x56 H locs M53 R54 J52 hS f50 g51 E55 => ?_)
      have eR54 := Fr.nil g51 rfl
      subst eR54
      have h_x56 := E55
      exact tw_endi hx hb hr hlocks hK hT hS hQ ((iv_mono h_x56 (by decide) (by decide))) dX12_bend_27
def Lt_X12_beside : WL := [(14, 0, 2000000), (23, 7, 9)]
def LRt_X12_beside : WL := []
set_option maxRecDepth 100000 in
set_option maxHeartbeats 4000000 in
theorem t_X12_beside (l : Launch) (D : va_G) (cy : Nat → ClassId) (tx : (Nat → Nat) × (Nat → Nat)) (base Z : Nat) (K N : Nat → Nat) (Ma : MT) (Ra : RT) (Ja : JT) (hTy : Ty Z K N Ma Ra) (a0 : Nat) (hz_a0 : a0 < Z) (hk_a0 : K a0 = 12) (a1 : Int32) (h_a1 : iv (-2147483648) 2147483647 a1) (a2 : Int32) (h_a2 : iv (-2147483648) 2147483647 a2) : Met l yX12_beside [Cond.code yX12_beside cX12_beside 4 (some .int)] (md_rm 2 0 0) (va_Pc [.ref (base + a0), .int a1, .int a2] (md_U D cy tx base Z K N Ma Ra Ja)) (mQi D cy tx base (fun r u => TP Z K N Lt_X12_beside LRt_X12_beside Ma Ra u ∧ (iv (-2147483648) 2147483647 r))) 0 0 (fun q => base ≤ q) := by
  refine tw_ofW (L := Lt_X12_beside) (LR := LRt_X12_beside) (by decide) (Nat.le_of_ble_eq_true rfl) hTy ?_
  intro p e s m args below meth c Q ls hx hb hr hlocks hown hml hW hK hT hS hQ hl
  have hl : lv_has ls 4 [(0, .ref (base + a0)), (1, .int a1), (2, .int a2)] := hl
  refine lv_aload_n hx hb dX12_beside_0 rfl (lv_at hl 0 rfl) ?_
  refine tw_getr hx hb hW hown hK hS f_X12_45_11 hz_a0 hk_a0 (t := 23) (n := 226) rfl dX12_beside_1 (fun b1 k2 hz_b1 hk_b1 hn_b1 => ?_)
  have hn_b1 := hn_b1 (by decide)
  refine lv_iconst (v := 0) hx hb dX12_beside_4 (by decide) ?_
  refine tw_iald hx hb hK hS hz_b1 hk_b1 (Or.inr (by decide)) hn_b1 (lo := 0) (hi := 10) (iv_c (c := 0) (n := 0) (by decide)) ⟨by decide, by decide⟩ (rg_c (k0 := 0) rfl rfl rfl) dX12_beside_5 (fun x5 k4 h3 => ?_)
  refine lv_if_eq (tgt := 33) hx hb dX12_beside_6 (by decide) (fun c6 => ?_) (fun c6 => ?_)
  · have q7 : x5.toInt = 0 := ti_eq c6
    have h8 : iv 0 0 x5 := ⟨by have := (h3).1; have := ((iv_c (c := 0) (n := 0) (by decide))).1; omega, by have := (h3).2; have := ((iv_c (c := 0) (n := 0) (by decide))).2; omega⟩
    refine lv_aload_n hx hb dX12_beside_33 rfl (lv_at hl 0 rfl) ?_
    refine lv_iconst (v := 0) hx hb dX12_beside_34 (by decide) ?_
    refine tw_goi hS (md_runV (As := [.int 0]) (rest := []) hx hb hml hown hW hK hT hS.1 (t_X12_refuses l D cy tx base Z K N Ma Ra Ja hS.2.1 a0 hz_a0 hk_a0 0 (iv_mono (iv_c (c := 0) (n := 0) (by decide)) (by decide) (by decide))) s_X12_338 ⟨rfl, rfl, ⟨Nat.le_of_ble_eq_true rfl, Nat.le_of_ble_eq_true rfl⟩, ⟨Nat.le_of_ble_eq_true rfl, Nat.le_of_ble_eq_true rfl⟩⟩ hz_a0 hk_a0 (by decide) rfl rfl hl.1 rfl (Nat.le_of_ble_eq_true rfl) dX12_beside_35) rfl rfl (fun x15 H locs M12 R13 J11 hS f9 g10 E14 => ?_)
    have eR13 := Fr.nil g10 rfl
    subst eR13
    have h_x15 := E14
    exact tw_endi hx hb hr hlocks hK hT hS hQ ((iv_mono h_x15 (by decide) (by decide))) dX12_beside_38
  · have q16 : ¬ x5.toInt = 0 := ti_ne c6
    have h17 : iv 1 10 x5 := ⟨by have := (h3).1; have := ((iv_c (c := 0) (n := 0) (by decide))).1; have := ((iv_c (c := 0) (n := 0) (by decide))).2; omega, by have := (h3).2; have := ((iv_c (c := 0) (n := 0) (by decide))).1; have := ((iv_c (c := 0) (n := 0) (by decide))).2; omega⟩
    refine lv_iload_n hx hb dX12_beside_9 rfl (lv_at hl 1 rfl) ?_
    refine lv_i2l hx hb dX12_beside_10 rfl ?_
    refine lv_lconst (v := 0) hx hb dX12_beside_11 (by decide) ?_
    refine lv_ldc2 hx hb hown (hW _ w_7_178 rfl) dX12_beside_12 ?_
    refine tw_goi hS (md_runS (As := [.long a1.toInt64, .long 0, .long 2]) (rest := []) hx hb hml hown hW hK hT hS.1 (t_X12_in l D cy tx base Z K N Ma Ra Ja hS.2.1 (a1.toInt64) (0) (2)) s_X12_155 ⟨rfl, rfl, ⟨Nat.le_of_ble_eq_true rfl, Nat.le_of_ble_eq_true rfl⟩, ⟨Nat.le_of_ble_eq_true rfl, Nat.le_of_ble_eq_true rfl⟩⟩ rfl hl.1 rfl (Nat.le_of_ble_eq_true rfl) dX12_beside_15) rfl rfl (fun x24 H locs M21 R22 J20 hS f18 g19 E23 => ?_)
    have eM21 := Fr.nil f18 rfl
    subst eM21
    have eR22 := Fr.nil g19 rfl
    subst eR22
    obtain ⟨h_x24, p25⟩ := E23
    refine lv_if_eq (tgt := 33) hx hb dX12_beside_18 (by decide) (fun c26 => ?_) (fun c26 => ?_)
    · have q27 : x24.toInt = 0 := ti_eq c26
      have h28 : iv 0 0 x24 := ⟨by have := (h_x24).1; have := ((iv_c (c := 0) (n := 0) (by decide))).1; omega, by have := (h_x24).2; have := ((iv_c (c := 0) (n := 0) (by decide))).2; omega⟩
      refine lv_aload_n hx hb dX12_beside_33 rfl (lv_at hl 0 rfl) ?_
      refine lv_iconst (v := 0) hx hb dX12_beside_34 (by decide) ?_
      refine tw_goi hS (md_runV (As := [.int 0]) (rest := []) hx hb hml hown hW hK hT hS.1 (t_X12_refuses l D cy tx base Z K N Ma Ra J20 hS.2.1 a0 hz_a0 hk_a0 0 (iv_mono (iv_c (c := 0) (n := 0) (by decide)) (by decide) (by decide))) s_X12_338 ⟨rfl, rfl, ⟨Nat.le_of_ble_eq_true rfl, Nat.le_of_ble_eq_true rfl⟩, ⟨Nat.le_of_ble_eq_true rfl, Nat.le_of_ble_eq_true rfl⟩⟩ hz_a0 hk_a0 (by decide) rfl rfl hl.1 rfl (Nat.le_of_ble_eq_true rfl) dX12_beside_35) rfl rfl (fun x35 H locs M32 R33 J31 hS f29 g30 E34 => ?_)
      have eR33 := Fr.nil g30 rfl
      subst eR33
      have h_x35 := E34
      exact tw_endi hx hb hr hlocks hK hT hS hQ ((iv_mono h_x35 (by decide) (by decide))) dX12_beside_38
    · have q36 : ¬ x24.toInt = 0 := ti_ne c26
      have h37 : iv 1 1 x24 := ⟨by have := (h_x24).1; have := ((iv_c (c := 0) (n := 0) (by decide))).1; have := ((iv_c (c := 0) (n := 0) (by decide))).2; omega, by have := (h_x24).2; have := ((iv_c (c := 0) (n := 0) (by decide))).1; have := ((iv_c (c := 0) (n := 0) (by decide))).2; omega⟩
      have h38 : iv 0 2 a1 := in2iv (p25 c26) ((jv_c (x := 0) (n := 0) (by decide))).1 ((jv_c (x := 2) (n := 2) (by decide))).2
      refine lv_iload_n hx hb dX12_beside_21 rfl (lv_at hl 2 rfl) ?_
      refine lv_i2l hx hb dX12_beside_22 rfl ?_
      refine lv_lconst (v := 1) hx hb dX12_beside_23 (by decide) ?_
      refine lv_ldc2 hx hb hown (hW _ w_7_179 rfl) dX12_beside_24 ?_
      refine tw_goi hS (md_runS (As := [.long a2.toInt64, .long 1, .long 9999]) (rest := []) hx hb hml hown hW hK hT hS.1 (t_X12_in l D cy tx base Z K N Ma Ra J20 hS.2.1 (a2.toInt64) (1) (9999)) s_X12_155 ⟨rfl, rfl, ⟨Nat.le_of_ble_eq_true rfl, Nat.le_of_ble_eq_true rfl⟩, ⟨Nat.le_of_ble_eq_true rfl, Nat.le_of_ble_eq_true rfl⟩⟩ rfl hl.1 rfl (Nat.le_of_ble_eq_true rfl) dX12_beside_27) rfl rfl (fun x45 H locs M42 R43 J41 hS f39 g40 E44 => ?_)
      have eM42 := Fr.nil f39 rfl
      subst eM42
      have eR43 := Fr.nil g40 rfl
      subst eR43
      obtain ⟨h_x45, p46⟩ := E44
      refine lv_if_ne (tgt := 39) hx hb dX12_beside_30 (by decide) (fun c47 => ?_) (fun c47 => ?_)
      · have q48 : ¬ x45.toInt = 0 := ti_ne c47
        have h49 : iv 1 1 x45 := ⟨by have := (h_x45).1; have := ((iv_c (c := 0) (n := 0) (by decide))).1; have := ((iv_c (c := 0) (n := 0) (by decide))).2; omega, by have := (h_x45).2; have := ((iv_c (c := 0) (n := 0) (by decide))).1; have := ((iv_c (c := 0) (n := 0) (by decide))).2; omega⟩
        have h50 : iv 1 9999 a2 := in2iv (p46 c47) ((jv_c (x := 1) (n := 1) (by decide))).1 ((jv_c (x := 9999) (n := 9999) (by decide))).2
        refine lv_aload_n hx hb dX12_beside_39 rfl (lv_at hl 0 rfl) ?_
        refine tw_getrk hx hb hW hown hK hS f_X12_45_11 hz_a0 hk_a0 (b := b1) k2 dX12_beside_40 ?_
        refine lv_bipush (v := 7) hx hb dX12_beside_43 (by decide) ?_
        refine tw_iald hx hb hK hS hz_b1 hk_b1 (Or.inr (by decide)) hn_b1 (lo := (-2147483648)) (hi := 2147483647) (iv_c (c := 7) (n := 7) (by decide)) ⟨by decide, by decide⟩ (rg_c (k0 := 7) rfl rfl rfl) dX12_beside_45 (fun x53 k52 h51 => ?_)
        refine lv_istore_n (lv' := [(3, .int x53), (0, .ref (base + a0)), (1, .int a1), (2, .int a2)]) hx hb dX12_beside_46 rfl hl (by decide) rfl (fun ls hl => ?_)
        refine lv_aload_n hx hb dX12_beside_47 rfl (lv_at hl 1 rfl) ?_
        refine tw_getrk hx hb hW hown hK hS f_X12_45_11 hz_a0 hk_a0 (b := b1) k2 dX12_beside_48 ?_
        refine lv_bipush (v := 7) hx hb dX12_beside_51 (by decide) ?_
        refine lv_iload_n hx hb dX12_beside_53 rfl (lv_at hl 2 rfl) ?_
        refine tw_iast hx hb hK hS hz_b1 hk_b1 (Or.inr (by decide)) hn_b1 (iv_c (c := 7) (n := 7) (by decide)) ⟨by decide, by decide⟩ h38 (rg_cs (k0 := 7) rfl rfl rfl ⟨by decide, by decide⟩) (jl := 7) (jh := 7) ⟨by decide, by decide⟩ rfl dX12_beside_54 (fun H locs M56 hS k54 f55 => ?_)
        refine lv_aload_n hx hb dX12_beside_55 rfl (lv_at hl 1 rfl) ?_
        refine tw_getrk hx hb hW hown hK hS f_X12_45_11 hz_a0 hk_a0 (b := b1) k2 dX12_beside_56 ?_
        refine lv_bipush (v := 8) hx hb dX12_beside_59 (by decide) ?_
        refine lv_iload_n hx hb dX12_beside_61 rfl (lv_at hl 3 rfl) ?_
        refine tw_iast hx hb hK hS hz_b1 hk_b1 (Or.inr (by decide)) hn_b1 (iv_c (c := 8) (n := 8) (by decide)) ⟨by decide, by decide⟩ h50 (rg_cs (k0 := 8) rfl rfl rfl ⟨by decide, by decide⟩) (jl := 8) (jh := 8) ⟨by decide, by decide⟩ rfl dX12_beside_62 (fun H locs M59 hS k57 f58 => ?_)
        refine lv_iload_n hx hb dX12_beside_63 rfl (lv_at hl 0 rfl) ?_
        exact tw_endi hx hb hr hlocks hK hT hS hQ (h51) dX12_beside_64
      · have q60 : x45.toInt = 0 := ti_eq c47
        have h61 : iv 0 0 x45 := ⟨by have := (h_x45).1; have := ((iv_c (c := 0) (n := 0) (by decide))).1; omega, by have := (h_x45).2; have := ((iv_c (c := 0) (n := 0) (by decide))).2; omega⟩
        refine lv_aload_n hx hb dX12_beside_33 rfl (lv_at hl 0 rfl) ?_
        refine lv_iconst (v := 0) hx hb dX12_beside_34 (by decide) ?_
        refine tw_goi hS (md_runV (As := [.int 0]) (rest := []) hx hb hml hown hW hK hT hS.1 (t_X12_refuses l D cy tx base Z K N Ma Ra J41 hS.2.1 a0 hz_a0 hk_a0 0 (iv_mono (iv_c (c := 0) (n := 0) (by decide)) (by decide) (by decide))) s_X12_338 ⟨rfl, rfl, ⟨Nat.le_of_ble_eq_true rfl, Nat.le_of_ble_eq_true rfl⟩, ⟨Nat.le_of_ble_eq_true rfl, Nat.le_of_ble_eq_true rfl⟩⟩ hz_a0 hk_a0 (by decide) rfl rfl hl.1 rfl (Nat.le_of_ble_eq_true rfl) dX12_beside_35) rfl rfl (fun x68 H locs M65 R66 J64 hS f62 g63 E67 => ?_)
        have eR66 := Fr.nil g63 rfl
        subst eR66
        have h_x68 := E67
        exact tw_endi hx hb hr hlocks hK hT hS hQ ((iv_mono h_x68 (by decide) (by decide))) dX12_beside_38
def Lt_X12_best : WL := []
def LRt_X12_best : WL := []
set_option maxRecDepth 100000 in
set_option maxHeartbeats 4000000 in
theorem t_X12_best (l : Launch) (D : va_G) (cy : Nat → ClassId) (tx : (Nat → Nat) × (Nat → Nat)) (base Z : Nat) (K N : Nat → Nat) (Ma : MT) (Ra : RT) (Ja : JT) (hTy : Ty Z K N Ma Ra) (a0 : Nat) (hz_a0 : a0 < Z) (hk_a0 : K a0 = 12) (a1 : Int32) (h_a1 : iv 0 728 a1) (a2 : Int32) (h_a2 : iv 0 1 a2) : Met l yX12_best [Cond.code yX12_best cX12_best 8 (some .int)] (md_rm 1 0 0) (va_Pc [.ref (base + a0), .int a1, .int a2] (md_U D cy tx base Z K N Ma Ra Ja)) (mQi D cy tx base (fun r u => TP Z K N Lt_X12_best LRt_X12_best Ma Ra u ∧ (iv (-2147483648) 2147483647 r))) 0 0 (fun q => base ≤ q) := by
  refine tw_ofW (L := Lt_X12_best) (LR := LRt_X12_best) (by decide) (Nat.le_of_ble_eq_true rfl) hTy ?_
  intro p e s m args below meth c Q ls hx hb hr hlocks hown hml hW hK hT hS hQ hl
  have hl : lv_has ls 8 [(0, .ref (base + a0)), (1, .int a1), (2, .int a2)] := hl
  refine lv_iconst (v := 0) hx hb dX12_best_0 (by decide) ?_
  refine lv_istore_n (lv' := [(3, .int 0), (0, .ref (base + a0)), (1, .int a1), (2, .int a2)]) hx hb dX12_best_1 rfl hl (by decide) rfl (fun ls hl => ?_)
  refine lv_iconst (v := 0) hx hb dX12_best_2 (by decide) ?_
  refine lv_istore (lv' := [(4, .int 0), (3, .int 0), (0, .ref (base + a0)), (1, .int a1), (2, .int a2)]) hx hb dX12_best_3 hl (by decide) rfl (fun ls hl => ?_)
  refine lv_iconst (v := 0) hx hb dX12_best_5 (by decide) ?_
  refine lv_istore (lv' := [(5, .int 0), (4, .int 0), (3, .int 0), (0, .ref (base + a0)), (1, .int a1), (2, .int a2)]) hx hb dX12_best_6 hl (by decide) rfl (fun ls hl => ?_)
  have W8_4 : ∀ (n_4 : Nat) (x1 : Int32) (x2 : Int32) (x3 : Int32) (M4 : MT) (R5 : RT) (J6 : JT) (H : Heap) (locs : List Loc) (ls : Array Slot) (h_x1 : iv 0 2 x1) (h_x2 : iv (-2147483648) 2147483647 x2) (h_x3 : iv 0 3 x3) (hm_4 : 3 - x3.toInt < (n_4 : Int)) (hS : SB D cy base Z K N Lt_X12_best LRt_X12_best Ma Ra M4 R5 J6 s H locs) (hl : lv_has ls 8 [(3, .int x1), (4, .int x2), (5, .int x3), (0, .ref (base + a0)), (1, .int a1), (2, .int a2)]), W p l e (md_rm 1 0 0) s m args below meth c H locs 0 0 Q (F0 m 8 ls []) := by
    intro n_4
    induction n_4 with
    | zero =>
      intro x1 x2 x3 M4 R5 J6 H locs ls h_x1 h_x2 h_x3 hm_4 hS hl
      exfalso
      have := (h_a1).1; have := (h_a1).2; have := (h_a2).1; have := (h_a2).2; have := (h_x3).1; have := (h_x3).2; omega
    | succ n_4 ih_4 =>
      intro x1 x2 x3 M4 R5 J6 H locs ls h_x1 h_x2 h_x3 hm_4 hS hl
      have f7 := hS.2.2.1
      have g8 := hS.2.2.2
      refine lv_iload hx hb dX12_best_8 (lv_at hl 2 rfl) ?_
      refine lv_iconst (v := 3) hx hb dX12_best_10 (by decide) ?_
      refine lv_icmp_ge (tgt := 119) hx hb dX12_best_11 (by decide) (fun c9 => ?_) (fun c9 => ?_)
      · have q10 : 3 ≤ x3.toInt := ti_le c9
        have h11 : iv 3 3 x3 := iv_geL (y := 3) h_x3 (iv_c (c := 3) (n := 3) (by decide)) q10 (by decide)
        refine lv_iload_n hx hb dX12_best_119 rfl (lv_at hl 5 rfl) ?_
        refine lv_if_eq (tgt := 127) hx hb dX12_best_120 (by decide) (fun c12 => ?_) (fun c12 => ?_)
        · have q13 : a2.toInt = 0 := ti_eq c12
          have h14 : iv 0 0 a2 := ⟨by have := (h_a2).1; have := ((iv_c (c := 0) (n := 0) (by decide))).1; omega, by have := (h_a2).2; have := ((iv_c (c := 0) (n := 0) (by decide))).2; omega⟩
          refine lv_iload hx hb dX12_best_127 (lv_at hl 1 rfl) ?_
          exact tw_endi hx hb hr hlocks hK hT hS hQ (h_x2) dX12_best_129
        · have q15 : ¬ a2.toInt = 0 := ti_ne c12
          have h16 : iv 1 1 a2 := ⟨by have := (h_a2).1; have := ((iv_c (c := 0) (n := 0) (by decide))).1; have := ((iv_c (c := 0) (n := 0) (by decide))).2; omega, by have := (h_a2).2; have := ((iv_c (c := 0) (n := 0) (by decide))).1; have := ((iv_c (c := 0) (n := 0) (by decide))).2; omega⟩
          refine lv_iload_n hx hb dX12_best_123 rfl (lv_at hl 0 rfl) ?_
          refine lv_goto (tgt := 129) hx hb dX12_best_124 (by decide) ?_
          exact tw_endi hx hb hr hlocks hK hT hS hQ ((iv_mono h_x1 (by decide) (by decide))) dX12_best_129
      · have q17 : x3.toInt < 3 := ti_nle c9
        have h18 : iv 0 2 x3 := iv_ltL (y := 3) h_x3 (iv_c (c := 3) (n := 3) (by decide)) q17 (by decide)
        refine lv_aload_n hx hb dX12_best_14 rfl (lv_at hl 3 rfl) ?_
        refine tw_getr hx hb hW hown hK hS f_X12_81_11 hz_a0 hk_a0 (t := 14) (n := 6561) rfl dX12_best_15 (fun b19 k20 hz_b19 hk_b19 hn_b19 => ?_)
        have hn_b19 := hn_b19 (by decide)
        refine lv_bipush (v := 9) hx hb dX12_best_18 (by decide) ?_
        refine lv_iload_n hx hb dX12_best_20 rfl (lv_at hl 4 rfl) ?_
        refine tw_icmul (k := 9) (lo := 0) (hi := 6552) hx hb (by decide) h_a1 (by decide) ⟨by decide, by decide⟩ ⟨by decide, by decide⟩ dX12_best_21 (fun x23 e22 h21 => ?_)
        refine lv_iconst (v := 3) hx hb dX12_best_22 (by decide) ?_
        refine lv_iload hx hb dX12_best_23 (lv_at hl 2 rfl) ?_
        refine tw_icmul (k := 3) (lo := 0) (hi := 6) hx hb (by decide) h18 (by decide) ⟨by decide, by decide⟩ ⟨by decide, by decide⟩ dX12_best_25 (fun x26 e25 h24 => ?_)
        refine tw_iadd (lo := 0) (hi := 6558) hx hb h21 h24 ⟨by decide, by decide⟩ ⟨by decide, by decide⟩ dX12_best_26 (fun x29 e28 h27 => ?_)
        refine tw_iald hx hb hK hS hz_b19 hk_b19 (Or.inl rfl) hn_b19 (lo := (-2147483648)) (hi := 2147483647) h27 ⟨by decide, by decide⟩ rg_u14 dX12_best_27 (fun x32 k31 h30 => ?_)
        refine lv_istore (lv' := [(6, .int x32), (3, .int x1), (4, .int x2), (5, .int x3), (0, .ref (base + a0)), (1, .int a1), (2, .int a2)]) hx hb dX12_best_28 hl (by decide) rfl (fun ls hl => ?_)
        refine lv_iconst (v := 1) hx hb dX12_best_30 (by decide) ?_
        refine lv_istore (lv' := [(7, .int 1), (6, .int x32), (3, .int x1), (4, .int x2), (5, .int x3), (0, .ref (base + a0)), (1, .int a1), (2, .int a2)]) hx hb dX12_best_31 hl (by decide) rfl (fun ls hl => ?_)
        have W33_35 : ∀ (n_35 : Nat) (x33 : Int32) (x34 : Int32) (M35 : MT) (R36 : RT) (J37 : JT) (H : Heap) (locs : List Loc) (ls : Array Slot) (h_x33 : iv (-2147483648) 2147483647 x33) (h_x34 : iv 1 3 x34) (hm_35 : 3 - x34.toInt < (n_35 : Int)) (hS : SB D cy base Z K N Lt_X12_best LRt_X12_best Ma Ra M35 R36 J37 s H locs) (hl : lv_has ls 8 [(6, .int x33), (7, .int x34), (3, .int x1), (4, .int x2), (5, .int x3), (0, .ref (base + a0)), (1, .int a1), (2, .int a2)]), W p l e (md_rm 1 0 0) s m args below meth c H locs 0 0 Q (F0 m 33 ls []) := by
          intro n_35
          induction n_35 with
          | zero =>
            intro x33 x34 M35 R36 J37 H locs ls h_x33 h_x34 hm_35 hS hl
            exfalso
            have := (h_a1).1; have := (h_a1).2; have := (h_a2).1; have := (h_a2).2; have := (h_x34).1; have := (h_x34).2; omega
          | succ n_35 ih_35 =>
            intro x33 x34 M35 R36 J37 H locs ls h_x33 h_x34 hm_35 hS hl
            have f38 := hS.2.2.1
            have g39 := hS.2.2.2
            refine lv_iload hx hb dX12_best_33 (lv_at hl 1 rfl) ?_
            refine lv_iconst (v := 3) hx hb dX12_best_35 (by decide) ?_
            refine lv_icmp_ge (tgt := 91) hx hb dX12_best_36 (by decide) (fun c40 => ?_) (fun c40 => ?_)
            · have q41 : 3 ≤ x34.toInt := ti_le c40
              have h42 : iv 3 3 x34 := iv_geL (y := 3) h_x34 (iv_c (c := 3) (n := 3) (by decide)) q41 (by decide)
              refine lv_iload hx hb dX12_best_91 (lv_at hl 4 rfl) ?_
              refine lv_if_le (tgt := 106) hx hb dX12_best_93 (by decide) (fun c43 => ?_) (fun c43 => ?_)
              · have q44 : x3.toInt ≤ 0 := ti_le c43
                have h45 : iv 0 0 x3 := iv_leL (y := 0) h18 (iv_c (c := 0) (n := 0) (by decide)) q44 (by decide)
                refine lv_iload hx hb dX12_best_106 (lv_at hl 4 rfl) ?_
                refine lv_istore_n (lv' := [(3, .int x3), (6, .int x33), (7, .int x34), (4, .int x2), (5, .int x3), (0, .ref (base + a0)), (1, .int a1), (2, .int a2)]) hx hb dX12_best_108 rfl hl (by decide) rfl (fun ls hl => ?_)
                refine lv_iload hx hb dX12_best_109 (lv_at hl 1 rfl) ?_
                refine lv_istore (lv' := [(4, .int x33), (3, .int x3), (6, .int x33), (7, .int x34), (5, .int x3), (0, .ref (base + a0)), (1, .int a1), (2, .int a2)]) hx hb dX12_best_111 hl (by decide) rfl (fun ls hl => ?_)
                refine tw_iinc (lv' := fun x48 => [(5, .int x48), (4, .int x33), (3, .int x3), (6, .int x33), (7, .int x34), (0, .ref (base + a0)), (1, .int a1), (2, .int a2)]) (lo := 1) (hi := 1) hx hb dX12_best_113 hl (k := 4) rfl h45 (by decide) ⟨by decide, by decide⟩ ⟨by decide, by decide⟩ (by decide) (fun _ => rfl) (fun x48 ls e47 h46 hl => ?_)
                refine lv_goto (tgt := 8) hx hb dX12_best_116 (by decide) ?_
                have hm49 : 3 - x48.toInt < (n_4 : Int) := by
                  have := (h_a1).1; have := (h_a1).2; have := (h_a2).1; have := (h_a2).2; have := (h24).1; have := (h24).2; have := (h45).1; have := (h45).2; have := (h46).1; have := (h46).2; omega
                exact ih_4 x3 x33 x48 M35 R36 J37 H locs _ (iv_mono h45 (by decide) (by decide)) h_x33 (iv_mono h46 (by decide) (by decide)) hm49 hS (lv_sub hl [2, 1, 0, 5, 6, 7] rfl)
              · have q50 : 0 < x3.toInt := ti_nle c43
                have h51 : iv 1 2 x3 := iv_gtL (y := 0) h18 (iv_c (c := 0) (n := 0) (by decide)) q50 (by decide)
                refine lv_iload hx hb dX12_best_96 (lv_at hl 0 rfl) ?_
                refine lv_iload hx hb dX12_best_98 (lv_at hl 3 rfl) ?_
                refine lv_icmp_gt (tgt := 106) hx hb dX12_best_100 (by decide) (fun c52 => ?_) (fun c52 => ?_)
                · have q53 : x2.toInt < x33.toInt := ti_lt c52
                  have h54 : iv (-2147483647) 2147483647 x33 := iv_gtL (y := x2) h_x33 h_x2 q53 (by decide)
                  have h55 : iv (-2147483648) 2147483646 x2 := iv_ltL (y := x33) h_x2 h_x33 q53 (by decide)
                  refine lv_iload hx hb dX12_best_106 (lv_at hl 4 rfl) ?_
                  refine lv_istore_n (lv' := [(3, .int x3), (6, .int x33), (7, .int x34), (4, .int x2), (5, .int x3), (0, .ref (base + a0)), (1, .int a1), (2, .int a2)]) hx hb dX12_best_108 rfl hl (by decide) rfl (fun ls hl => ?_)
                  refine lv_iload hx hb dX12_best_109 (lv_at hl 1 rfl) ?_
                  refine lv_istore (lv' := [(4, .int x33), (3, .int x3), (6, .int x33), (7, .int x34), (5, .int x3), (0, .ref (base + a0)), (1, .int a1), (2, .int a2)]) hx hb dX12_best_111 hl (by decide) rfl (fun ls hl => ?_)
                  refine tw_iinc (lv' := fun x58 => [(5, .int x58), (4, .int x33), (3, .int x3), (6, .int x33), (7, .int x34), (0, .ref (base + a0)), (1, .int a1), (2, .int a2)]) (lo := 2) (hi := 3) hx hb dX12_best_113 hl (k := 4) rfl h51 (by decide) ⟨by decide, by decide⟩ ⟨by decide, by decide⟩ (by decide) (fun _ => rfl) (fun x58 ls e57 h56 hl => ?_)
                  refine lv_goto (tgt := 8) hx hb dX12_best_116 (by decide) ?_
                  have hm59 : 3 - x58.toInt < (n_4 : Int) := by
                    have := (h_a1).1; have := (h_a1).2; have := (h_a2).1; have := (h_a2).2; have := (h24).1; have := (h24).2; have := (h51).1; have := (h51).2; have := (h56).1; have := (h56).2; omega
                  exact ih_4 x3 x33 x58 M35 R36 J37 H locs _ (iv_mono h51 (by decide) (by decide)) (iv_mono h54 (by decide) (by decide)) (iv_mono h56 (by decide) (by decide)) hm59 hS (lv_sub hl [2, 1, 0, 5, 6, 7] rfl)
                · have q60 : x33.toInt ≤ x2.toInt := ti_nlt c52
                  refine lv_goto (tgt := 113) hx hb dX12_best_103 (by decide) ?_
                  refine tw_iinc (lv' := fun x63 => [(5, .int x63), (6, .int x33), (7, .int x34), (3, .int x1), (4, .int x2), (0, .ref (base + a0)), (1, .int a1), (2, .int a2)]) (lo := 2) (hi := 3) hx hb dX12_best_113 hl (k := 4) rfl h51 (by decide) ⟨by decide, by decide⟩ ⟨by decide, by decide⟩ (by decide) (fun _ => rfl) (fun x63 ls e62 h61 hl => ?_)
                  refine lv_goto (tgt := 8) hx hb dX12_best_116 (by decide) ?_
                  have hm64 : 3 - x63.toInt < (n_4 : Int) := by
                    have := (h_a1).1; have := (h_a1).2; have := (h_a2).1; have := (h_a2).2; have := (h24).1; have := (h24).2; have := (h51).1; have := (h51).2; have := (h61).1; have := (h61).2; omega
                  exact ih_4 x1 x2 x63 M35 R36 J37 H locs _ h_x1 h_x2 (iv_mono h61 (by decide) (by decide)) hm64 hS (lv_sub hl [3, 4, 0, 5, 6, 7] rfl)
            · have q65 : x34.toInt < 3 := ti_nle c40
              have h66 : iv 1 2 x34 := iv_ltL (y := 3) h_x34 (iv_c (c := 3) (n := 3) (by decide)) q65 (by decide)
              refine lv_aload_n hx hb dX12_best_39 rfl (lv_at hl 5 rfl) ?_
              refine tw_getr hx hb hW hown hK hS f_X12_81_11 hz_a0 hk_a0 (t := 14) (n := 6561) rfl dX12_best_40 (fun b67 k68 hz_b67 hk_b67 hn_b67 => ?_)
              have hn_b67 := hn_b67 (by decide)
              refine lv_bipush (v := 9) hx hb dX12_best_43 (by decide) ?_
              refine lv_iload_n hx hb dX12_best_45 rfl (lv_at hl 6 rfl) ?_
              refine tw_icmul (k := 9) (lo := 0) (hi := 6552) hx hb (by decide) h_a1 (by decide) ⟨by decide, by decide⟩ ⟨by decide, by decide⟩ dX12_best_46 (fun x71 e70 h69 => ?_)
              refine lv_iconst (v := 3) hx hb dX12_best_47 (by decide) ?_
              refine lv_iload hx hb dX12_best_48 (lv_at hl 4 rfl) ?_
              refine tw_icmul (k := 3) (lo := 0) (hi := 6) hx hb (by decide) h18 (by decide) ⟨by decide, by decide⟩ ⟨by decide, by decide⟩ dX12_best_50 (fun x74 e73 h72 => ?_)
              refine tw_iadd (lo := 0) (hi := 6558) hx hb h69 h72 ⟨by decide, by decide⟩ ⟨by decide, by decide⟩ dX12_best_51 (fun x77 e76 h75 => ?_)
              refine lv_iload hx hb dX12_best_52 (lv_at hl 1 rfl) ?_
              refine tw_iadd (lo := 1) (hi := 6560) hx hb h75 h66 ⟨by decide, by decide⟩ ⟨by decide, by decide⟩ dX12_best_54 (fun x80 e79 h78 => ?_)
              refine tw_iald hx hb hK hS hz_b67 hk_b67 (Or.inl rfl) hn_b67 (lo := (-2147483648)) (hi := 2147483647) h78 ⟨by decide, by decide⟩ rg_u14 dX12_best_55 (fun x83 k82 h81 => ?_)
              refine lv_iload hx hb dX12_best_56 (lv_at hl 0 rfl) ?_
              refine lv_icmp_ge (tgt := 81) hx hb dX12_best_58 (by decide) (fun c84 => ?_) (fun c84 => ?_)
              · have q85 : x33.toInt ≤ x83.toInt := ti_le c84
                refine lv_iload hx hb dX12_best_81 (lv_at hl 0 rfl) ?_
                refine lv_istore (lv' := [(6, .int x33), (7, .int x34), (3, .int x1), (4, .int x2), (5, .int x3), (0, .ref (base + a0)), (1, .int a1), (2, .int a2)]) hx hb dX12_best_83 hl (by decide) rfl (fun ls hl => ?_)
                refine tw_iinc (lv' := fun x88 => [(7, .int x88), (6, .int x33), (3, .int x1), (4, .int x2), (5, .int x3), (0, .ref (base + a0)), (1, .int a1), (2, .int a2)]) (lo := 2) (hi := 3) hx hb dX12_best_85 hl (k := 1) rfl h66 (by decide) ⟨by decide, by decide⟩ ⟨by decide, by decide⟩ (by decide) (fun _ => rfl) (fun x88 ls e87 h86 hl => ?_)
                refine lv_goto (tgt := 33) hx hb dX12_best_88 (by decide) ?_
                have hm89 : 3 - x88.toInt < (n_35 : Int) := by
                  have := (h_a1).1; have := (h_a1).2; have := (h_a2).1; have := (h_a2).2; have := (h66).1; have := (h66).2; have := (h78).1; have := (h78).2; have := (h86).1; have := (h86).2; omega
                exact ih_35 x33 x88 M35 R36 J37 H locs _ h_x33 (iv_mono h86 (by decide) (by decide)) hm89 hS (lv_sub hl [1, 0, 2, 3, 4, 5, 6, 7] rfl)
              · have q90 : x83.toInt < x33.toInt := ti_nle c84
                have h91 : iv (-2147483648) 2147483646 x83 := iv_ltL (y := x33) h81 h_x33 q90 (by decide)
                have h92 : iv (-2147483647) 2147483647 x33 := iv_gtL (y := x83) h_x33 h81 q90 (by decide)
                refine lv_aload_n hx hb dX12_best_61 rfl (lv_at hl 5 rfl) ?_
                refine tw_getrk hx hb hW hown hK hS f_X12_81_11 hz_a0 hk_a0 (b := b67) k68 dX12_best_62 ?_
                refine lv_bipush (v := 9) hx hb dX12_best_65 (by decide) ?_
                refine lv_iload_n hx hb dX12_best_67 rfl (lv_at hl 6 rfl) ?_
                refine tw_icmul (k := 9) (lo := 0) (hi := 6552) hx hb (by decide) h_a1 (by decide) ⟨by decide, by decide⟩ ⟨by decide, by decide⟩ dX12_best_68 (fun x95 e94 h93 => ?_)
                refine lv_iconst (v := 3) hx hb dX12_best_69 (by decide) ?_
                refine lv_iload hx hb dX12_best_70 (lv_at hl 4 rfl) ?_
                refine tw_icmul (k := 3) (lo := 0) (hi := 6) hx hb (by decide) h18 (by decide) ⟨by decide, by decide⟩ ⟨by decide, by decide⟩ dX12_best_72 (fun x98 e97 h96 => ?_)
                refine tw_iadd (lo := 0) (hi := 6558) hx hb h93 h96 ⟨by decide, by decide⟩ ⟨by decide, by decide⟩ dX12_best_73 (fun x101 e100 h99 => ?_)
                refine lv_iload hx hb dX12_best_74 (lv_at hl 1 rfl) ?_
                refine tw_iadd (lo := 1) (hi := 6560) hx hb h99 h66 ⟨by decide, by decide⟩ ⟨by decide, by decide⟩ dX12_best_76 (fun x104 e103 h102 => ?_)
                refine tw_iald hx hb hK hS hz_b67 hk_b67 (Or.inl rfl) hn_b67 (lo := (-2147483648)) (hi := 2147483647) h102 ⟨by decide, by decide⟩ rg_u14 dX12_best_77 (fun x107 k106 h105 => ?_)
                refine lv_goto (tgt := 83) hx hb dX12_best_78 (by decide) ?_
                refine lv_istore (lv' := [(6, .int x107), (7, .int x34), (3, .int x1), (4, .int x2), (5, .int x3), (0, .ref (base + a0)), (1, .int a1), (2, .int a2)]) hx hb dX12_best_83 hl (by decide) rfl (fun ls hl => ?_)
                refine tw_iinc (lv' := fun x110 => [(7, .int x110), (6, .int x107), (3, .int x1), (4, .int x2), (5, .int x3), (0, .ref (base + a0)), (1, .int a1), (2, .int a2)]) (lo := 2) (hi := 3) hx hb dX12_best_85 hl (k := 1) rfl h66 (by decide) ⟨by decide, by decide⟩ ⟨by decide, by decide⟩ (by decide) (fun _ => rfl) (fun x110 ls e109 h108 hl => ?_)
                refine lv_goto (tgt := 33) hx hb dX12_best_88 (by decide) ?_
                have hm111 : 3 - x110.toInt < (n_35 : Int) := by
                  have := (h_a1).1; have := (h_a1).2; have := (h_a2).1; have := (h_a2).2; have := (h102).1; have := (h102).2; have := (h108).1; have := (h108).2; have := (h66).1; have := (h66).2; have := (h78).1; have := (h78).2; omega
                exact ih_35 x107 x110 M35 R36 J37 H locs _ h105 (iv_mono h108 (by decide) (by decide)) hm111 hS (lv_sub hl [1, 0, 2, 3, 4, 5, 6, 7] rfl)
        have hm112 : 3 - (1 : Int32).toInt < (((3 : Nat) : Int) : Int) := by
          have := (h_a1).1; have := (h_a1).2; have := (h_a2).1; have := (h_a2).2; have : (1 : Int32).toInt = 1 := (by decide); omega
        exact W33_35 3 x32 1 M4 R5 J6 H locs _ h30 (iv_mono (iv_c (c := 1) (n := 1) (by decide)) (by decide) (by decide)) hm112 hS (lv_sub hl [1, 0, 2, 3, 4, 5, 6, 7] rfl)
  have hm113 : 3 - (0 : Int32).toInt < (((4 : Nat) : Int) : Int) := by
    have := (h_a1).1; have := (h_a1).2; have := (h_a2).1; have := (h_a2).2; have : (0 : Int32).toInt = 0 := (by decide); omega
  exact W8_4 4 0 0 0 Ma Ra Ja s.heap [] _ (iv_mono (iv_c (c := 0) (n := 0) (by decide)) (by decide) (by decide)) (iv_mono (iv_c (c := 0) (n := 0) (by decide)) (by decide) (by decide)) (iv_mono (iv_c (c := 0) (n := 0) (by decide)) (by decide) (by decide)) hm113 hS (lv_sub hl [2, 1, 0, 3, 4, 5] rfl)
def Lt_X12_canFit : WL := []
def LRt_X12_canFit : WL := []
set_option maxRecDepth 100000 in
set_option maxHeartbeats 4000000 in
theorem t_X12_canFit (l : Launch) (D : va_G) (cy : Nat → ClassId) (tx : (Nat → Nat) × (Nat → Nat)) (base Z : Nat) (K N : Nat → Nat) (Ma : MT) (Ra : RT) (Ja : JT) (hTy : Ty Z K N Ma Ra) (a0 : Nat) (hz_a0 : a0 < Z) (hk_a0 : K a0 = 12) (a1 : Int32) (h_a1 : iv (-2147483648) 2147483647 a1) (sd : Nat) (k_sd : Ra a0 25 = some sd) (e0 : Int32) (k_e0 : Ma sd (0 : Int32).toNatClampNeg = e0) (h_e0 : iv 0 10 e0) : Met l yX12_canFit [Cond.code yX12_canFit cX12_canFit 2 (some .boolean)] (md_rm 2 0 0) (va_Pc [.ref (base + a0), .int a1] (md_U D cy tx base Z K N Ma Ra Ja)) (mQi D cy tx base (fun r u => TP Z K N Lt_X12_canFit LRt_X12_canFit Ma Ra u ∧ (iv 0 1 r ∧ (¬ r = 0 → iv 1 5 e0) ∧ (¬ r = 0 → iv 1 6 a1)))) 0 0 (fun q => base ≤ q) := by
  refine tw_ofW (L := Lt_X12_canFit) (LR := LRt_X12_canFit) (by decide) (Nat.le_of_ble_eq_true rfl) hTy ?_
  intro p e s m args below meth c Q ls hx hb hr hlocks hown hml hW hK hT hS hQ hl
  have hl : lv_has ls 2 [(0, .ref (base + a0)), (1, .int a1)] := hl
  obtain ⟨hz_sd, hk_sd, hn_sd⟩ := hTy.refn hz_a0 hk_a0 (show rtR 12 25 = (23, 226, 0) from rfl) k_sd
  have hn_sd := hn_sd (by decide)
  refine lv_aload_n hx hb dX12_canFit_0 rfl (lv_at hl 0 rfl) ?_
  refine tw_getrk hx hb hW hown hK hS f_X12_45_11 hz_a0 hk_a0 (b := sd) k_sd dX12_canFit_1 ?_
  refine lv_iconst (v := 0) hx hb dX12_canFit_4 (by decide) ?_
  refine tw_ialk hx hb hK hS hz_sd hk_sd (Or.inr (by decide)) hn_sd (iv_c (c := 0) (n := 0) (by decide)) ⟨by decide, by decide⟩ (v := e0) k_e0 dX12_canFit_5 ?_
  refine lv_i2l hx hb dX12_canFit_6 rfl ?_
  refine lv_lconst (v := 1) hx hb dX12_canFit_7 (by decide) ?_
  refine lv_ldc2 hx hb hown (hW _ w_7_162 rfl) dX12_canFit_8 ?_
  refine tw_goi hS (md_runS (As := [.long e0.toInt64, .long 1, .long 5]) (rest := []) hx hb hml hown hW hK hT hS.1 (t_X12_in l D cy tx base Z K N Ma Ra Ja hS.2.1 (e0.toInt64) (1) (5)) s_X12_155 ⟨rfl, rfl, ⟨Nat.le_of_ble_eq_true rfl, Nat.le_of_ble_eq_true rfl⟩, ⟨Nat.le_of_ble_eq_true rfl, Nat.le_of_ble_eq_true rfl⟩⟩ rfl hl.1 rfl (Nat.le_of_ble_eq_true rfl) dX12_canFit_11) rfl rfl (fun x7 H locs M4 R5 J3 hS f1 g2 E6 => ?_)
  have eM4 := Fr.nil f1 rfl
  subst eM4
  have eR5 := Fr.nil g2 rfl
  subst eR5
  obtain ⟨h_x7, p8⟩ := E6
  refine lv_if_eq (tgt := 33) hx hb dX12_canFit_14 (by decide) (fun c9 => ?_) (fun c9 => ?_)
  · have q10 : x7.toInt = 0 := ti_eq c9
    have h11 : iv 0 0 x7 := ⟨by have := (h_x7).1; have := ((iv_c (c := 0) (n := 0) (by decide))).1; omega, by have := (h_x7).2; have := ((iv_c (c := 0) (n := 0) (by decide))).2; omega⟩
    refine lv_iconst (v := 0) hx hb dX12_canFit_33 (by decide) ?_
    exact tw_endz hx hb hr hlocks hK hT hS hQ rfl (⟨(iv_mono (iv_c (c := 0) (n := 0) (by decide)) (by decide) (by decide)), (fun h => absurd rfl h), (fun h => absurd rfl h)⟩) dX12_canFit_34
  · have q12 : ¬ x7.toInt = 0 := ti_ne c9
    have h13 : iv 1 1 x7 := ⟨by have := (h_x7).1; have := ((iv_c (c := 0) (n := 0) (by decide))).1; have := ((iv_c (c := 0) (n := 0) (by decide))).2; omega, by have := (h_x7).2; have := ((iv_c (c := 0) (n := 0) (by decide))).1; have := ((iv_c (c := 0) (n := 0) (by decide))).2; omega⟩
    have h14 : iv 1 5 e0 := in2iv (p8 c9) ((jv_c (x := 1) (n := 1) (by decide))).1 ((jv_c (x := 5) (n := 5) (by decide))).2
    refine lv_iload_n hx hb dX12_canFit_17 rfl (lv_at hl 1 rfl) ?_
    refine lv_i2l hx hb dX12_canFit_18 rfl ?_
    refine lv_lconst (v := 1) hx hb dX12_canFit_19 (by decide) ?_
    refine lv_ldc2 hx hb hown (hW _ w_8_120 rfl) dX12_canFit_20 ?_
    refine tw_goi hS (md_runS (As := [.long a1.toInt64, .long 1, .long 6]) (rest := []) hx hb hml hown hW hK hT hS.1 (t_X12_in l D cy tx base Z K N Ma Ra J3 hS.2.1 (a1.toInt64) (1) (6)) s_X12_155 ⟨rfl, rfl, ⟨Nat.le_of_ble_eq_true rfl, Nat.le_of_ble_eq_true rfl⟩, ⟨Nat.le_of_ble_eq_true rfl, Nat.le_of_ble_eq_true rfl⟩⟩ rfl hl.1 rfl (Nat.le_of_ble_eq_true rfl) dX12_canFit_23) rfl rfl (fun x21 H locs M18 R19 J17 hS f15 g16 E20 => ?_)
    have eM18 := Fr.nil f15 rfl
    subst eM18
    have eR19 := Fr.nil g16 rfl
    subst eR19
    obtain ⟨h_x21, p22⟩ := E20
    refine lv_if_eq (tgt := 33) hx hb dX12_canFit_26 (by decide) (fun c23 => ?_) (fun c23 => ?_)
    · have q24 : x21.toInt = 0 := ti_eq c23
      have h25 : iv 0 0 x21 := ⟨by have := (h_x21).1; have := ((iv_c (c := 0) (n := 0) (by decide))).1; omega, by have := (h_x21).2; have := ((iv_c (c := 0) (n := 0) (by decide))).2; omega⟩
      refine lv_iconst (v := 0) hx hb dX12_canFit_33 (by decide) ?_
      exact tw_endz hx hb hr hlocks hK hT hS hQ rfl (⟨(iv_mono (iv_c (c := 0) (n := 0) (by decide)) (by decide) (by decide)), (fun h => absurd rfl h), (fun h => absurd rfl h)⟩) dX12_canFit_34
    · have q26 : ¬ x21.toInt = 0 := ti_ne c23
      have h27 : iv 1 1 x21 := ⟨by have := (h_x21).1; have := ((iv_c (c := 0) (n := 0) (by decide))).1; have := ((iv_c (c := 0) (n := 0) (by decide))).2; omega, by have := (h_x21).2; have := ((iv_c (c := 0) (n := 0) (by decide))).1; have := ((iv_c (c := 0) (n := 0) (by decide))).2; omega⟩
      have h28 : iv 1 6 a1 := in2iv (p22 c23) ((jv_c (x := 1) (n := 1) (by decide))).1 ((jv_c (x := 6) (n := 6) (by decide))).2
      refine lv_iconst (v := 1) hx hb dX12_canFit_29 (by decide) ?_
      refine lv_goto (tgt := 34) hx hb dX12_canFit_30 (by decide) ?_
      exact tw_endz hx hb hr hlocks hK hT hS hQ rfl (⟨(iv_mono (iv_c (c := 1) (n := 1) (by decide)) (by decide) (by decide)), (fun _ => h14), (fun _ => h28)⟩) dX12_canFit_34
def Lt_X12_canLose : WL := []
def LRt_X12_canLose : WL := []
set_option maxRecDepth 100000 in
set_option maxHeartbeats 4000000 in
theorem t_X12_canLose (l : Launch) (D : va_G) (cy : Nat → ClassId) (tx : (Nat → Nat) × (Nat → Nat)) (base Z : Nat) (K N : Nat → Nat) (Ma : MT) (Ra : RT) (Ja : JT) (hTy : Ty Z K N Ma Ra) (a0 : Nat) (hz_a0 : a0 < Z) (hk_a0 : K a0 = 12) (a1 : Int32) (h_a1 : iv (-2147483648) 2147483647 a1) : Met l yX12_canLose [Cond.code yX12_canLose cX12_canLose 2 (some .boolean)] (md_rm 2 0 0) (va_Pc [.ref (base + a0), .int a1] (md_U D cy tx base Z K N Ma Ra Ja)) (mQi D cy tx base (fun r u => TP Z K N Lt_X12_canLose LRt_X12_canLose Ma Ra u ∧ (iv 0 1 r))) 0 0 (fun q => base ≤ q) := by
  refine tw_ofW (L := Lt_X12_canLose) (LR := LRt_X12_canLose) (by decide) (Nat.le_of_ble_eq_true rfl) hTy ?_
  intro p e s m args below meth c Q ls hx hb hr hlocks hown hml hW hK hT hS hQ hl
  have hl : lv_has ls 2 [(0, .ref (base + a0)), (1, .int a1)] := hl
  refine lv_aload_n hx hb dX12_canLose_0 rfl (lv_at hl 0 rfl) ?_
  refine lv_iload_n hx hb dX12_canLose_1 rfl (lv_at hl 1 rfl) ?_
  refine tw_goi hS (md_runV (As := [.int a1]) (rest := []) hx hb hml hown hW hK hT hS.1 (t_X12_isSet l D cy tx base Z K N Ma Ra Ja hS.2.1 a0 hz_a0 hk_a0 a1 h_a1) s_X12_404 ⟨rfl, rfl, ⟨Nat.le_of_ble_eq_true rfl, Nat.le_of_ble_eq_true rfl⟩, ⟨Nat.le_of_ble_eq_true rfl, Nat.le_of_ble_eq_true rfl⟩⟩ hz_a0 hk_a0 (by decide) rfl rfl hl.1 rfl (Nat.le_of_ble_eq_true rfl) dX12_canLose_2) rfl rfl (fun x7 H locs M4 R5 J3 hS f1 g2 E6 => ?_)
  have eM4 := Fr.nil f1 rfl
  subst eM4
  have eR5 := Fr.nil g2 rfl
  subst eR5
  have h_x7 := E6
  refine lv_if_eq (tgt := 57) hx hb dX12_canLose_5 (by decide) (fun c8 => ?_) (fun c8 => ?_)
  · have q9 : x7.toInt = 0 := ti_eq c8
    have h10 : iv 0 0 x7 := ⟨by have := (h_x7).1; have := ((iv_c (c := 0) (n := 0) (by decide))).1; omega, by have := (h_x7).2; have := ((iv_c (c := 0) (n := 0) (by decide))).2; omega⟩
    refine lv_iconst (v := 0) hx hb dX12_canLose_57 (by decide) ?_
    exact tw_endz hx hb hr hlocks hK hT hS hQ rfl ((iv_mono (iv_c (c := 0) (n := 0) (by decide)) (by decide) (by decide))) dX12_canLose_58
  · have q11 : ¬ x7.toInt = 0 := ti_ne c8
    have h12 : iv 1 1 x7 := ⟨by have := (h_x7).1; have := ((iv_c (c := 0) (n := 0) (by decide))).1; have := ((iv_c (c := 0) (n := 0) (by decide))).2; omega, by have := (h_x7).2; have := ((iv_c (c := 0) (n := 0) (by decide))).1; have := ((iv_c (c := 0) (n := 0) (by decide))).2; omega⟩
    refine lv_iload_n hx hb dX12_canLose_8 rfl (lv_at hl 1 rfl) ?_
    refine tw_goi hS (md_runS (As := [.int a1]) (rest := []) hx hb hml hown hW hK hT hS.1 (t_X12_bits l D cy tx base Z K N Ma Ra J3 hS.2.1 a1 h_a1) s_X12_341 ⟨rfl, rfl, ⟨Nat.le_of_ble_eq_true rfl, Nat.le_of_ble_eq_true rfl⟩, ⟨Nat.le_of_ble_eq_true rfl, Nat.le_of_ble_eq_true rfl⟩⟩ rfl hl.1 rfl (Nat.le_of_ble_eq_true rfl) dX12_canLose_9) rfl rfl (fun x19 H locs M16 R17 J15 hS f13 g14 E18 => ?_)
    have eM16 := Fr.nil f13 rfl
    subst eM16
    have eR17 := Fr.nil g14 rfl
    subst eR17
    have h_x19 := E18
    refine lv_i2l hx hb dX12_canLose_12 rfl ?_
    refine lv_lconst (v := 1) hx hb dX12_canLose_13 (by decide) ?_
    refine lv_ldc2 hx hb hown (hW _ w_8_59 rfl) dX12_canLose_14 ?_
    refine tw_goi hS (md_runS (As := [.long x19.toInt64, .long 1, .long 3]) (rest := []) hx hb hml hown hW hK hT hS.1 (t_X12_in l D cy tx base Z K N Ma Ra J15 hS.2.1 (x19.toInt64) (1) (3)) s_X12_155 ⟨rfl, rfl, ⟨Nat.le_of_ble_eq_true rfl, Nat.le_of_ble_eq_true rfl⟩, ⟨Nat.le_of_ble_eq_true rfl, Nat.le_of_ble_eq_true rfl⟩⟩ rfl hl.1 rfl (Nat.le_of_ble_eq_true rfl) dX12_canLose_17) rfl rfl (fun x26 H locs M23 R24 J22 hS f20 g21 E25 => ?_)
    have eM23 := Fr.nil f20 rfl
    subst eM23
    have eR24 := Fr.nil g21 rfl
    subst eR24
    obtain ⟨h_x26, p27⟩ := E25
    refine lv_if_eq (tgt := 57) hx hb dX12_canLose_20 (by decide) (fun c28 => ?_) (fun c28 => ?_)
    · have q29 : x26.toInt = 0 := ti_eq c28
      have h30 : iv 0 0 x26 := ⟨by have := (h_x26).1; have := ((iv_c (c := 0) (n := 0) (by decide))).1; omega, by have := (h_x26).2; have := ((iv_c (c := 0) (n := 0) (by decide))).2; omega⟩
      refine lv_iconst (v := 0) hx hb dX12_canLose_57 (by decide) ?_
      exact tw_endz hx hb hr hlocks hK hT hS hQ rfl ((iv_mono (iv_c (c := 0) (n := 0) (by decide)) (by decide) (by decide))) dX12_canLose_58
    · have q31 : ¬ x26.toInt = 0 := ti_ne c28
      have h32 : iv 1 1 x26 := ⟨by have := (h_x26).1; have := ((iv_c (c := 0) (n := 0) (by decide))).1; have := ((iv_c (c := 0) (n := 0) (by decide))).2; omega, by have := (h_x26).2; have := ((iv_c (c := 0) (n := 0) (by decide))).1; have := ((iv_c (c := 0) (n := 0) (by decide))).2; omega⟩
      have h33 : iv 1 3 x19 := in2iv (p27 c28) ((jv_c (x := 1) (n := 1) (by decide))).1 ((jv_c (x := 3) (n := 3) (by decide))).2
      refine lv_iload_n hx hb dX12_canLose_23 rfl (lv_at hl 1 rfl) ?_
      refine lv_aload_n hx hb dX12_canLose_24 rfl (lv_at hl 0 rfl) ?_
      refine tw_getr hx hb hW hown hK hS f_X12_45_11 hz_a0 hk_a0 (t := 23) (n := 226) rfl dX12_canLose_25 (fun b34 k35 hz_b34 hk_b34 hn_b34 => ?_)
      have hn_b34 := hn_b34 (by decide)
      refine lv_iconst (v := 2) hx hb dX12_canLose_28 (by decide) ?_
      refine tw_iald hx hb hK hS hz_b34 hk_b34 (Or.inr (by decide)) hn_b34 (lo := (-2147483648)) (hi := 2147483647) (iv_c (c := 2) (n := 2) (by decide)) ⟨by decide, by decide⟩ (rg_c (k0 := 2) rfl rfl rfl) dX12_canLose_29 (fun x38 k37 h36 => ?_)
      refine lv_iconst (v := (-1)) hx hb dX12_canLose_30 (by decide) ?_
      refine lv_ixor hx hb dX12_canLose_31 ?_
      refine tw_top (fun x40 => ?_)
      have h39 := iv_any x40
      refine lv_iand hx hb dX12_canLose_32 ?_
      refine tw_top (fun x42 => ?_)
      have h41 := iv_any x42
      refine lv_if_ne (tgt := 57) hx hb dX12_canLose_33 (by decide) (fun c43 => ?_) (fun c43 => ?_)
      · have q44 : ¬ x42.toInt = 0 := ti_ne c43
        refine lv_iconst (v := 0) hx hb dX12_canLose_57 (by decide) ?_
        exact tw_endz hx hb hr hlocks hK hT hS hQ rfl ((iv_mono (iv_c (c := 0) (n := 0) (by decide)) (by decide) (by decide))) dX12_canLose_58
      · have q45 : x42.toInt = 0 := ti_eq c43
        have h46 : iv 0 0 x42 := ⟨by have := (h41).1; have := ((iv_c (c := 0) (n := 0) (by decide))).1; omega, by have := (h41).2; have := ((iv_c (c := 0) (n := 0) (by decide))).2; omega⟩
        refine lv_aload_n hx hb dX12_canLose_36 rfl (lv_at hl 0 rfl) ?_
        refine tw_getrk hx hb hW hown hK hS f_X12_45_11 hz_a0 hk_a0 (b := b34) k35 dX12_canLose_37 ?_
        refine lv_iconst (v := 4) hx hb dX12_canLose_40 (by decide) ?_
        refine tw_iald hx hb hK hS hz_b34 hk_b34 (Or.inr (by decide)) hn_b34 (lo := 0) (hi := 8) (iv_c (c := 4) (n := 4) (by decide)) ⟨by decide, by decide⟩ (rg_c (k0 := 4) rfl rfl rfl) dX12_canLose_41 (fun x49 k48 h47 => ?_)
        refine lv_i2l hx hb dX12_canLose_42 rfl ?_
        refine lv_lconst (v := 1) hx hb dX12_canLose_43 (by decide) ?_
        refine lv_ldc2 hx hb hown (hW _ w_7_141 rfl) dX12_canLose_44 ?_
        refine tw_goi hS (md_runS (As := [.long x49.toInt64, .long 1, .long 4]) (rest := []) hx hb hml hown hW hK hT hS.1 (t_X12_in l D cy tx base Z K N Ma Ra J22 hS.2.1 (x49.toInt64) (1) (4)) s_X12_155 ⟨rfl, rfl, ⟨Nat.le_of_ble_eq_true rfl, Nat.le_of_ble_eq_true rfl⟩, ⟨Nat.le_of_ble_eq_true rfl, Nat.le_of_ble_eq_true rfl⟩⟩ rfl hl.1 rfl (Nat.le_of_ble_eq_true rfl) dX12_canLose_47) rfl rfl (fun x56 H locs M53 R54 J52 hS f50 g51 E55 => ?_)
        have eM53 := Fr.nil f50 rfl
        subst eM53
        have eR54 := Fr.nil g51 rfl
        subst eR54
        obtain ⟨h_x56, p57⟩ := E55
        refine lv_if_eq (tgt := 57) hx hb dX12_canLose_50 (by decide) (fun c58 => ?_) (fun c58 => ?_)
        · have q59 : x56.toInt = 0 := ti_eq c58
          have h60 : iv 0 0 x56 := ⟨by have := (h_x56).1; have := ((iv_c (c := 0) (n := 0) (by decide))).1; omega, by have := (h_x56).2; have := ((iv_c (c := 0) (n := 0) (by decide))).2; omega⟩
          refine lv_iconst (v := 0) hx hb dX12_canLose_57 (by decide) ?_
          exact tw_endz hx hb hr hlocks hK hT hS hQ rfl ((iv_mono (iv_c (c := 0) (n := 0) (by decide)) (by decide) (by decide))) dX12_canLose_58
        · have q61 : ¬ x56.toInt = 0 := ti_ne c58
          have h62 : iv 1 1 x56 := ⟨by have := (h_x56).1; have := ((iv_c (c := 0) (n := 0) (by decide))).1; have := ((iv_c (c := 0) (n := 0) (by decide))).2; omega, by have := (h_x56).2; have := ((iv_c (c := 0) (n := 0) (by decide))).1; have := ((iv_c (c := 0) (n := 0) (by decide))).2; omega⟩
          have h63 : iv 1 4 x49 := in2iv (p57 c58) ((jv_c (x := 1) (n := 1) (by decide))).1 ((jv_c (x := 4) (n := 4) (by decide))).2
          refine lv_iconst (v := 1) hx hb dX12_canLose_53 (by decide) ?_
          refine lv_goto (tgt := 58) hx hb dX12_canLose_54 (by decide) ?_
          exact tw_endz hx hb hr hlocks hK hT hS hQ rfl ((iv_mono (iv_c (c := 1) (n := 1) (by decide)) (by decide) (by decide))) dX12_canLose_58
def Lt_X12_isAhead : WL := []
def LRt_X12_isAhead : WL := []
set_option maxRecDepth 100000 in
set_option maxHeartbeats 4000000 in
theorem t_X12_isAhead (l : Launch) (D : va_G) (cy : Nat → ClassId) (tx : (Nat → Nat) × (Nat → Nat)) (base Z : Nat) (K N : Nat → Nat) (Ma : MT) (Ra : RT) (Ja : JT) (hTy : Ty Z K N Ma Ra) (a0 : Nat) (hz_a0 : a0 < Z) (hk_a0 : K a0 = 12) (rm : Int32) (k_rm : Ma a0 30 = rm) (h_rm : iv 0 6 rm) : Met l yX12_isAhead [Cond.code yX12_isAhead cX12_isAhead 2 (some .boolean)] (md_rm 1 0 0) (va_Pc [.ref (base + a0)] (md_U D cy tx base Z K N Ma Ra Ja)) (mQi D cy tx base (fun r u => TP Z K N Lt_X12_isAhead LRt_X12_isAhead Ma Ra u ∧ (iv 0 1 r))) 0 0 (fun q => base ≤ q) := by
  refine tw_ofW (L := Lt_X12_isAhead) (LR := LRt_X12_isAhead) (by decide) (Nat.le_of_ble_eq_true rfl) hTy ?_
  intro p e s m args below meth c Q ls hx hb hr hlocks hown hml hW hK hT hS hQ hl
  have hl : lv_has ls 2 [(0, .ref (base + a0))] := hl
  refine lv_iconst (v := 0) hx hb dX12_isAhead_0 (by decide) ?_
  refine lv_istore_n (lv' := [(1, .int 0), (0, .ref (base + a0))]) hx hb dX12_isAhead_1 rfl hl (by decide) rfl (fun ls hl => ?_)
  have W2_2 : ∀ (n_2 : Nat) (x1 : Int32) (M2 : MT) (R3 : RT) (J4 : JT) (H : Heap) (locs : List Loc) (ls : Array Slot) (h_x1 : iv 0 6 x1) (hm_2 : 6 - x1.toInt < (n_2 : Int)) (hS : SB D cy base Z K N Lt_X12_isAhead LRt_X12_isAhead Ma Ra M2 R3 J4 s H locs) (hl : lv_has ls 2 [(1, .int x1), (0, .ref (base + a0))]), W p l e (md_rm 1 0 0) s m args below meth c H locs 0 0 Q (F0 m 2 ls []) := by
    intro n_2
    induction n_2 with
    | zero =>
      intro x1 M2 R3 J4 H locs ls h_x1 hm_2 hS hl
      exfalso
      have := (h_rm).1; have := (h_rm).2; have := (h_x1).1; have := (h_x1).2; omega
    | succ n_2 ih_2 =>
      intro x1 M2 R3 J4 H locs ls h_x1 hm_2 hS hl
      have f5 := hS.2.2.1
      have g6 := hS.2.2.2
      refine lv_iload_n hx hb dX12_isAhead_2 rfl (lv_at hl 0 rfl) ?_
      refine lv_aload_n hx hb dX12_isAhead_3 rfl (lv_at hl 1 rfl) ?_
      have k7 : M2 a0 30 = rm := (Fr.kp (k := 30) f5 hk_a0 rfl).trans k_rm
      refine tw_getk hx hb hW hown hK hS f_X12_351_11 hz_a0 hk_a0 (v := rm) k7 dX12_isAhead_4 ?_
      refine lv_icmp_ge (tgt := 52) hx hb dX12_isAhead_7 (by decide) (fun c8 => ?_) (fun c8 => ?_)
      · have q9 : rm.toInt ≤ x1.toInt := ti_le c8
        refine lv_iconst (v := 0) hx hb dX12_isAhead_52 (by decide) ?_
        exact tw_endz hx hb hr hlocks hK hT hS hQ rfl ((iv_mono (iv_c (c := 0) (n := 0) (by decide)) (by decide) (by decide))) dX12_isAhead_53
      · have q10 : x1.toInt < rm.toInt := ti_nle c8
        have h11 : iv 0 5 x1 := iv_ltL (y := rm) h_x1 h_rm q10 (by decide)
        have h12 : iv 1 6 rm := iv_gtL (y := x1) h_rm h_x1 q10 (by decide)
        refine lv_aload_n hx hb dX12_isAhead_10 rfl (lv_at hl 1 rfl) ?_
        refine tw_getr hx hb hW hown hK hS f_X12_54_11 hz_a0 hk_a0 (t := 31) (n := 8) rfl dX12_isAhead_11 (fun b13 k14 hz_b13 hk_b13 hn_b13 => ?_)
        have hn_b13 := hn_b13 (by decide)
        refine lv_iload_n hx hb dX12_isAhead_14 rfl (lv_at hl 0 rfl) ?_
        refine tw_iald hx hb hK hS hz_b13 hk_b13 (Or.inr (by decide)) hn_b13 (lo := 0) (hi := 11) h11 ⟨by decide, by decide⟩ rg_u31 dX12_isAhead_15 (fun x17 k16 h15 => ?_)
        refine lv_aload_n hx hb dX12_isAhead_16 rfl (lv_at hl 1 rfl) ?_
        refine tw_getr hx hb hW hown hK hS f_X12_87_11 hz_a0 hk_a0 (t := 14) (n := 6) rfl dX12_isAhead_17 (fun b18 k19 hz_b18 hk_b18 hn_b18 => ?_)
        have hn_b18 := hn_b18 (by decide)
        refine lv_iload_n hx hb dX12_isAhead_20 rfl (lv_at hl 0 rfl) ?_
        refine tw_iald hx hb hK hS hz_b18 hk_b18 (Or.inl rfl) hn_b18 (lo := (-2147483648)) (hi := 2147483647) h11 ⟨by decide, by decide⟩ rg_u14 dX12_isAhead_21 (fun x22 k21 h20 => ?_)
        refine lv_icmp_eq (tgt := 46) hx hb dX12_isAhead_22 (by decide) (fun c23 => ?_) (fun c23 => ?_)
        · have q24 : x17.toInt = x22.toInt := ti_eq c23
          have h25 : iv 0 11 x22 := ⟨by have := (h15).1; have := (h20).1; omega, by have := (h15).2; have := (h20).2; omega⟩
          refine tw_iinc (lv' := fun x28 => [(1, .int x28), (0, .ref (base + a0))]) (lo := 1) (hi := 6) hx hb dX12_isAhead_46 hl (k := 0) rfl h11 (by decide) ⟨by decide, by decide⟩ ⟨by decide, by decide⟩ (by decide) (fun _ => rfl) (fun x28 ls e27 h26 hl => ?_)
          refine lv_goto (tgt := 2) hx hb dX12_isAhead_49 (by decide) ?_
          have hm29 : 6 - x28.toInt < (n_2 : Int) := by
            have := (h12).1; have := (h12).2; have := (h11).1; have := (h11).2; have := (h26).1; have := (h26).2; omega
          exact ih_2 x28 M2 R3 J4 H locs _ (iv_mono h26 (by decide) (by decide)) hm29 hS hl
        · have q30 : ¬ x17.toInt = x22.toInt := ti_ne c23
          refine lv_aload_n hx hb dX12_isAhead_25 rfl (lv_at hl 1 rfl) ?_
          refine tw_getrk hx hb hW hown hK hS f_X12_54_11 hz_a0 hk_a0 (b := b13) k14 dX12_isAhead_26 ?_
          refine lv_iload_n hx hb dX12_isAhead_29 rfl (lv_at hl 0 rfl) ?_
          refine tw_ialk hx hb hK hS hz_b13 hk_b13 (Or.inr (by decide)) hn_b13 h11 ⟨by decide, by decide⟩ (v := x17) k16 dX12_isAhead_30 ?_
          refine lv_aload_n hx hb dX12_isAhead_31 rfl (lv_at hl 1 rfl) ?_
          refine tw_getrk hx hb hW hown hK hS f_X12_87_11 hz_a0 hk_a0 (b := b18) k19 dX12_isAhead_32 ?_
          refine lv_iload_n hx hb dX12_isAhead_35 rfl (lv_at hl 0 rfl) ?_
          refine tw_ialk hx hb hK hS hz_b18 hk_b18 (Or.inl rfl) hn_b18 h11 ⟨by decide, by decide⟩ (v := x22) k21 dX12_isAhead_36 ?_
          refine lv_icmp_ge (tgt := 44) hx hb dX12_isAhead_37 (by decide) (fun c31 => ?_) (fun c31 => ?_)
          · have q32 : x22.toInt ≤ x17.toInt := ti_le c31
            have h33 : iv (-2147483648) 11 x22 := iv_leL (y := x17) h20 h15 q32 (by decide)
            refine lv_iconst (v := 0) hx hb dX12_isAhead_44 (by decide) ?_
            exact tw_endz hx hb hr hlocks hK hT hS hQ rfl ((iv_mono (iv_c (c := 0) (n := 0) (by decide)) (by decide) (by decide))) dX12_isAhead_45
          · have q34 : x17.toInt < x22.toInt := ti_nle c31
            have h35 : iv 1 2147483647 x22 := iv_gtL (y := x17) h20 h15 q34 (by decide)
            refine lv_iconst (v := 1) hx hb dX12_isAhead_40 (by decide) ?_
            refine lv_goto (tgt := 45) hx hb dX12_isAhead_41 (by decide) ?_
            exact tw_endz hx hb hr hlocks hK hT hS hQ rfl ((iv_mono (iv_c (c := 1) (n := 1) (by decide)) (by decide) (by decide))) dX12_isAhead_45
  have hm36 : 6 - (0 : Int32).toInt < (((7 : Nat) : Int) : Int) := by
    have := (h_rm).1; have := (h_rm).2; have : (0 : Int32).toInt = 0 := (by decide); omega
  exact W2_2 7 0 Ma Ra Ja s.heap [] _ (iv_mono (iv_c (c := 0) (n := 0) (by decide)) (by decide) (by decide)) hm36 hS hl
def Lt_X12_isRow : WL := [(33, 0, 2000000)]
def LRt_X12_isRow : WL := []
set_option maxRecDepth 100000 in
set_option maxHeartbeats 4000000 in
theorem t_X12_isRow (l : Launch) (D : va_G) (cy : Nat → ClassId) (tx : (Nat → Nat) × (Nat → Nat)) (base Z : Nat) (K N : Nat → Nat) (Ma : MT) (Ra : RT) (Ja : JT) (hTy : Ty Z K N Ma Ra) (a0 : Nat) (hz_a0 : a0 < Z) (hk_a0 : K a0 = 12) (a1 : Int32) (h_a1 : iv 0 2147483647 a1) (a2 : Int32) (h_a2 : iv 1 6 a2) : Met l yX12_isRow [Cond.code yX12_isRow cX12_isRow 6 (some .boolean)] (md_rm 1 0 0) (va_Pc [.ref (base + a0), .int a1, .int a2] (md_U D cy tx base Z K N Ma Ra Ja)) (mQi D cy tx base (fun r u => TP Z K N Lt_X12_isRow LRt_X12_isRow Ma Ra u ∧ (iv 0 1 r))) 0 0 (fun q => base ≤ q) := by
  refine tw_ofW (L := Lt_X12_isRow) (LR := LRt_X12_isRow) (by decide) (Nat.le_of_ble_eq_true rfl) hTy ?_
  intro p e s m args below meth c Q ls hx hb hr hlocks hown hml hW hK hT hS hQ hl
  have hl : lv_has ls 6 [(0, .ref (base + a0)), (1, .int a1), (2, .int a2)] := hl
  refine lv_iload_n hx hb dX12_isRow_0 rfl (lv_at hl 1 rfl) ?_
  refine lv_istore_n (lv' := [(3, .int a1), (0, .ref (base + a0)), (1, .int a1), (2, .int a2)]) hx hb dX12_isRow_1 rfl hl (by decide) rfl (fun ls hl => ?_)
  refine lv_iconst (v := 0) hx hb dX12_isRow_2 (by decide) ?_
  refine lv_istore (lv' := [(4, .int 0), (3, .int a1), (0, .ref (base + a0)), (1, .int a1), (2, .int a2)]) hx hb dX12_isRow_3 hl (by decide) rfl (fun ls hl => ?_)
  refine lv_iload_n hx hb dX12_isRow_5 rfl (lv_at hl 4 rfl) ?_
  refine lv_iconst (v := 1) hx hb dX12_isRow_6 (by decide) ?_
  refine tw_isub (lo := 0) (hi := 5) hx hb h_a2 (iv_c (c := 1) (n := 1) (by decide)) ⟨by decide, by decide⟩ ⟨by decide, by decide⟩ dX12_isRow_7 (fun x3 e2 h1 => ?_)
  have e2 : x3.toInt = a2.toInt - 1 := e2
  refine lv_istore (lv' := [(5, .int x3), (4, .int 0), (3, .int a1), (0, .ref (base + a0)), (1, .int a1), (2, .int a2)]) hx hb dX12_isRow_8 hl (by decide) rfl (fun ls hl => ?_)
  have W10_7 : ∀ (n_7 : Nat) (x4 : Int32) (x5 : Int32) (x6 : Int32) (M7 : MT) (R8 : RT) (J9 : JT) (H : Heap) (locs : List Loc) (ls : Array Slot) (h_x4 : iv 0 2147483647 x4) (h_x5 : iv (-2147483648) 2147483647 x5) (h_x6 : iv (-1) 5 x6) (hm_7 : x6.toInt - (-1) < (n_7 : Int)) (hS : SB D cy base Z K N Lt_X12_isRow LRt_X12_isRow Ma Ra M7 R8 J9 s H locs) (hl : lv_has ls 6 [(3, .int x4), (4, .int x5), (5, .int x6), (0, .ref (base + a0)), (1, .int a1), (2, .int a2)]), W p l e (md_rm 1 0 0) s m args below meth c H locs 0 0 Q (F0 m 10 ls []) := by
    intro n_7
    induction n_7 with
    | zero =>
      intro x4 x5 x6 M7 R8 J9 H locs ls h_x4 h_x5 h_x6 hm_7 hS hl
      exfalso
      have := (h_a1).1; have := (h_a1).2; have := (h_a2).1; have := (h_a2).2; have := (h_x6).1; have := (h_x6).2; omega
    | succ n_7 ih_7 =>
      intro x4 x5 x6 M7 R8 J9 H locs ls h_x4 h_x5 h_x6 hm_7 hS hl
      have f10 := hS.2.2.1
      have g11 := hS.2.2.2
      refine lv_iload hx hb dX12_isRow_10 (lv_at hl 2 rfl) ?_
      refine lv_if_lt (tgt := 49) hx hb dX12_isRow_12 (by decide) (fun c12 => ?_) (fun c12 => ?_)
      · have q13 : x6.toInt < 0 := ti_lt c12
        have h14 : iv (-1) (-1) x6 := iv_ltL (y := 0) h_x6 (iv_c (c := 0) (n := 0) (by decide)) q13 (by decide)
        refine lv_iload hx hb dX12_isRow_49 (lv_at hl 1 rfl) ?_
        refine lv_iconst (v := 1) hx hb dX12_isRow_51 (by decide) ?_
        refine lv_iload_n hx hb dX12_isRow_52 rfl (lv_at hl 5 rfl) ?_
        refine lv_ishl hx hb dX12_isRow_53 ?_
        refine tw_top (fun x16 => ?_)
        have h15 := iv_any x16
        refine lv_iconst (v := 1) hx hb dX12_isRow_54 (by decide) ?_
        refine lv_isub hx hb dX12_isRow_55 ?_
        refine tw_top (fun x18 => ?_)
        have h17 := iv_any x18
        refine lv_icmp_ne (tgt := 63) hx hb dX12_isRow_56 (by decide) (fun c19 => ?_) (fun c19 => ?_)
        · have q20 : ¬ x5.toInt = x18.toInt := ti_ne c19
          refine lv_iconst (v := 0) hx hb dX12_isRow_63 (by decide) ?_
          exact tw_endz hx hb hr hlocks hK hT hS hQ rfl ((iv_mono (iv_c (c := 0) (n := 0) (by decide)) (by decide) (by decide))) dX12_isRow_64
        · have q21 : x5.toInt = x18.toInt := ti_eq c19
          refine lv_iconst (v := 1) hx hb dX12_isRow_59 (by decide) ?_
          refine lv_goto (tgt := 64) hx hb dX12_isRow_60 (by decide) ?_
          exact tw_endz hx hb hr hlocks hK hT hS hQ rfl ((iv_mono (iv_c (c := 1) (n := 1) (by decide)) (by decide) (by decide))) dX12_isRow_64
      · have q22 : 0 ≤ x6.toInt := ti_nlt c12
        have h23 : iv 0 5 x6 := iv_geL (y := 0) h_x6 (iv_c (c := 0) (n := 0) (by decide)) q22 (by decide)
        refine lv_aload_n hx hb dX12_isRow_15 rfl (lv_at hl 3 rfl) ?_
        refine tw_getr hx hb hW hown hK hS f_X12_90_11 hz_a0 hk_a0 (t := 33) (n := 6) rfl dX12_isRow_16 (fun b24 k25 hz_b24 hk_b24 hn_b24 => ?_)
        have hn_b24 := hn_b24 (by decide)
        refine lv_iload hx hb dX12_isRow_19 (lv_at hl 2 rfl) ?_
        refine lv_iload_n hx hb dX12_isRow_21 rfl (lv_at hl 0 rfl) ?_
        refine lv_iload_n hx hb dX12_isRow_22 rfl (lv_at hl 5 rfl) ?_
        refine tw_irem (lo := 0) (hi := 5) hx hb h_x4 h_a2 ⟨by decide, by decide⟩ ⟨by decide, by decide⟩ dX12_isRow_23 (fun x28 e27 h26 => ?_)
        refine tw_iast hx hb hK hS hz_b24 hk_b24 (Or.inr (by decide)) hn_b24 h23 ⟨by decide, by decide⟩ h26 (rg_s33 ⟨by decide, by decide⟩) (jl := 0) (jh := 1999999) ⟨by decide, by decide⟩ rfl dX12_isRow_24 (fun H locs M31 hS k29 f30 => ?_)
        refine lv_iload_n hx hb dX12_isRow_25 rfl (lv_at hl 0 rfl) ?_
        refine lv_iload_n hx hb dX12_isRow_26 rfl (lv_at hl 5 rfl) ?_
        refine tw_idiv (lo := 0) (hi := 2147483647) hx hb h_x4 h_a2 ⟨by decide, by decide⟩ ⟨by decide, by decide⟩ dX12_isRow_27 (fun x34 e33 h32 => ?_)
        refine lv_istore_n (lv' := [(3, .int x34), (4, .int x5), (5, .int x6), (0, .ref (base + a0)), (1, .int a1), (2, .int a2)]) hx hb dX12_isRow_28 rfl hl (by decide) rfl (fun ls hl => ?_)
        refine lv_iload hx hb dX12_isRow_29 (lv_at hl 1 rfl) ?_
        refine lv_iconst (v := 1) hx hb dX12_isRow_31 (by decide) ?_
        refine lv_aload_n hx hb dX12_isRow_32 rfl (lv_at hl 3 rfl) ?_
        refine tw_getrk hx hb hW hown hK hS f_X12_90_11 hz_a0 hk_a0 (b := b24) k25 dX12_isRow_33 ?_
        refine lv_iload hx hb dX12_isRow_36 (lv_at hl 2 rfl) ?_
        refine tw_ialk hx hb hK hS hz_b24 hk_b24 (Or.inr (by decide)) hn_b24 h23 ⟨by decide, by decide⟩ (v := x28) k29 dX12_isRow_38 ?_
        refine lv_ishl hx hb dX12_isRow_39 ?_
        refine tw_top (fun x36 => ?_)
        have h35 := iv_any x36
        refine lv_ior hx hb dX12_isRow_40 ?_
        refine tw_top (fun x38 => ?_)
        have h37 := iv_any x38
        refine lv_istore (lv' := [(4, .int x38), (3, .int x34), (5, .int x6), (0, .ref (base + a0)), (1, .int a1), (2, .int a2)]) hx hb dX12_isRow_41 hl (by decide) rfl (fun ls hl => ?_)
        refine tw_iinc (lv' := fun x41 => [(5, .int x41), (4, .int x38), (3, .int x34), (0, .ref (base + a0)), (1, .int a1), (2, .int a2)]) (lo := (-1)) (hi := 4) hx hb dX12_isRow_43 hl (k := 2) rfl h23 (by decide) ⟨by decide, by decide⟩ ⟨by decide, by decide⟩ (by decide) (fun _ => rfl) (fun x41 ls e40 h39 hl => ?_)
        refine lv_goto (tgt := 10) hx hb dX12_isRow_46 (by decide) ?_
        have hm42 : x41.toInt - (-1) < (n_7 : Int) := by
          have := (h_a1).1; have := (h_a1).2; have := (h_a2).1; have := (h_a2).2; have := (h39).1; have := (h39).2; have := (h23).1; have := (h23).2; omega
        exact ih_7 x34 x38 x41 M31 R8 J9 H locs _ h32 h37 (iv_mono h39 (by decide) (by decide)) hm42 hS (lv_sub hl [2, 1, 0, 3, 4, 5] rfl)
  have hm43 : x3.toInt - (-1) < (((7 : Nat) : Int) : Int) := by
    have := (h_a1).1; have := (h_a1).2; have := (h_a2).1; have := (h_a2).2; have := (h1).1; have := (h1).2; omega
  exact W10_7 7 a1 0 x3 Ma Ra Ja s.heap [] _ h_a1 (iv_mono (iv_c (c := 0) (n := 0) (by decide)) (by decide) (by decide)) (iv_mono h1 (by decide) (by decide)) hm43 hS (lv_sub hl [2, 1, 0, 3, 4, 5] rfl)
def Lt_X12_counts : WL := [(12, 35, 37)]
def LRt_X12_counts : WL := []
set_option maxRecDepth 100000 in
set_option maxHeartbeats 4000000 in
theorem t_X12_counts (l : Launch) (D : va_G) (cy : Nat → ClassId) (tx : (Nat → Nat) × (Nat → Nat)) (base Z : Nat) (K N : Nat → Nat) (Ma : MT) (Ra : RT) (Ja : JT) (hTy : Ty Z K N Ma Ra) (a0 : Nat) (hz_a0 : a0 < Z) (hk_a0 : K a0 = 12) (a1 : Int32) (h_a1 : iv 0 9 a1) (a2 : Int32) (h_a2 : iv 0 11 a2) (a3 : Int32) (h_a3 : iv 0 2 a3) : Met l yX12_counts [Cond.code yX12_counts cX12_counts 4 none] (md_rm 2 0 0) (va_Pc [.ref (base + a0), .int a1, .int a2, .int a3] (md_U D cy tx base Z K N Ma Ra Ja)) (mQv D cy tx base (fun u => TP Z K N Lt_X12_counts LRt_X12_counts Ma Ra u ∧ (True))) 0 0 (fun q => base ≤ q) := by
  refine tw_ofW (L := Lt_X12_counts) (LR := LRt_X12_counts) (by decide) (Nat.le_of_ble_eq_true rfl) hTy ?_
  intro p e s m args below meth c Q ls hx hb hr hlocks hown hml hW hK hT hS hQ hl
  have hl : lv_has ls 4 [(0, .ref (base + a0)), (1, .int a1), (2, .int a2), (3, .int a3)] := hl
  refine lv_iload_n hx hb dX12_counts_0 rfl (lv_at hl 3 rfl) ?_
  refine lv_iconst (v := 1) hx hb dX12_counts_1 (by decide) ?_
  refine lv_icmp_eq (tgt := 6) hx hb dX12_counts_2 (by decide) (fun c1 => ?_) (fun c1 => ?_)
  · have q2 : a3.toInt = 1 := ti_eq c1
    have h3 : iv 1 1 a3 := ⟨by have := (h_a3).1; have := ((iv_c (c := 1) (n := 1) (by decide))).1; omega, by have := (h_a3).2; have := ((iv_c (c := 1) (n := 1) (by decide))).2; omega⟩
    refine lv_aload_n hx hb dX12_counts_6 rfl (lv_at hl 0 rfl) ?_
    refine lv_dup hx hb dX12_counts_7 rfl ?_
    refine tw_geti hx hb hW hown hK hS f_X12_407_11 hz_a0 hk_a0 (lo := (-2147483648)) (hi := 2147483647) rfl dX12_counts_8 (fun x6 k5 h4 => ?_)
    refine lv_iconst (v := 1) hx hb dX12_counts_11 (by decide) ?_
    refine lv_iadd hx hb dX12_counts_12 ?_
    refine tw_top (fun x8 => ?_)
    have h7 := iv_any x8
    refine tw_puti hx hb hW hown hK hS f_X12_407_11 hz_a0 hk_a0 rfl rfl (lo := (-2147483648)) (hi := 2147483647) rfl h7 rfl dX12_counts_13 (fun H locs M11 hS k9 f10 => ?_)
    refine lv_aload_n hx hb dX12_counts_16 rfl (lv_at hl 0 rfl) ?_
    refine lv_dup hx hb dX12_counts_17 rfl ?_
    refine tw_geti hx hb hW hown hK hS f_X12_410_11 hz_a0 hk_a0 (lo := (-2147483648)) (hi := 2147483647) rfl dX12_counts_18 (fun x14 k13 h12 => ?_)
    refine lv_aload_n hx hb dX12_counts_21 rfl (lv_at hl 0 rfl) ?_
    refine lv_iload_n hx hb dX12_counts_22 rfl (lv_at hl 1 rfl) ?_
    refine lv_iload_n hx hb dX12_counts_23 rfl (lv_at hl 2 rfl) ?_
    refine tw_goi hS (md_runV (As := [.int a1, .int a2]) (rest := [.int x14, .ref (base + a0)]) hx hb hml hown hW hK hT hS.1 (t_X12_worthOf l D cy tx base Z K N M11 Ra Ja hS.2.1 a0 hz_a0 hk_a0 a1 h_a1 a2 h_a2) s_X12_330 ⟨rfl, rfl, ⟨Nat.le_of_ble_eq_true rfl, Nat.le_of_ble_eq_true rfl⟩, ⟨Nat.le_of_ble_eq_true rfl, Nat.le_of_ble_eq_true rfl⟩⟩ hz_a0 hk_a0 (by decide) rfl rfl hl.1 rfl (Nat.le_of_ble_eq_true rfl) dX12_counts_24) rfl rfl (fun x21 H locs M18 R19 J17 hS f15 g16 E20 => ?_)
    have eM18 := Fr.nil f15 rfl
    subst eM18
    have eR19 := Fr.nil g16 rfl
    subst eR19
    have h_x21 := E20
    refine lv_iadd hx hb dX12_counts_27 ?_
    refine tw_top (fun x23 => ?_)
    have h22 := iv_any x23
    refine tw_puti hx hb hW hown hK hS f_X12_410_11 hz_a0 hk_a0 rfl rfl (lo := (-2147483648)) (hi := 2147483647) rfl h22 rfl dX12_counts_28 (fun H locs M26 hS k24 f25 => ?_)
    exact tw_endv hx hb hr hlocks hK hT hS hQ (trivial) dX12_counts_31
  · have q27 : ¬ a3.toInt = 1 := ti_ne c1
    exact tw_endv hx hb hr hlocks hK hT hS hQ (trivial) dX12_counts_5
def Lt_X12_passes : WL := [(12, 23, 24), (12, 28, 29), (12, 31, 33), (12, 35, 37), (14, 0, 2000000), (30, 0, 2000000)]
def LRt_X12_passes : WL := []
set_option maxRecDepth 100000 in
set_option maxHeartbeats 4000000 in
theorem t_X12_passes (l : Launch) (D : va_G) (cy : Nat → ClassId) (tx : (Nat → Nat) × (Nat → Nat)) (base Z : Nat) (K N : Nat → Nat) (Ma : MT) (Ra : RT) (Ja : JT) (hTy : Ty Z K N Ma Ra) (a0 : Nat) (hz_a0 : a0 < Z) (hk_a0 : K a0 = 12) (a1 : Int32) (h_a1 : iv 0 9 a1) (co_a0 : Codes Ma Ra a0) : Met l yX12_passes [Cond.code yX12_passes cX12_passes 3 none] (md_rm 5 0 0) (va_Pc [.ref (base + a0), .int a1] (md_U D cy tx base Z K N Ma Ra Ja)) (mQv D cy tx base (fun u => TP Z K N Lt_X12_passes LRt_X12_passes Ma Ra u ∧ (True))) 0 0 (fun q => base ≤ q) := by
  refine tw_ofW (L := Lt_X12_passes) (LR := LRt_X12_passes) (by decide) (Nat.le_of_ble_eq_true rfl) hTy ?_
  intro p e s m args below meth c Q ls hx hb hr hlocks hown hml hW hK hT hS hQ hl
  have hl : lv_has ls 3 [(0, .ref (base + a0)), (1, .int a1)] := hl
  refine lv_iconst (v := 0) hx hb dX12_passes_0 (by decide) ?_
  refine lv_istore_n (lv' := [(2, .int 0), (0, .ref (base + a0)), (1, .int a1)]) hx hb dX12_passes_1 rfl hl (by decide) rfl (fun ls hl => ?_)
  have W2_2 : ∀ (n_2 : Nat) (x1 : Int32) (M2 : MT) (R3 : RT) (J4 : JT) (H : Heap) (locs : List Loc) (ls : Array Slot) (h_x1 : iv 0 8 x1) (hm_2 : 8 - x1.toInt < (n_2 : Int)) (hS : SB D cy base Z K N Lt_X12_passes LRt_X12_passes Ma Ra M2 R3 J4 s H locs) (hl : lv_has ls 3 [(2, .int x1), (0, .ref (base + a0)), (1, .int a1)]), W p l e (md_rm 5 0 0) s m args below meth c H locs 0 0 Q (F0 m 2 ls []) := by
    intro n_2
    induction n_2 with
    | zero =>
      intro x1 M2 R3 J4 H locs ls h_x1 hm_2 hS hl
      exfalso
      have := (h_a1).1; have := (h_a1).2; have := (h_x1).1; have := (h_x1).2; omega
    | succ n_2 ih_2 =>
      intro x1 M2 R3 J4 H locs ls h_x1 hm_2 hS hl
      have f5 := hS.2.2.1
      have g6 := hS.2.2.2
      refine lv_iload_n hx hb dX12_passes_2 rfl (lv_at hl 0 rfl) ?_
      refine lv_aload_n hx hb dX12_passes_3 rfl (lv_at hl 1 rfl) ?_
      refine tw_geti hx hb hW hown hK hS f_X12_351_11 hz_a0 hk_a0 (lo := 0) (hi := 8) rfl dX12_passes_4 (fun x9 k8 h7 => ?_)
      refine lv_icmp_ge (tgt := 42) hx hb dX12_passes_7 (by decide) (fun c10 => ?_) (fun c10 => ?_)
      · have q11 : x9.toInt ≤ x1.toInt := ti_le c10
        exact tw_endv hx hb hr hlocks hK hT hS hQ (trivial) dX12_passes_42
      · have q12 : x1.toInt < x9.toInt := ti_nle c10
        have h13 : iv 0 7 x1 := iv_ltL (y := x9) h_x1 h7 q12 (by decide)
        have h14 : iv 1 8 x9 := iv_gtL (y := x1) h7 h_x1 q12 (by decide)
        refine lv_aload_n hx hb dX12_passes_10 rfl (lv_at hl 1 rfl) ?_
        refine lv_aload_n hx hb dX12_passes_11 rfl (lv_at hl 1 rfl) ?_
        refine tw_getr hx hb hW hown hK hS f_X12_54_11 hz_a0 hk_a0 (t := 31) (n := 8) rfl dX12_passes_12 (fun b15 k16 hz_b15 hk_b15 hn_b15 => ?_)
        have hn_b15 := hn_b15 (by decide)
        refine lv_iload_n hx hb dX12_passes_15 rfl (lv_at hl 0 rfl) ?_
        refine tw_iald hx hb hK hS hz_b15 hk_b15 (Or.inr (by decide)) hn_b15 (lo := 0) (hi := 11) h13 ⟨by decide, by decide⟩ rg_u31 dX12_passes_16 (fun x19 k18 h17 => ?_)
        refine lv_iload_n hx hb dX12_passes_17 rfl (lv_at hl 0 rfl) ?_
        refine tw_gov hS (md_runV (As := [.int x19, .int x1]) (rest := []) hx hb hml hown hW hK hT hS.1 (t_X12_asks l D cy tx base Z K N M2 R3 J4 hS.2.1 a0 hz_a0 hk_a0 x19 h17 x1 (iv_mono h13 (by decide) (by decide)) (Codes.fr co_a0 hTy hz_a0 hk_a0 hS.2.2.1 hS.2.2.2 rfl)) s_X12_396 ⟨rfl, rfl, ⟨Nat.le_of_ble_eq_true rfl, Nat.le_of_ble_eq_true rfl⟩, ⟨Nat.le_of_ble_eq_true rfl, Nat.le_of_ble_eq_true rfl⟩⟩ hz_a0 hk_a0 (by decide) rfl rfl hl.1 rfl (Nat.le_of_ble_eq_true rfl) dX12_passes_18) rfl rfl (fun H locs M23 R24 J22 hS f20 g21 E25 => ?_)
        have eR24 := Fr.nil g21 rfl
        subst eR24
        refine lv_aload_n hx hb dX12_passes_21 rfl (lv_at hl 1 rfl) ?_
        refine lv_iload_n hx hb dX12_passes_22 rfl (lv_at hl 2 rfl) ?_
        refine lv_aload_n hx hb dX12_passes_23 rfl (lv_at hl 1 rfl) ?_
        refine tw_getrk hx hb hW hown hK hS f_X12_54_11 hz_a0 hk_a0 (b := b15) k16 dX12_passes_24 ?_
        refine lv_iload_n hx hb dX12_passes_27 rfl (lv_at hl 0 rfl) ?_
        have k26 : M23 b15 x1.toNatClampNeg = x19 := (Fr.kpa f20 hk_b15 rfl x1.toNatClampNeg).trans k18
        refine tw_ialk hx hb hK hS hz_b15 hk_b15 (Or.inr (by decide)) hn_b15 h13 ⟨by decide, by decide⟩ (v := x19) k26 dX12_passes_28 ?_
        refine lv_aload_n hx hb dX12_passes_29 rfl (lv_at hl 1 rfl) ?_
        refine tw_goi hS (md_runV (As := []) (rest := [.int x19, .int a1, .ref (base + a0)]) hx hb hml hown hW hK hT hS.1 (t_X12_settles_ l D cy tx base Z K N M23 R3 J22 hS.2.1 a0 hz_a0 hk_a0) s_X12_399 ⟨rfl, rfl, ⟨Nat.le_of_ble_eq_true rfl, Nat.le_of_ble_eq_true rfl⟩, ⟨Nat.le_of_ble_eq_true rfl, Nat.le_of_ble_eq_true rfl⟩⟩ hz_a0 hk_a0 (by decide) rfl rfl hl.1 rfl (Nat.le_of_ble_eq_true rfl) dX12_passes_30) rfl rfl (fun x33 H locs M30 R31 J29 hS f27 g28 E32 => ?_)
        have eR31 := Fr.nil g28 rfl
        subst eR31
        have h_x33 := E32
        refine tw_gov hS (md_runV (As := [.int a1, .int x19, .int x33]) (rest := []) hx hb hml hown hW hK hT hS.1 (t_X12_counts l D cy tx base Z K N M30 R3 J29 hS.2.1 a0 hz_a0 hk_a0 a1 h_a1 x19 h17 x33 h_x33) s_X12_413 ⟨rfl, rfl, ⟨Nat.le_of_ble_eq_true rfl, Nat.le_of_ble_eq_true rfl⟩, ⟨Nat.le_of_ble_eq_true rfl, Nat.le_of_ble_eq_true rfl⟩⟩ hz_a0 hk_a0 (by decide) rfl rfl hl.1 rfl (Nat.le_of_ble_eq_true rfl) dX12_passes_33) rfl rfl (fun H locs M37 R38 J36 hS f34 g35 E39 => ?_)
        have eR38 := Fr.nil g35 rfl
        subst eR38
        refine tw_iinc (lv' := fun x42 => [(2, .int x42), (0, .ref (base + a0)), (1, .int a1)]) (lo := 1) (hi := 8) hx hb dX12_passes_36 hl (k := 0) rfl h13 (by decide) ⟨by decide, by decide⟩ ⟨by decide, by decide⟩ (by decide) (fun _ => rfl) (fun x42 ls e41 h40 hl => ?_)
        refine lv_goto (tgt := 2) hx hb dX12_passes_39 (by decide) ?_
        have hm43 : 8 - x42.toInt < (n_2 : Int) := by
          have := (h_a1).1; have := (h_a1).2; have := (h13).1; have := (h13).2; have := (h40).1; have := (h40).2; omega
        exact ih_2 x42 M37 R3 J36 H locs _ (iv_mono h40 (by decide) (by decide)) hm43 hS hl
  have hm44 : 8 - (0 : Int32).toInt < (((9 : Nat) : Int) : Int) := by
    have := (h_a1).1; have := (h_a1).2; have : (0 : Int32).toInt = 0 := (by decide); omega
  exact W2_2 9 0 Ma Ra Ja s.heap [] _ (iv_mono (iv_c (c := 0) (n := 0) (by decide)) (by decide) (by decide)) hm44 hS hl
def Lt_X12_comesTo : WL := [(12, 23, 24), (12, 28, 29), (12, 31, 33), (14, 0, 2000000), (36, 0, 2000000), (41, 0, 2000000)]
def LRt_X12_comesTo : WL := []
set_option maxRecDepth 100000 in
set_option maxHeartbeats 4000000 in
theorem t_X12_comesTo (l : Launch) (D : va_G) (cy : Nat → ClassId) (tx : (Nat → Nat) × (Nat → Nat)) (base Z : Nat) (K N : Nat → Nat) (Ma : MT) (Ra : RT) (Ja : JT) (hTy : Ty Z K N Ma Ra) (a0 : Nat) (hz_a0 : a0 < Z) (hk_a0 : K a0 = 12) (a1 : Int32) (h_a1 : iv 0 0 a1) (co_a0 : Codes Ma Ra a0) : Met l yX12_comesTo [Cond.code yX12_comesTo cX12_comesTo 3 none] (md_rm 5 0 0) (va_Pc [.ref (base + a0), .int a1] (md_U D cy tx base Z K N Ma Ra Ja)) (mQv D cy tx base (fun u => TP Z K N Lt_X12_comesTo LRt_X12_comesTo Ma Ra u ∧ (True))) 0 0 (fun q => base ≤ q) := by
  refine tw_ofW (L := Lt_X12_comesTo) (LR := LRt_X12_comesTo) (by decide) (Nat.le_of_ble_eq_true rfl) hTy ?_
  intro p e s m args below meth c Q ls hx hb hr hlocks hown hml hW hK hT hS hQ hl
  have hl : lv_has ls 3 [(0, .ref (base + a0)), (1, .int a1)] := hl
  refine lv_iconst (v := 0) hx hb dX12_comesTo_0 (by decide) ?_
  refine lv_istore_n (lv' := [(2, .int 0), (0, .ref (base + a0)), (1, .int a1)]) hx hb dX12_comesTo_1 rfl hl (by decide) rfl (fun ls hl => ?_)
  have W2_2 : ∀ (n_2 : Nat) (x1 : Int32) (M2 : MT) (R3 : RT) (J4 : JT) (H : Heap) (locs : List Loc) (ls : Array Slot) (h_x1 : iv 0 10 x1) (hm_2 : 10 - x1.toInt < (n_2 : Int)) (hS : SB D cy base Z K N Lt_X12_comesTo LRt_X12_comesTo Ma Ra M2 R3 J4 s H locs) (hl : lv_has ls 3 [(2, .int x1), (0, .ref (base + a0)), (1, .int a1)]), W p l e (md_rm 5 0 0) s m args below meth c H locs 0 0 Q (F0 m 2 ls []) := by
    intro n_2
    induction n_2 with
    | zero =>
      intro x1 M2 R3 J4 H locs ls h_x1 hm_2 hS hl
      exfalso
      have := (h_a1).1; have := (h_a1).2; have := (h_x1).1; have := (h_x1).2; omega
    | succ n_2 ih_2 =>
      intro x1 M2 R3 J4 H locs ls h_x1 hm_2 hS hl
      have f5 := hS.2.2.1
      have g6 := hS.2.2.2
      refine lv_iload_n hx hb dX12_comesTo_2 rfl (lv_at hl 0 rfl) ?_
      refine lv_bipush (v := 10) hx hb dX12_comesTo_3 (by decide) ?_
      refine lv_icmp_ge (tgt := 31) hx hb dX12_comesTo_5 (by decide) (fun c7 => ?_) (fun c7 => ?_)
      · have q8 : 10 ≤ x1.toInt := ti_le c7
        have h9 : iv 10 10 x1 := iv_geL (y := 10) h_x1 (iv_c (c := 10) (n := 10) (by decide)) q8 (by decide)
        refine lv_aload_n hx hb dX12_comesTo_31 rfl (lv_at hl 1 rfl) ?_
        refine lv_aload_n hx hb dX12_comesTo_32 rfl (lv_at hl 1 rfl) ?_
        refine tw_getr hx hb hW hown hK hS f_X12_45_11 hz_a0 hk_a0 (t := 23) (n := 226) rfl dX12_comesTo_33 (fun b10 k11 hz_b10 hk_b10 hn_b10 => ?_)
        have hn_b10 := hn_b10 (by decide)
        refine lv_iconst (v := 3) hx hb dX12_comesTo_36 (by decide) ?_
        refine tw_iald hx hb hK hS hz_b10 hk_b10 (Or.inr (by decide)) hn_b10 (lo := (-2147483648)) (hi := 2147483647) (iv_c (c := 3) (n := 3) (by decide)) ⟨by decide, by decide⟩ (rg_c (k0 := 3) rfl rfl rfl) dX12_comesTo_37 (fun x14 k13 h12 => ?_)
        refine lv_iload_n hx hb dX12_comesTo_38 rfl (lv_at hl 2 rfl) ?_
        refine tw_iadd (lo := (-2147483648)) (hi := 2147483647) hx hb h12 h_a1 ⟨by decide, by decide⟩ ⟨by decide, by decide⟩ dX12_comesTo_39 (fun x17 e16 h15 => ?_)
        refine tw_puti hx hb hW hown hK hS f_X12_348_11 hz_a0 hk_a0 rfl rfl (lo := (-2147483648)) (hi := 2147483647) rfl h15 rfl dX12_comesTo_40 (fun H locs M20 hS k18 f19 => ?_)
        refine lv_aload_n hx hb dX12_comesTo_43 rfl (lv_at hl 1 rfl) ?_
        refine lv_aload_n hx hb dX12_comesTo_44 rfl (lv_at hl 1 rfl) ?_
        refine tw_getr hx hb hW hown hK hS f_X12_54_11 hz_a0 hk_a0 (t := 31) (n := 8) rfl dX12_comesTo_45 (fun b21 k22 hz_b21 hk_b21 hn_b21 => ?_)
        have hn_b21 := hn_b21 (by decide)
        refine lv_iload_n hx hb dX12_comesTo_48 rfl (lv_at hl 2 rfl) ?_
        refine tw_iald hx hb hK hS hz_b21 hk_b21 (Or.inr (by decide)) hn_b21 (lo := 0) (hi := 11) h_a1 ⟨by decide, by decide⟩ rg_u31 dX12_comesTo_49 (fun x25 k24 h23 => ?_)
        refine lv_iload_n hx hb dX12_comesTo_50 rfl (lv_at hl 2 rfl) ?_
        refine tw_gov hS (md_runV (As := [.int x25, .int a1]) (rest := []) hx hb hml hown hW hK hT hS.1 (t_X12_asks l D cy tx base Z K N M20 R3 J4 hS.2.1 a0 hz_a0 hk_a0 x25 h23 a1 (iv_mono h_a1 (by decide) (by decide)) (Codes.fr co_a0 hTy hz_a0 hk_a0 hS.2.2.1 hS.2.2.2 rfl)) s_X12_396 ⟨rfl, rfl, ⟨Nat.le_of_ble_eq_true rfl, Nat.le_of_ble_eq_true rfl⟩, ⟨Nat.le_of_ble_eq_true rfl, Nat.le_of_ble_eq_true rfl⟩⟩ hz_a0 hk_a0 (by decide) rfl rfl hl.1 rfl (Nat.le_of_ble_eq_true rfl) dX12_comesTo_51) rfl rfl (fun H locs M29 R30 J28 hS f26 g27 E31 => ?_)
        have eR30 := Fr.nil g27 rfl
        subst eR30
        refine lv_aload_n hx hb dX12_comesTo_54 rfl (lv_at hl 1 rfl) ?_
        refine tw_getr hx hb hW hown hK hS f_X12_72_11 hz_a0 hk_a0 (t := 14) (n := 5) rfl dX12_comesTo_55 (fun b32 k33 hz_b32 hk_b32 hn_b32 => ?_)
        have hn_b32 := hn_b32 (by decide)
        refine lv_iload_n hx hb dX12_comesTo_58 rfl (lv_at hl 2 rfl) ?_
        refine lv_aload_n hx hb dX12_comesTo_59 rfl (lv_at hl 1 rfl) ?_
        refine tw_geti hx hb hW hown hK hS f_X12_364_11 hz_a0 hk_a0 (lo := (-2147483648)) (hi := 2147483647) rfl dX12_comesTo_60 (fun x36 k35 h34 => ?_)
        refine tw_iast hx hb hK hS hz_b32 hk_b32 (Or.inl rfl) hn_b32 h_a1 ⟨by decide, by decide⟩ h34 (rg_s14 ⟨by decide, by decide⟩) (jl := 0) (jh := 1999999) ⟨by decide, by decide⟩ rfl dX12_comesTo_63 (fun H locs M39 hS k37 f38 => ?_)
        refine lv_aload_n hx hb dX12_comesTo_64 rfl (lv_at hl 1 rfl) ?_
        refine tw_getr hx hb hW hown hK hS f_X12_75_11 hz_a0 hk_a0 (t := 14) (n := 5) rfl dX12_comesTo_65 (fun b40 k41 hz_b40 hk_b40 hn_b40 => ?_)
        have hn_b40 := hn_b40 (by decide)
        refine lv_iload_n hx hb dX12_comesTo_68 rfl (lv_at hl 2 rfl) ?_
        refine lv_aload_n hx hb dX12_comesTo_69 rfl (lv_at hl 1 rfl) ?_
        refine tw_geti hx hb hW hown hK hS f_X12_367_11 hz_a0 hk_a0 (lo := (-2147483648)) (hi := 2147483647) rfl dX12_comesTo_70 (fun x44 k43 h42 => ?_)
        refine tw_iast hx hb hK hS hz_b40 hk_b40 (Or.inl rfl) hn_b40 h_a1 ⟨by decide, by decide⟩ h42 (rg_s14 ⟨by decide, by decide⟩) (jl := 0) (jh := 1999999) ⟨by decide, by decide⟩ rfl dX12_comesTo_73 (fun H locs M47 hS k45 f46 => ?_)
        refine lv_aload_n hx hb dX12_comesTo_74 rfl (lv_at hl 1 rfl) ?_
        refine tw_getr hx hb hW hown hK hS f_X12_66_11 hz_a0 hk_a0 (t := 41) (n := 5) rfl dX12_comesTo_75 (fun b48 k49 hz_b48 hk_b48 hn_b48 => ?_)
        have hn_b48 := hn_b48 (by decide)
        refine lv_iload_n hx hb dX12_comesTo_78 rfl (lv_at hl 2 rfl) ?_
        refine lv_iconst (v := (-1)) hx hb dX12_comesTo_79 (by decide) ?_
        refine tw_iast hx hb hK hS hz_b48 hk_b48 (Or.inr (by decide)) hn_b48 h_a1 ⟨by decide, by decide⟩ (iv_c (c := (-1)) (n := (-1)) (by decide)) (rg_s41 ⟨by decide, by decide⟩) (jl := 0) (jh := 1999999) ⟨by decide, by decide⟩ rfl dX12_comesTo_80 (fun H locs M52 hS k50 f51 => ?_)
        exact tw_endv hx hb hr hlocks hK hT hS hQ (trivial) dX12_comesTo_81
      · have q53 : x1.toInt < 10 := ti_nle c7
        have h54 : iv 0 9 x1 := iv_ltL (y := 10) h_x1 (iv_c (c := 10) (n := 10) (by decide)) q53 (by decide)
        refine lv_aload_n hx hb dX12_comesTo_8 rfl (lv_at hl 1 rfl) ?_
        refine tw_getr hx hb hW hown hK hS f_X12_63_11 hz_a0 hk_a0 (t := 36) (n := 60) rfl dX12_comesTo_9 (fun b55 k56 hz_b55 hk_b55 hn_b55 => ?_)
        have hn_b55 := hn_b55 (by decide)
        refine lv_bipush (v := 10) hx hb dX12_comesTo_12 (by decide) ?_
        refine lv_iload_n hx hb dX12_comesTo_14 rfl (lv_at hl 2 rfl) ?_
        refine tw_icmul (k := 10) (lo := 0) (hi := 0) hx hb (by decide) h_a1 (by decide) ⟨by decide, by decide⟩ ⟨by decide, by decide⟩ dX12_comesTo_15 (fun x59 e58 h57 => ?_)
        refine lv_iload_n hx hb dX12_comesTo_16 rfl (lv_at hl 0 rfl) ?_
        refine tw_iadd (lo := 0) (hi := 9) hx hb h57 h54 ⟨by decide, by decide⟩ ⟨by decide, by decide⟩ dX12_comesTo_17 (fun x62 e61 h60 => ?_)
        refine lv_aload_n hx hb dX12_comesTo_18 rfl (lv_at hl 1 rfl) ?_
        refine tw_getr hx hb hW hown hK hS f_X12_51_11 hz_a0 hk_a0 (t := 30) (n := 10) rfl dX12_comesTo_19 (fun b63 k64 hz_b63 hk_b63 hn_b63 => ?_)
        have hn_b63 := hn_b63 (by decide)
        refine lv_iload_n hx hb dX12_comesTo_22 rfl (lv_at hl 0 rfl) ?_
        refine tw_iald hx hb hK hS hz_b63 hk_b63 (Or.inr (by decide)) hn_b63 (lo := 0) (hi := 9999) h54 ⟨by decide, by decide⟩ rg_u30 dX12_comesTo_23 (fun x67 k66 h65 => ?_)
        refine tw_iast hx hb hK hS hz_b55 hk_b55 (Or.inr (by decide)) hn_b55 h60 ⟨by decide, by decide⟩ h65 (rg_s36 ⟨by decide, by decide⟩) (jl := 0) (jh := 1999999) ⟨by decide, by decide⟩ rfl dX12_comesTo_24 (fun H locs M70 hS k68 f69 => ?_)
        refine tw_iinc (lv' := fun x73 => [(2, .int x73), (0, .ref (base + a0)), (1, .int a1)]) (lo := 1) (hi := 10) hx hb dX12_comesTo_25 hl (k := 0) rfl h54 (by decide) ⟨by decide, by decide⟩ ⟨by decide, by decide⟩ (by decide) (fun _ => rfl) (fun x73 ls e72 h71 hl => ?_)
        refine lv_goto (tgt := 2) hx hb dX12_comesTo_28 (by decide) ?_
        have hm74 : 10 - x73.toInt < (n_2 : Int) := by
          have := (h_a1).1; have := (h_a1).2; have := (h54).1; have := (h54).2; have := (h60).1; have := (h60).2; have := (h71).1; have := (h71).2; omega
        exact ih_2 x73 M70 R3 J4 H locs _ (iv_mono h71 (by decide) (by decide)) hm74 hS hl
  have hm75 : 10 - (0 : Int32).toInt < (((11 : Nat) : Int) : Int) := by
    have := (h_a1).1; have := (h_a1).2; have : (0 : Int32).toInt = 0 := (by decide); omega
  exact W2_2 11 0 Ma Ra Ja s.heap [] _ (iv_mono (iv_c (c := 0) (n := 0) (by decide)) (by decide) (by decide)) hm75 hS hl
def Lt_X12_fails : WL := [(12, 14, 15)]
def LRt_X12_fails : WL := []
set_option maxRecDepth 100000 in
set_option maxHeartbeats 4000000 in
theorem t_X12_fails (l : Launch) (D : va_G) (cy : Nat → ClassId) (tx : (Nat → Nat) × (Nat → Nat)) (base Z : Nat) (K N : Nat → Nat) (Ma : MT) (Ra : RT) (Ja : JT) (hTy : Ty Z K N Ma Ra) (a0 : Nat) (hz_a0 : a0 < Z) (hk_a0 : K a0 = 12) (a1 : Int32) (h_a1 : iv 0 3 a1) (a2 : Int32) (h_a2 : iv 0 400 a2) : Met l yX12_fails [Cond.code yX12_fails cX12_fails 3 (some .boolean)] (md_rm 1 0 0) (va_Pc [.ref (base + a0), .int a1, .int a2] (md_U D cy tx base Z K N Ma Ra Ja)) (mQi D cy tx base (fun r u => TP Z K N Lt_X12_fails LRt_X12_fails Ma Ra u ∧ (iv 0 0 r))) 0 0 (fun q => base ≤ q) := by
  refine tw_ofW (L := Lt_X12_fails) (LR := LRt_X12_fails) (by decide) (Nat.le_of_ble_eq_true rfl) hTy ?_
  intro p e s m args below meth c Q ls hx hb hr hlocks hown hml hW hK hT hS hQ hl
  have hl : lv_has ls 3 [(0, .ref (base + a0)), (1, .int a1), (2, .int a2)] := hl
  refine lv_aload_n hx hb dX12_fails_0 rfl (lv_at hl 0 rfl) ?_
  refine tw_geti hx hb hW hown hK hS f_X12_124_11 hz_a0 hk_a0 (lo := (-2147483648)) (hi := 2147483647) rfl dX12_fails_1 (fun x3 k2 h1 => ?_)
  refine lv_if_ne (tgt := 19) hx hb dX12_fails_4 (by decide) (fun c4 => ?_) (fun c4 => ?_)
  · have q5 : ¬ x3.toInt = 0 := ti_ne c4
    refine lv_iconst (v := 0) hx hb dX12_fails_19 (by decide) ?_
    exact tw_endz hx hb hr hlocks hK hT hS hQ rfl ((iv_c (c := 0) (n := 0) (by decide))) dX12_fails_20
  · have q6 : x3.toInt = 0 := ti_eq c4
    have h7 : iv 0 0 x3 := ⟨by have := (h1).1; have := ((iv_c (c := 0) (n := 0) (by decide))).1; omega, by have := (h1).2; have := ((iv_c (c := 0) (n := 0) (by decide))).2; omega⟩
    refine lv_aload_n hx hb dX12_fails_7 rfl (lv_at hl 0 rfl) ?_
    refine lv_iconst (v := 1) hx hb dX12_fails_8 (by decide) ?_
    refine lv_bipush (v := 8) hx hb dX12_fails_9 (by decide) ?_
    refine lv_iload_n hx hb dX12_fails_11 rfl (lv_at hl 2 rfl) ?_
    refine tw_icmul (k := 8) (lo := 0) (hi := 3200) hx hb (by decide) h_a2 (by decide) ⟨by decide, by decide⟩ ⟨by decide, by decide⟩ dX12_fails_12 (fun x10 e9 h8 => ?_)
    refine tw_iadd (lo := 1) (hi := 3201) hx hb (iv_c (c := 1) (n := 1) (by decide)) h8 ⟨by decide, by decide⟩ ⟨by decide, by decide⟩ dX12_fails_13 (fun x13 e12 h11 => ?_)
    have e12 : x13.toInt = 1 + x10.toInt := e12
    refine lv_iload_n hx hb dX12_fails_14 rfl (lv_at hl 1 rfl) ?_
    refine tw_iadd (lo := 1) (hi := 3204) hx hb h11 h_a1 ⟨by decide, by decide⟩ ⟨by decide, by decide⟩ dX12_fails_15 (fun x16 e15 h14 => ?_)
    refine tw_puti hx hb hW hown hK hS f_X12_124_11 hz_a0 hk_a0 rfl rfl (lo := (-2147483648)) (hi := 2147483647) rfl (iv_mono h14 (by decide) (by decide)) rfl dX12_fails_16 (fun H locs M19 hS k17 f18 => ?_)
    refine lv_iconst (v := 0) hx hb dX12_fails_19 (by decide) ?_
    exact tw_endz hx hb hr hlocks hK hT hS hQ rfl ((iv_c (c := 0) (n := 0) (by decide))) dX12_fails_20
def Lt_X12_count : WL := []
def LRt_X12_count : WL := []
set_option maxRecDepth 100000 in
set_option maxHeartbeats 4000000 in
theorem t_X12_count (l : Launch) (D : va_G) (cy : Nat → ClassId) (tx : (Nat → Nat) × (Nat → Nat)) (base Z : Nat) (K N : Nat → Nat) (Ma : MT) (Ra : RT) (Ja : JT) (hTy : Ty Z K N Ma Ra) (a0 : Nat) (hz_a0 : a0 < Z) (hk_a0 : K a0 = 12) (a1 : Int32) (h_a1 : iv (-2147483648) 2147483647 a1) : Met l yX12_count [Cond.code yX12_count cX12_count 4 (some .int)] (md_rm 2 0 0) (va_Pc [.ref (base + a0), .int a1] (md_U D cy tx base Z K N Ma Ra Ja)) (mQi D cy tx base (fun r u => TP Z K N Lt_X12_count LRt_X12_count Ma Ra u ∧ (iv (-2147483648) 2147483647 r))) 0 0 (fun q => base ≤ q) := by
  refine tw_ofW (L := Lt_X12_count) (LR := LRt_X12_count) (by decide) (Nat.le_of_ble_eq_true rfl) hTy ?_
  intro p e s m args below meth c Q ls hx hb hr hlocks hown hml hW hK hT hS hQ hl
  have hl : lv_has ls 4 [(0, .ref (base + a0)), (1, .int a1)] := hl
  refine lv_iconst (v := 0) hx hb dX12_count_0 (by decide) ?_
  refine lv_istore_n (lv' := [(2, .int 0), (0, .ref (base + a0)), (1, .int a1)]) hx hb dX12_count_1 rfl hl (by decide) rfl (fun ls hl => ?_)
  refine lv_iload_n hx hb dX12_count_2 rfl (lv_at hl 2 rfl) ?_
  by_cases c1 : a1 = 0
  · subst c1
    refine lv_tableIn (off := 61) (tgt := 64) hx hb dX12_count_3 (by decide) (by decide) rfl (by decide) ?_
    refine lv_aload_n hx hb dX12_count_64 rfl (lv_at hl 1 rfl) ?_
    refine tw_getr hx hb hW hown hK hS f_X12_45_11 hz_a0 hk_a0 (t := 23) (n := 226) rfl dX12_count_65 (fun b2 k3 hz_b2 hk_b2 hn_b2 => ?_)
    have hn_b2 := hn_b2 (by decide)
    refine lv_iload_n hx hb dX12_count_68 rfl (lv_at hl 2 rfl) ?_
    refine tw_iald hx hb hK hS hz_b2 hk_b2 (Or.inr (by decide)) hn_b2 (lo := 0) (hi := 10) (iv_c (c := 0) (n := 0) (by decide)) ⟨by decide, by decide⟩ (rg_c (k0 := 0) rfl rfl rfl) dX12_count_69 (fun x6 k5 h4 => ?_)
    exact tw_endi hx hb hr hlocks hK hT hS hQ ((iv_mono h4 (by decide) (by decide))) dX12_count_70
  have q7 : ¬ a1.toInt = 0 := ti_ne c1
  by_cases c8 : a1 = 1
  · subst c8
    refine lv_tableIn (off := 61) (tgt := 64) hx hb dX12_count_3 (by decide) (by decide) rfl (by decide) ?_
    refine lv_aload_n hx hb dX12_count_64 rfl (lv_at hl 1 rfl) ?_
    refine tw_getr hx hb hW hown hK hS f_X12_45_11 hz_a0 hk_a0 (t := 23) (n := 226) rfl dX12_count_65 (fun b9 k10 hz_b9 hk_b9 hn_b9 => ?_)
    have hn_b9 := hn_b9 (by decide)
    refine lv_iload_n hx hb dX12_count_68 rfl (lv_at hl 2 rfl) ?_
    refine tw_iald hx hb hK hS hz_b9 hk_b9 (Or.inr (by decide)) hn_b9 (lo := 0) (hi := 12) (iv_c (c := 1) (n := 1) (by decide)) ⟨by decide, by decide⟩ (rg_c (k0 := 1) rfl rfl rfl) dX12_count_69 (fun x13 k12 h11 => ?_)
    exact tw_endi hx hb hr hlocks hK hT hS hQ ((iv_mono h11 (by decide) (by decide))) dX12_count_70
  have q14 : ¬ a1.toInt = 1 := ti_ne c8
  by_cases c15 : a1 = 2
  · subst c15
    refine lv_tableIn (off := 68) (tgt := 71) hx hb dX12_count_3 (by decide) (by decide) rfl (by decide) ?_
    refine lv_aload_n hx hb dX12_count_71 rfl (lv_at hl 1 rfl) ?_
    refine tw_geti hx hb hW hown hK hS f_X12_298_11 hz_a0 hk_a0 (lo := 0) (hi := 6) rfl dX12_count_72 (fun x18 k17 h16 => ?_)
    exact tw_endi hx hb hr hlocks hK hT hS hQ ((iv_mono h16 (by decide) (by decide))) dX12_count_75
  have q19 : ¬ a1.toInt = 2 := ti_ne c15
  by_cases c20 : a1 = 3
  · subst c20
    refine lv_tableIn (off := 73) (tgt := 76) hx hb dX12_count_3 (by decide) (by decide) rfl (by decide) ?_
    refine lv_aload_n hx hb dX12_count_76 rfl (lv_at hl 1 rfl) ?_
    refine tw_getr hx hb hW hown hK hS f_X12_45_11 hz_a0 hk_a0 (t := 23) (n := 226) rfl dX12_count_77 (fun b21 k22 hz_b21 hk_b21 hn_b21 => ?_)
    have hn_b21 := hn_b21 (by decide)
    refine lv_iconst (v := 2) hx hb dX12_count_80 (by decide) ?_
    refine tw_iald hx hb hK hS hz_b21 hk_b21 (Or.inr (by decide)) hn_b21 (lo := (-2147483648)) (hi := 2147483647) (iv_c (c := 2) (n := 2) (by decide)) ⟨by decide, by decide⟩ (rg_c (k0 := 2) rfl rfl rfl) dX12_count_81 (fun x25 k24 h23 => ?_)
    refine tw_goi hS (md_runS (As := [.int x25]) (rest := []) hx hb hml hown hW hK hT hS.1 (t_X12_bits l D cy tx base Z K N Ma Ra Ja hS.2.1 x25 h23) s_X12_341 ⟨rfl, rfl, ⟨Nat.le_of_ble_eq_true rfl, Nat.le_of_ble_eq_true rfl⟩, ⟨Nat.le_of_ble_eq_true rfl, Nat.le_of_ble_eq_true rfl⟩⟩ rfl hl.1 rfl (Nat.le_of_ble_eq_true rfl) dX12_count_82) rfl rfl (fun x32 H locs M29 R30 J28 hS f26 g27 E31 => ?_)
    have eM29 := Fr.nil f26 rfl
    subst eM29
    have eR30 := Fr.nil g27 rfl
    subst eR30
    have h_x32 := E31
    exact tw_endi hx hb hr hlocks hK hT hS hQ (h_x32) dX12_count_85
  have q33 : ¬ a1.toInt = 3 := ti_ne c20
  by_cases c34 : a1 = 4
  · subst c34
    refine lv_tableIn (off := 83) (tgt := 86) hx hb dX12_count_3 (by decide) (by decide) rfl (by decide) ?_
    refine lv_iconst (v := 0) hx hb dX12_count_86 (by decide) ?_
    refine lv_istore_n (lv' := [(3, .int 0), (2, .int 0), (0, .ref (base + a0)), (1, .int 4)]) hx hb dX12_count_87 rfl hl (by decide) rfl (fun ls hl => ?_)
    have W88_37 : ∀ (n_37 : Nat) (x35 : Int32) (x36 : Int32) (M37 : MT) (R38 : RT) (J39 : JT) (H : Heap) (locs : List Loc) (ls : Array Slot) (h_x35 : iv (-2147483648) 2147483647 x35) (h_x36 : iv 0 10 x36) (hm_37 : 10 - x36.toInt < (n_37 : Int)) (hS : SB D cy base Z K N Lt_X12_count LRt_X12_count Ma Ra M37 R38 J39 s H locs) (hl : lv_has ls 4 [(2, .int x35), (3, .int x36), (0, .ref (base + a0)), (1, .int 4)]), W p l e (md_rm 2 0 0) s m args below meth c H locs 0 0 Q (F0 m 88 ls []) := by
      intro n_37
      induction n_37 with
      | zero =>
        intro x35 x36 M37 R38 J39 H locs ls h_x35 h_x36 hm_37 hS hl
        exfalso
        have := (h_x36).1; have := (h_x36).2; omega
      | succ n_37 ih_37 =>
        intro x35 x36 M37 R38 J39 H locs ls h_x35 h_x36 hm_37 hS hl
        have f40 := hS.2.2.1
        have g41 := hS.2.2.2
        refine lv_iload_n hx hb dX12_count_88 rfl (lv_at hl 1 rfl) ?_
        refine lv_aload_n hx hb dX12_count_89 rfl (lv_at hl 2 rfl) ?_
        refine tw_getr hx hb hW hown hK hS f_X12_45_11 hz_a0 hk_a0 (t := 23) (n := 226) rfl dX12_count_90 (fun b42 k43 hz_b42 hk_b42 hn_b42 => ?_)
        have hn_b42 := hn_b42 (by decide)
        refine lv_iconst (v := 0) hx hb dX12_count_93 (by decide) ?_
        refine tw_iald hx hb hK hS hz_b42 hk_b42 (Or.inr (by decide)) hn_b42 (lo := 0) (hi := 10) (iv_c (c := 0) (n := 0) (by decide)) ⟨by decide, by decide⟩ (rg_c (k0 := 0) rfl rfl rfl) dX12_count_94 (fun x46 k45 h44 => ?_)
        refine lv_icmp_ge (tgt := 133) hx hb dX12_count_95 (by decide) (fun c47 => ?_) (fun c47 => ?_)
        · have q48 : x46.toInt ≤ x36.toInt := ti_le c47
          refine lv_iload_n hx hb dX12_count_133 rfl (lv_at hl 0 rfl) ?_
          exact tw_endi hx hb hr hlocks hK hT hS hQ (h_x35) dX12_count_134
        · have q49 : x36.toInt < x46.toInt := ti_nle c47
          have h50 : iv 0 9 x36 := iv_ltL (y := x46) h_x36 h44 q49 (by decide)
          have h51 : iv 1 10 x46 := iv_gtL (y := x36) h44 h_x36 q49 (by decide)
          refine lv_iload_n hx hb dX12_count_98 rfl (lv_at hl 0 rfl) ?_
          refine lv_aload_n hx hb dX12_count_99 rfl (lv_at hl 2 rfl) ?_
          refine tw_getrk hx hb hW hown hK hS f_X12_45_11 hz_a0 hk_a0 (b := b42) k43 dX12_count_100 ?_
          refine lv_iconst (v := 2) hx hb dX12_count_103 (by decide) ?_
          refine tw_iald hx hb hK hS hz_b42 hk_b42 (Or.inr (by decide)) hn_b42 (lo := (-2147483648)) (hi := 2147483647) (iv_c (c := 2) (n := 2) (by decide)) ⟨by decide, by decide⟩ (rg_c (k0 := 2) rfl rfl rfl) dX12_count_104 (fun x54 k53 h52 => ?_)
          refine lv_iload_n hx hb dX12_count_105 rfl (lv_at hl 1 rfl) ?_
          refine tw_goi hS (md_runS (As := [.int x54, .int x36]) (rest := [.int x35]) hx hb hml hown hW hK hT hS.1 (t_X12_isOf l D cy tx base Z K N M37 R38 J39 hS.2.1 x54 h52 x36 h50) s_X12_322 ⟨rfl, rfl, ⟨Nat.le_of_ble_eq_true rfl, Nat.le_of_ble_eq_true rfl⟩, ⟨Nat.le_of_ble_eq_true rfl, Nat.le_of_ble_eq_true rfl⟩⟩ rfl hl.1 rfl (Nat.le_of_ble_eq_true rfl) dX12_count_106) rfl rfl (fun x61 H locs M58 R59 J57 hS f55 g56 E60 => ?_)
          have eM58 := Fr.nil f55 rfl
          subst eM58
          have eR59 := Fr.nil g56 rfl
          subst eR59
          have h_x61 := E60
          refine lv_if_eq (tgt := 124) hx hb dX12_count_109 (by decide) (fun c62 => ?_) (fun c62 => ?_)
          · have q63 : x61.toInt = 0 := ti_eq c62
            have h64 : iv 0 0 x61 := ⟨by have := (h_x61).1; have := ((iv_c (c := 0) (n := 0) (by decide))).1; omega, by have := (h_x61).2; have := ((iv_c (c := 0) (n := 0) (by decide))).2; omega⟩
            refine lv_iconst (v := 0) hx hb dX12_count_124 (by decide) ?_
            refine tw_iadd (lo := (-2147483648)) (hi := 2147483647) hx hb h_x35 (iv_c (c := 0) (n := 0) (by decide)) ⟨by decide, by decide⟩ ⟨by decide, by decide⟩ dX12_count_125 (fun x67 e66 h65 => ?_)
            have e66 : x67.toInt = x35.toInt + 0 := e66
            refine lv_istore_n (lv' := [(2, .int x67), (3, .int x36), (0, .ref (base + a0)), (1, .int 4)]) hx hb dX12_count_126 rfl hl (by decide) rfl (fun ls hl => ?_)
            refine tw_iinc (lv' := fun x70 => [(3, .int x70), (2, .int x67), (0, .ref (base + a0)), (1, .int 4)]) (lo := 1) (hi := 10) hx hb dX12_count_127 hl (k := 1) rfl h50 (by decide) ⟨by decide, by decide⟩ ⟨by decide, by decide⟩ (by decide) (fun _ => rfl) (fun x70 ls e69 h68 hl => ?_)
            refine lv_goto (tgt := 88) hx hb dX12_count_130 (by decide) ?_
            have hm71 : 10 - x70.toInt < (n_37 : Int) := by
              have := (h50).1; have := (h50).2; have := (h68).1; have := (h68).2; omega
            exact ih_37 x67 x70 M37 R38 J57 H locs _ h65 (iv_mono h68 (by decide) (by decide)) hm71 hS (lv_sub hl [1, 0, 2, 3] rfl)
          · have q72 : ¬ x61.toInt = 0 := ti_ne c62
            have h73 : iv 1 1 x61 := ⟨by have := (h_x61).1; have := ((iv_c (c := 0) (n := 0) (by decide))).1; have := ((iv_c (c := 0) (n := 0) (by decide))).2; omega, by have := (h_x61).2; have := ((iv_c (c := 0) (n := 0) (by decide))).1; have := ((iv_c (c := 0) (n := 0) (by decide))).2; omega⟩
            refine lv_aload_n hx hb dX12_count_112 rfl (lv_at hl 2 rfl) ?_
            refine tw_getrk hx hb hW hown hK hS f_X12_45_11 hz_a0 hk_a0 (b := b42) k43 dX12_count_113 ?_
            refine lv_bipush (v := 10) hx hb dX12_count_116 (by decide) ?_
            refine lv_iload_n hx hb dX12_count_118 rfl (lv_at hl 1 rfl) ?_
            refine tw_iadd (lo := 10) (hi := 19) hx hb (iv_c (c := 10) (n := 10) (by decide)) h50 ⟨by decide, by decide⟩ ⟨by decide, by decide⟩ dX12_count_119 (fun x76 e75 h74 => ?_)
            have e75 : x76.toInt = 10 + x36.toInt := e75
            refine tw_iald hx hb hK hS hz_b42 hk_b42 (Or.inr (by decide)) hn_b42 (lo := 0) (hi := 9999) h74 ⟨by decide, by decide⟩ (rg_sv ⟨by decide, by decide⟩) dX12_count_120 (fun x79 k78 h77 => ?_)
            refine lv_goto (tgt := 125) hx hb dX12_count_121 (by decide) ?_
            refine lv_iadd hx hb dX12_count_125 ?_
            refine tw_top (fun x81 => ?_)
            have h80 := iv_any x81
            refine lv_istore_n (lv' := [(2, .int x81), (3, .int x36), (0, .ref (base + a0)), (1, .int 4)]) hx hb dX12_count_126 rfl hl (by decide) rfl (fun ls hl => ?_)
            refine tw_iinc (lv' := fun x84 => [(3, .int x84), (2, .int x81), (0, .ref (base + a0)), (1, .int 4)]) (lo := 1) (hi := 10) hx hb dX12_count_127 hl (k := 1) rfl h50 (by decide) ⟨by decide, by decide⟩ ⟨by decide, by decide⟩ (by decide) (fun _ => rfl) (fun x84 ls e83 h82 hl => ?_)
            refine lv_goto (tgt := 88) hx hb dX12_count_130 (by decide) ?_
            have hm85 : 10 - x84.toInt < (n_37 : Int) := by
              have := (h50).1; have := (h50).2; have := (h74).1; have := (h74).2; have := (h82).1; have := (h82).2; omega
            exact ih_37 x81 x84 M37 R38 J57 H locs _ h80 (iv_mono h82 (by decide) (by decide)) hm85 hS (lv_sub hl [1, 0, 2, 3] rfl)
    have hm86 : 10 - (0 : Int32).toInt < (((11 : Nat) : Int) : Int) := by
      have : (0 : Int32).toInt = 0 := (by decide); omega
    exact W88_37 11 0 0 Ma Ra Ja s.heap [] _ (iv_mono (iv_c (c := 0) (n := 0) (by decide)) (by decide) (by decide)) (iv_mono (iv_c (c := 0) (n := 0) (by decide)) (by decide) (by decide)) hm86 hS (lv_sub hl [1, 0, 2, 3] rfl)
  have q87 : ¬ a1.toInt = 4 := ti_ne c34
  by_cases c88 : a1 = 5
  · subst c88
    refine lv_tableIn (off := 132) (tgt := 135) hx hb dX12_count_3 (by decide) (by decide) rfl (by decide) ?_
    refine lv_aload_n hx hb dX12_count_135 rfl (lv_at hl 1 rfl) ?_
    refine tw_getr hx hb hW hown hK hS f_X12_45_11 hz_a0 hk_a0 (t := 23) (n := 226) rfl dX12_count_136 (fun b89 k90 hz_b89 hk_b89 hn_b89 => ?_)
    have hn_b89 := hn_b89 (by decide)
    refine lv_iconst (v := 3) hx hb dX12_count_139 (by decide) ?_
    refine tw_iald hx hb hK hS hz_b89 hk_b89 (Or.inr (by decide)) hn_b89 (lo := (-2147483648)) (hi := 2147483647) (iv_c (c := 3) (n := 3) (by decide)) ⟨by decide, by decide⟩ (rg_c (k0 := 3) rfl rfl rfl) dX12_count_140 (fun x93 k92 h91 => ?_)
    exact tw_endi hx hb hr hlocks hK hT hS hQ (h91) dX12_count_141
  have q94 : ¬ a1.toInt = 5 := ti_ne c88
  by_cases c95 : a1 = 6
  · subst c95
    refine lv_tableIn (off := 139) (tgt := 142) hx hb dX12_count_3 (by decide) (by decide) rfl (by decide) ?_
    refine lv_aload_n hx hb dX12_count_142 rfl (lv_at hl 1 rfl) ?_
    refine tw_getr hx hb hW hown hK hS f_X12_45_11 hz_a0 hk_a0 (t := 23) (n := 226) rfl dX12_count_143 (fun b96 k97 hz_b96 hk_b96 hn_b96 => ?_)
    have hn_b96 := hn_b96 (by decide)
    refine lv_iconst (v := 4) hx hb dX12_count_146 (by decide) ?_
    refine tw_iald hx hb hK hS hz_b96 hk_b96 (Or.inr (by decide)) hn_b96 (lo := 0) (hi := 8) (iv_c (c := 4) (n := 4) (by decide)) ⟨by decide, by decide⟩ (rg_c (k0 := 4) rfl rfl rfl) dX12_count_147 (fun x100 k99 h98 => ?_)
    exact tw_endi hx hb hr hlocks hK hT hS hQ ((iv_mono h98 (by decide) (by decide))) dX12_count_148
  have q101 : ¬ a1.toInt = 6 := ti_ne c95
  by_cases c102 : a1 = 7
  · subst c102
    refine lv_tableIn (off := 146) (tgt := 149) hx hb dX12_count_3 (by decide) (by decide) rfl (by decide) ?_
    refine lv_aload_n hx hb dX12_count_149 rfl (lv_at hl 1 rfl) ?_
    refine tw_getr hx hb hW hown hK hS f_X12_45_11 hz_a0 hk_a0 (t := 23) (n := 226) rfl dX12_count_150 (fun b103 k104 hz_b103 hk_b103 hn_b103 => ?_)
    have hn_b103 := hn_b103 (by decide)
    refine lv_iconst (v := 5) hx hb dX12_count_153 (by decide) ?_
    refine tw_iald hx hb hK hS hz_b103 hk_b103 (Or.inr (by decide)) hn_b103 (lo := 0) (hi := 12) (iv_c (c := 5) (n := 5) (by decide)) ⟨by decide, by decide⟩ (rg_c (k0 := 5) rfl rfl rfl) dX12_count_154 (fun x107 k106 h105 => ?_)
    exact tw_endi hx hb hr hlocks hK hT hS hQ ((iv_mono h105 (by decide) (by decide))) dX12_count_155
  have q108 : ¬ a1.toInt = 7 := ti_ne c102
  by_cases c109 : a1 = 8
  · subst c109
    refine lv_tableIn (off := 153) (tgt := 156) hx hb dX12_count_3 (by decide) (by decide) rfl (by decide) ?_
    refine lv_aload_n hx hb dX12_count_156 rfl (lv_at hl 1 rfl) ?_
    refine tw_getr hx hb hW hown hK hS f_X12_45_11 hz_a0 hk_a0 (t := 23) (n := 226) rfl dX12_count_157 (fun b110 k111 hz_b110 hk_b110 hn_b110 => ?_)
    have hn_b110 := hn_b110 (by decide)
    refine lv_bipush (v := 6) hx hb dX12_count_160 (by decide) ?_
    refine tw_iald hx hb hK hS hz_b110 hk_b110 (Or.inr (by decide)) hn_b110 (lo := 0) (hi := 2147483647) (iv_c (c := 6) (n := 6) (by decide)) ⟨by decide, by decide⟩ (rg_c (k0 := 6) rfl rfl rfl) dX12_count_162 (fun x114 k113 h112 => ?_)
    exact tw_endi hx hb hr hlocks hK hT hS hQ ((iv_mono h112 (by decide) (by decide))) dX12_count_163
  have q115 : ¬ a1.toInt = 8 := ti_ne c109
  by_cases c116 : a1 = 9
  · subst c116
    refine lv_tableIn (off := 161) (tgt := 164) hx hb dX12_count_3 (by decide) (by decide) rfl (by decide) ?_
    refine lv_aload_n hx hb dX12_count_164 rfl (lv_at hl 1 rfl) ?_
    refine tw_geti hx hb hW hown hK hS f_X12_116_11 hz_a0 hk_a0 (lo := 0) (hi := 400) rfl dX12_count_165 (fun x119 k118 h117 => ?_)
    exact tw_endi hx hb hr hlocks hK hT hS hQ ((iv_mono h117 (by decide) (by decide))) dX12_count_168
  have q120 : ¬ a1.toInt = 9 := ti_ne c116
  by_cases c121 : a1 = 10
  · subst c121
    refine lv_tableIn (off := 166) (tgt := 169) hx hb dX12_count_3 (by decide) (by decide) rfl (by decide) ?_
    refine lv_aload_n hx hb dX12_count_169 rfl (lv_at hl 1 rfl) ?_
    refine tw_getr hx hb hW hown hK hS f_X12_45_11 hz_a0 hk_a0 (t := 23) (n := 226) rfl dX12_count_170 (fun b122 k123 hz_b122 hk_b122 hn_b122 => ?_)
    have hn_b122 := hn_b122 (by decide)
    refine lv_iload_n hx hb dX12_count_173 rfl (lv_at hl 2 rfl) ?_
    refine lv_iconst (v := 3) hx hb dX12_count_174 (by decide) ?_
    refine lv_isub hx hb dX12_count_175 ?_
    refine md_top (y := 7) (by decide) ?_
    refine tw_iald hx hb hK hS hz_b122 hk_b122 (Or.inr (by decide)) hn_b122 (lo := (-2147483648)) (hi := 2147483647) (iv_c (c := 7) (n := 7) (by decide)) ⟨by decide, by decide⟩ (rg_c (k0 := 7) rfl rfl rfl) dX12_count_176 (fun x126 k125 h124 => ?_)
    exact tw_endi hx hb hr hlocks hK hT hS hQ (h124) dX12_count_177
  have q127 : ¬ a1.toInt = 10 := ti_ne c121
  by_cases c128 : a1 = 11
  · subst c128
    refine lv_tableIn (off := 166) (tgt := 169) hx hb dX12_count_3 (by decide) (by decide) rfl (by decide) ?_
    refine lv_aload_n hx hb dX12_count_169 rfl (lv_at hl 1 rfl) ?_
    refine tw_getr hx hb hW hown hK hS f_X12_45_11 hz_a0 hk_a0 (t := 23) (n := 226) rfl dX12_count_170 (fun b129 k130 hz_b129 hk_b129 hn_b129 => ?_)
    have hn_b129 := hn_b129 (by decide)
    refine lv_iload_n hx hb dX12_count_173 rfl (lv_at hl 2 rfl) ?_
    refine lv_iconst (v := 3) hx hb dX12_count_174 (by decide) ?_
    refine lv_isub hx hb dX12_count_175 ?_
    refine md_top (y := 8) (by decide) ?_
    refine tw_iald hx hb hK hS hz_b129 hk_b129 (Or.inr (by decide)) hn_b129 (lo := 0) (hi := 9999) (iv_c (c := 8) (n := 8) (by decide)) ⟨by decide, by decide⟩ (rg_c (k0 := 8) rfl rfl rfl) dX12_count_176 (fun x133 k132 h131 => ?_)
    exact tw_endi hx hb hr hlocks hK hT hS hQ ((iv_mono h131 (by decide) (by decide))) dX12_count_177
  have q134 : ¬ a1.toInt = 11 := ti_ne c128
  refine lv_tableOut (tgt := 178) hx hb dX12_count_3 (by have := (h_a1).1; have := (h_a1).2; omega) (by decide) ?_
  refine lv_iconst (v := (-1)) hx hb dX12_count_178 (by decide) ?_
  exact tw_endi hx hb hr hlocks hK hT hS hQ ((iv_mono (iv_c (c := (-1)) (n := (-1)) (by decide)) (by decide) (by decide))) dX12_count_179
def Lt_X12_day : WL := [(12, 23, 24), (12, 28, 29), (12, 30, 33), (12, 35, 37), (14, 0, 2000000), (23, 3, 4), (23, 10, 20), (23, 30, 50), (30, 0, 2000000), (31, 0, 2000000)]
def LRt_X12_day : WL := []
set_option maxRecDepth 100000 in
set_option maxHeartbeats 4000000 in
theorem t_X12_day (l : Launch) (D : va_G) (cy : Nat → ClassId) (tx : (Nat → Nat) × (Nat → Nat)) (base Z : Nat) (K N : Nat → Nat) (Ma : MT) (Ra : RT) (Ja : JT) (hTy : Ty Z K N Ma Ra) (a0 : Nat) (hz_a0 : a0 < Z) (hk_a0 : K a0 = 12) (co_a0 : Codes Ma Ra a0) : Met l yX12_day [Cond.code yX12_day cX12_day 1 (some .int)] (md_rm 6 0 0) (va_Pc [.ref (base + a0)] (md_U D cy tx base Z K N Ma Ra Ja)) (mQi D cy tx base (fun r u => TP Z K N Lt_X12_day LRt_X12_day Ma Ra u ∧ (iv (-2147483648) 2147483647 r))) 0 0 (fun q => base ≤ q) := by
  refine tw_ofW (L := Lt_X12_day) (LR := LRt_X12_day) (by decide) (Nat.le_of_ble_eq_true rfl) hTy ?_
  intro p e s m args below meth c Q ls hx hb hr hlocks hown hml hW hK hT hS hQ hl
  have hl : lv_has ls 1 [(0, .ref (base + a0))] := hl
  refine lv_aload_n hx hb dX12_day_0 rfl (lv_at hl 0 rfl) ?_
  refine tw_getr hx hb hW hown hK hS f_X12_45_11 hz_a0 hk_a0 (t := 23) (n := 226) rfl dX12_day_1 (fun b1 k2 hz_b1 hk_b1 hn_b1 => ?_)
  have hn_b1 := hn_b1 (by decide)
  refine lv_iconst (v := 0) hx hb dX12_day_4 (by decide) ?_
  refine tw_iald hx hb hK hS hz_b1 hk_b1 (Or.inr (by decide)) hn_b1 (lo := 0) (hi := 10) (iv_c (c := 0) (n := 0) (by decide)) ⟨by decide, by decide⟩ (rg_c (k0 := 0) rfl rfl rfl) dX12_day_5 (fun x5 k4 h3 => ?_)
  refine lv_if_ne (tgt := 15) hx hb dX12_day_6 (by decide) (fun c6 => ?_) (fun c6 => ?_)
  · have q7 : ¬ x5.toInt = 0 := ti_ne c6
    have h8 : iv 1 10 x5 := ⟨by have := (h3).1; have := ((iv_c (c := 0) (n := 0) (by decide))).1; have := ((iv_c (c := 0) (n := 0) (by decide))).2; omega, by have := (h3).2; have := ((iv_c (c := 0) (n := 0) (by decide))).1; have := ((iv_c (c := 0) (n := 0) (by decide))).2; omega⟩
    refine lv_aload_n hx hb dX12_day_15 rfl (lv_at hl 0 rfl) ?_
    obtain ⟨x11, k9⟩ : ∃ x, Ma b1 (4 : Int32).toNatClampNeg = x := ⟨_, rfl⟩
    have h10 : iv 0 8 x11 := by rw [← k9]; exact hS.2.1.int hz_b1 hk_b1 (show rgI 23 (4 : Int32).toNatClampNeg = (0, 8) from rfl)
    refine tw_gov hS (md_runV (As := []) (rest := []) hx hb hml hown hW hK hT hS.1 (t_X12_begins l D cy tx base Z K N Ma Ra Ja hS.2.1 a0 hz_a0 hk_a0 b1 k2 x11 k9 (iv_mono h10 (by decide) (by decide))) s_X12_393 ⟨rfl, rfl, ⟨Nat.le_of_ble_eq_true rfl, Nat.le_of_ble_eq_true rfl⟩, ⟨Nat.le_of_ble_eq_true rfl, Nat.le_of_ble_eq_true rfl⟩⟩ hz_a0 hk_a0 (by decide) rfl rfl hl.1 rfl (Nat.le_of_ble_eq_true rfl) dX12_day_16) rfl rfl (fun H locs M15 R16 J14 hS f12 g13 E17 => ?_)
    have eR16 := Fr.nil g13 rfl
    subst eR16
    have p18 := E17
    have k19 : M15 a0 30 = x11 := p18
    refine lv_aload_n hx hb dX12_day_19 rfl (lv_at hl 0 rfl) ?_
    refine lv_iconst (v := 0) hx hb dX12_day_20 (by decide) ?_
    refine tw_puti hx hb hW hown hK hS f_X12_407_11 hz_a0 hk_a0 rfl rfl (lo := (-2147483648)) (hi := 2147483647) rfl (iv_mono (iv_c (c := 0) (n := 0) (by decide)) (by decide) (by decide)) rfl dX12_day_21 (fun H locs M22 hS k20 f21 => ?_)
    refine lv_aload_n hx hb dX12_day_24 rfl (lv_at hl 0 rfl) ?_
    refine lv_iconst (v := 0) hx hb dX12_day_25 (by decide) ?_
    refine tw_gov hS (md_runV (As := [.int 0]) (rest := []) hx hb hml hown hW hK hT hS.1 (t_X12_passes l D cy tx base Z K N M22 Ra J14 hS.2.1 a0 hz_a0 hk_a0 0 (iv_mono (iv_c (c := 0) (n := 0) (by decide)) (by decide) (by decide)) (Codes.fr co_a0 hTy hz_a0 hk_a0 hS.2.2.1 hS.2.2.2 rfl)) s_X12_417 ⟨rfl, rfl, ⟨Nat.le_of_ble_eq_true rfl, Nat.le_of_ble_eq_true rfl⟩, ⟨Nat.le_of_ble_eq_true rfl, Nat.le_of_ble_eq_true rfl⟩⟩ hz_a0 hk_a0 (by decide) rfl rfl hl.1 rfl (Nat.le_of_ble_eq_true rfl) dX12_day_26) rfl rfl (fun H locs M26 R27 J25 hS f23 g24 E28 => ?_)
    have eR27 := Fr.nil g24 rfl
    subst eR27
    refine lv_aload_n hx hb dX12_day_29 rfl (lv_at hl 0 rfl) ?_
    refine tw_gov hS (md_runV (As := []) (rest := []) hx hb hml hown hW hK hT hS.1 (t_X12_stays l D cy tx base Z K N M26 Ra J25 hS.2.1 a0 hz_a0 hk_a0) s_X12_401 ⟨rfl, rfl, ⟨Nat.le_of_ble_eq_true rfl, Nat.le_of_ble_eq_true rfl⟩, ⟨Nat.le_of_ble_eq_true rfl, Nat.le_of_ble_eq_true rfl⟩⟩ hz_a0 hk_a0 (by decide) rfl rfl hl.1 rfl (Nat.le_of_ble_eq_true rfl) dX12_day_30) rfl rfl (fun H locs M32 R33 J31 hS f29 g30 E34 => ?_)
    have eR33 := Fr.nil g30 rfl
    subst eR33
    refine lv_aload_n hx hb dX12_day_33 rfl (lv_at hl 0 rfl) ?_
    refine tw_geti hx hb hW hown hK hS f_X12_407_11 hz_a0 hk_a0 (lo := (-2147483648)) (hi := 2147483647) rfl dX12_day_34 (fun x37 k36 h35 => ?_)
    exact tw_endi hx hb hr hlocks hK hT hS hQ (h35) dX12_day_37
  · have q38 : x5.toInt = 0 := ti_eq c6
    have h39 : iv 0 0 x5 := ⟨by have := (h3).1; have := ((iv_c (c := 0) (n := 0) (by decide))).1; omega, by have := (h3).2; have := ((iv_c (c := 0) (n := 0) (by decide))).2; omega⟩
    refine lv_aload_n hx hb dX12_day_9 rfl (lv_at hl 0 rfl) ?_
    refine lv_iconst (v := 0) hx hb dX12_day_10 (by decide) ?_
    refine tw_goi hS (md_runV (As := [.int 0]) (rest := []) hx hb hml hown hW hK hT hS.1 (t_X12_refuses l D cy tx base Z K N Ma Ra Ja hS.2.1 a0 hz_a0 hk_a0 0 (iv_mono (iv_c (c := 0) (n := 0) (by decide)) (by decide) (by decide))) s_X12_338 ⟨rfl, rfl, ⟨Nat.le_of_ble_eq_true rfl, Nat.le_of_ble_eq_true rfl⟩, ⟨Nat.le_of_ble_eq_true rfl, Nat.le_of_ble_eq_true rfl⟩⟩ hz_a0 hk_a0 (by decide) rfl rfl hl.1 rfl (Nat.le_of_ble_eq_true rfl) dX12_day_11) rfl rfl (fun x46 H locs M43 R44 J42 hS f40 g41 E45 => ?_)
    have eR44 := Fr.nil g41 rfl
    subst eR44
    have h_x46 := E45
    exact tw_endi hx hb hr hlocks hK hT hS hQ ((iv_mono h_x46 (by decide) (by decide))) dX12_day_14
def Lt_X12_end : WL := [(12, 1, 2)]
def LRt_X12_end : WL := []
set_option maxRecDepth 100000 in
set_option maxHeartbeats 4000000 in
theorem t_X12_end (l : Launch) (D : va_G) (cy : Nat → ClassId) (tx : (Nat → Nat) × (Nat → Nat)) (base Z : Nat) (K N : Nat → Nat) (Ma : MT) (Ra : RT) (Ja : JT) (hTy : Ty Z K N Ma Ra) (a0 : Nat) (hz_a0 : a0 < Z) (hk_a0 : K a0 = 12) (a1 : Int32) (h_a1 : iv (-2147483648) 2147483647 a1) : Met l yX12_end [Cond.code yX12_end cX12_end 2 (some .int)] (md_rm 1 0 0) (va_Pc [.ref (base + a0), .int a1] (md_U D cy tx base Z K N Ma Ra Ja)) (mQi D cy tx base (fun r u => TP Z K N Lt_X12_end LRt_X12_end Ma Ra u ∧ (iv (-1) 400 r))) 0 0 (fun q => base ≤ q) := by
  refine tw_ofW (L := Lt_X12_end) (LR := LRt_X12_end) (by decide) (Nat.le_of_ble_eq_true rfl) hTy ?_
  intro p e s m args below meth c Q ls hx hb hr hlocks hown hml hW hK hT hS hQ hl
  have hl : lv_has ls 2 [(0, .ref (base + a0)), (1, .int a1)] := hl
  refine lv_iload_n hx hb dX12_end_0 rfl (lv_at hl 1 rfl) ?_
  refine lv_if_lt (tgt := 12) hx hb dX12_end_1 (by decide) (fun c1 => ?_) (fun c1 => ?_)
  · have q2 : a1.toInt < 0 := ti_lt c1
    have h3 : iv (-2147483648) (-1) a1 := iv_ltL (y := 0) h_a1 (iv_c (c := 0) (n := 0) (by decide)) q2 (by decide)
    refine lv_iconst (v := (-1)) hx hb dX12_end_12 (by decide) ?_
    exact tw_endi hx hb hr hlocks hK hT hS hQ ((iv_mono (iv_c (c := (-1)) (n := (-1)) (by decide)) (by decide) (by decide))) dX12_end_13
  · have q4 : 0 ≤ a1.toInt := ti_nlt c1
    have h5 : iv 0 2147483647 a1 := iv_geL (y := 0) h_a1 (iv_c (c := 0) (n := 0) (by decide)) q4 (by decide)
    refine lv_iload_n hx hb dX12_end_4 rfl (lv_at hl 1 rfl) ?_
    refine lv_aload_n hx hb dX12_end_5 rfl (lv_at hl 0 rfl) ?_
    refine tw_geti hx hb hW hown hK hS f_X12_116_11 hz_a0 hk_a0 (lo := 0) (hi := 400) rfl dX12_end_6 (fun x8 k7 h6 => ?_)
    refine lv_icmp_le (tgt := 14) hx hb dX12_end_9 (by decide) (fun c9 => ?_) (fun c9 => ?_)
    · have q10 : a1.toInt ≤ x8.toInt := ti_le c9
      have h11 : iv 0 400 a1 := iv_leL (y := x8) h5 h6 q10 (by decide)
      refine lv_aload_n hx hb dX12_end_14 rfl (lv_at hl 0 rfl) ?_
      refine lv_iload_n hx hb dX12_end_15 rfl (lv_at hl 1 rfl) ?_
      refine tw_puti hx hb hW hown hK hS f_X12_116_11 hz_a0 hk_a0 rfl rfl (lo := 0) (hi := 400) rfl h11 rfl dX12_end_16 (fun H locs M14 hS k12 f13 => ?_)
      refine lv_iload_n hx hb dX12_end_19 rfl (lv_at hl 1 rfl) ?_
      exact tw_endi hx hb hr hlocks hK hT hS hQ ((iv_mono h11 (by decide) (by decide))) dX12_end_20
    · have q15 : x8.toInt < a1.toInt := ti_nle c9
      have h16 : iv 1 2147483647 a1 := iv_gtL (y := x8) h5 h6 q15 (by decide)
      refine lv_iconst (v := (-1)) hx hb dX12_end_12 (by decide) ?_
      exact tw_endi hx hb hr hlocks hK hT hS hQ ((iv_mono (iv_c (c := (-1)) (n := (-1)) (by decide)) (by decide) (by decide))) dX12_end_13
def Lt_X12_entry : WL := [(14, 0, 2000000), (23, 5, 6), (23, 178, 226)]
def LRt_X12_entry : WL := []
set_option maxRecDepth 100000 in
set_option maxHeartbeats 4000000 in
theorem t_X12_entry (l : Launch) (D : va_G) (cy : Nat → ClassId) (tx : (Nat → Nat) × (Nat → Nat)) (base Z : Nat) (K N : Nat → Nat) (Ma : MT) (Ra : RT) (Ja : JT) (hTy : Ty Z K N Ma Ra) (a0 : Nat) (hz_a0 : a0 < Z) (hk_a0 : K a0 = 12) (a1 : Int32) (h_a1 : iv (-2147483648) 2147483647 a1) (a2 : Int32) (h_a2 : iv (-2147483648) 2147483647 a2) (a3 : Int32) (h_a3 : iv (-2147483648) 2147483647 a3) (a4 : Int32) (h_a4 : iv (-2147483648) 2147483647 a4) : Met l yX12_entry [Cond.code yX12_entry cX12_entry 6 (some .int)] (md_rm 2 0 0) (va_Pc [.ref (base + a0), .int a1, .int a2, .int a3, .int a4] (md_U D cy tx base Z K N Ma Ra Ja)) (mQi D cy tx base (fun r u => TP Z K N Lt_X12_entry LRt_X12_entry Ma Ra u ∧ (iv (-2) 12 r))) 0 0 (fun q => base ≤ q) := by
  refine tw_ofW (L := Lt_X12_entry) (LR := LRt_X12_entry) (by decide) (Nat.le_of_ble_eq_true rfl) hTy ?_
  intro p e s m args below meth c Q ls hx hb hr hlocks hown hml hW hK hT hS hQ hl
  have hl : lv_has ls 6 [(0, .ref (base + a0)), (1, .int a1), (2, .int a2), (3, .int a3), (4, .int a4)] := hl
  refine lv_iload_n hx hb dX12_entry_0 rfl (lv_at hl 1 rfl) ?_
  refine lv_iconst (v := (-1)) hx hb dX12_entry_1 (by decide) ?_
  refine lv_icmp_ne (tgt := 14) hx hb dX12_entry_2 (by decide) (fun c1 => ?_) (fun c1 => ?_)
  · have q2 : ¬ a1.toInt = (-1) := ti_ne c1
    refine lv_aload_n hx hb dX12_entry_14 rfl (lv_at hl 0 rfl) ?_
    refine tw_getr hx hb hW hown hK hS f_X12_45_11 hz_a0 hk_a0 (t := 23) (n := 226) rfl dX12_entry_15 (fun b3 k4 hz_b3 hk_b3 hn_b3 => ?_)
    have hn_b3 := hn_b3 (by decide)
    refine lv_iconst (v := 0) hx hb dX12_entry_18 (by decide) ?_
    refine tw_iald hx hb hK hS hz_b3 hk_b3 (Or.inr (by decide)) hn_b3 (lo := 0) (hi := 10) (iv_c (c := 0) (n := 0) (by decide)) ⟨by decide, by decide⟩ (rg_c (k0 := 0) rfl rfl rfl) dX12_entry_19 (fun x7 k6 h5 => ?_)
    refine lv_if_eq (tgt := 70) hx hb dX12_entry_20 (by decide) (fun c8 => ?_) (fun c8 => ?_)
    · have q9 : x7.toInt = 0 := ti_eq c8
      have h10 : iv 0 0 x7 := ⟨by have := (h5).1; have := ((iv_c (c := 0) (n := 0) (by decide))).1; omega, by have := (h5).2; have := ((iv_c (c := 0) (n := 0) (by decide))).2; omega⟩
      refine lv_aload_n hx hb dX12_entry_70 rfl (lv_at hl 0 rfl) ?_
      refine lv_iconst (v := 0) hx hb dX12_entry_71 (by decide) ?_
      refine tw_goi hS (md_runV (As := [.int 0]) (rest := []) hx hb hml hown hW hK hT hS.1 (t_X12_refuses l D cy tx base Z K N Ma Ra Ja hS.2.1 a0 hz_a0 hk_a0 0 (iv_mono (iv_c (c := 0) (n := 0) (by decide)) (by decide) (by decide))) s_X12_338 ⟨rfl, rfl, ⟨Nat.le_of_ble_eq_true rfl, Nat.le_of_ble_eq_true rfl⟩, ⟨Nat.le_of_ble_eq_true rfl, Nat.le_of_ble_eq_true rfl⟩⟩ hz_a0 hk_a0 (by decide) rfl rfl hl.1 rfl (Nat.le_of_ble_eq_true rfl) dX12_entry_72) rfl rfl (fun x17 H locs M14 R15 J13 hS f11 g12 E16 => ?_)
      have eR15 := Fr.nil g12 rfl
      subst eR15
      have h_x17 := E16
      exact tw_endi hx hb hr hlocks hK hT hS hQ ((iv_mono h_x17 (by decide) (by decide))) dX12_entry_75
    · have q18 : ¬ x7.toInt = 0 := ti_ne c8
      have h19 : iv 1 10 x7 := ⟨by have := (h5).1; have := ((iv_c (c := 0) (n := 0) (by decide))).1; have := ((iv_c (c := 0) (n := 0) (by decide))).2; omega, by have := (h5).2; have := ((iv_c (c := 0) (n := 0) (by decide))).1; have := ((iv_c (c := 0) (n := 0) (by decide))).2; omega⟩
      refine lv_aload_n hx hb dX12_entry_23 rfl (lv_at hl 0 rfl) ?_
      refine lv_iload_n hx hb dX12_entry_24 rfl (lv_at hl 1 rfl) ?_
      refine tw_goi hS (md_runV (As := [.int a1]) (rest := []) hx hb hml hown hW hK hT hS.1 (t_X12_isSet l D cy tx base Z K N Ma Ra Ja hS.2.1 a0 hz_a0 hk_a0 a1 h_a1) s_X12_404 ⟨rfl, rfl, ⟨Nat.le_of_ble_eq_true rfl, Nat.le_of_ble_eq_true rfl⟩, ⟨Nat.le_of_ble_eq_true rfl, Nat.le_of_ble_eq_true rfl⟩⟩ hz_a0 hk_a0 (by decide) rfl rfl hl.1 rfl (Nat.le_of_ble_eq_true rfl) dX12_entry_25) rfl rfl (fun x26 H locs M23 R24 J22 hS f20 g21 E25 => ?_)
      have eM23 := Fr.nil f20 rfl
      subst eM23
      have eR24 := Fr.nil g21 rfl
      subst eR24
      have h_x26 := E25
      refine lv_if_eq (tgt := 70) hx hb dX12_entry_28 (by decide) (fun c27 => ?_) (fun c27 => ?_)
      · have q28 : x26.toInt = 0 := ti_eq c27
        have h29 : iv 0 0 x26 := ⟨by have := (h_x26).1; have := ((iv_c (c := 0) (n := 0) (by decide))).1; omega, by have := (h_x26).2; have := ((iv_c (c := 0) (n := 0) (by decide))).2; omega⟩
        refine lv_aload_n hx hb dX12_entry_70 rfl (lv_at hl 0 rfl) ?_
        refine lv_iconst (v := 0) hx hb dX12_entry_71 (by decide) ?_
        refine tw_goi hS (md_runV (As := [.int 0]) (rest := []) hx hb hml hown hW hK hT hS.1 (t_X12_refuses l D cy tx base Z K N Ma Ra J22 hS.2.1 a0 hz_a0 hk_a0 0 (iv_mono (iv_c (c := 0) (n := 0) (by decide)) (by decide) (by decide))) s_X12_338 ⟨rfl, rfl, ⟨Nat.le_of_ble_eq_true rfl, Nat.le_of_ble_eq_true rfl⟩, ⟨Nat.le_of_ble_eq_true rfl, Nat.le_of_ble_eq_true rfl⟩⟩ hz_a0 hk_a0 (by decide) rfl rfl hl.1 rfl (Nat.le_of_ble_eq_true rfl) dX12_entry_72) rfl rfl (fun x36 H locs M33 R34 J32 hS f30 g31 E35 => ?_)
        have eR34 := Fr.nil g31 rfl
        subst eR34
        have h_x36 := E35
        exact tw_endi hx hb hr hlocks hK hT hS hQ ((iv_mono h_x36 (by decide) (by decide))) dX12_entry_75
      · have q37 : ¬ x26.toInt = 0 := ti_ne c27
        have h38 : iv 1 1 x26 := ⟨by have := (h_x26).1; have := ((iv_c (c := 0) (n := 0) (by decide))).1; have := ((iv_c (c := 0) (n := 0) (by decide))).2; omega, by have := (h_x26).2; have := ((iv_c (c := 0) (n := 0) (by decide))).1; have := ((iv_c (c := 0) (n := 0) (by decide))).2; omega⟩
        refine lv_aload_n hx hb dX12_entry_31 rfl (lv_at hl 0 rfl) ?_
        refine lv_iload_n hx hb dX12_entry_32 rfl (lv_at hl 2 rfl) ?_
        refine tw_goi hS (md_runV (As := [.int a2]) (rest := []) hx hb hml hown hW hK hT hS.1 (t_X12_isSet l D cy tx base Z K N Ma Ra J22 hS.2.1 a0 hz_a0 hk_a0 a2 h_a2) s_X12_404 ⟨rfl, rfl, ⟨Nat.le_of_ble_eq_true rfl, Nat.le_of_ble_eq_true rfl⟩, ⟨Nat.le_of_ble_eq_true rfl, Nat.le_of_ble_eq_true rfl⟩⟩ hz_a0 hk_a0 (by decide) rfl rfl hl.1 rfl (Nat.le_of_ble_eq_true rfl) dX12_entry_33) rfl rfl (fun x45 H locs M42 R43 J41 hS f39 g40 E44 => ?_)
        have eM42 := Fr.nil f39 rfl
        subst eM42
        have eR43 := Fr.nil g40 rfl
        subst eR43
        have h_x45 := E44
        refine lv_if_eq (tgt := 70) hx hb dX12_entry_36 (by decide) (fun c46 => ?_) (fun c46 => ?_)
        · have q47 : x45.toInt = 0 := ti_eq c46
          have h48 : iv 0 0 x45 := ⟨by have := (h_x45).1; have := ((iv_c (c := 0) (n := 0) (by decide))).1; omega, by have := (h_x45).2; have := ((iv_c (c := 0) (n := 0) (by decide))).2; omega⟩
          refine lv_aload_n hx hb dX12_entry_70 rfl (lv_at hl 0 rfl) ?_
          refine lv_iconst (v := 0) hx hb dX12_entry_71 (by decide) ?_
          refine tw_goi hS (md_runV (As := [.int 0]) (rest := []) hx hb hml hown hW hK hT hS.1 (t_X12_refuses l D cy tx base Z K N Ma Ra J41 hS.2.1 a0 hz_a0 hk_a0 0 (iv_mono (iv_c (c := 0) (n := 0) (by decide)) (by decide) (by decide))) s_X12_338 ⟨rfl, rfl, ⟨Nat.le_of_ble_eq_true rfl, Nat.le_of_ble_eq_true rfl⟩, ⟨Nat.le_of_ble_eq_true rfl, Nat.le_of_ble_eq_true rfl⟩⟩ hz_a0 hk_a0 (by decide) rfl rfl hl.1 rfl (Nat.le_of_ble_eq_true rfl) dX12_entry_72) rfl rfl (fun x55 H locs M52 R53 J51 hS f49 g50 E54 => ?_)
          have eR53 := Fr.nil g50 rfl
          subst eR53
          have h_x55 := E54
          exact tw_endi hx hb hr hlocks hK hT hS hQ ((iv_mono h_x55 (by decide) (by decide))) dX12_entry_75
        · have q56 : ¬ x45.toInt = 0 := ti_ne c46
          have h57 : iv 1 1 x45 := ⟨by have := (h_x45).1; have := ((iv_c (c := 0) (n := 0) (by decide))).1; have := ((iv_c (c := 0) (n := 0) (by decide))).2; omega, by have := (h_x45).2; have := ((iv_c (c := 0) (n := 0) (by decide))).1; have := ((iv_c (c := 0) (n := 0) (by decide))).2; omega⟩
          refine lv_iload_n hx hb dX12_entry_39 rfl (lv_at hl 1 rfl) ?_
          refine lv_iload_n hx hb dX12_entry_40 rfl (lv_at hl 2 rfl) ?_
          refine lv_iand hx hb dX12_entry_41 ?_
          refine tw_top (fun x59 => ?_)
          have h58 := iv_any x59
          refine lv_if_ne (tgt := 70) hx hb dX12_entry_42 (by decide) (fun c60 => ?_) (fun c60 => ?_)
          · have q61 : ¬ x59.toInt = 0 := ti_ne c60
            refine lv_aload_n hx hb dX12_entry_70 rfl (lv_at hl 0 rfl) ?_
            refine lv_iconst (v := 0) hx hb dX12_entry_71 (by decide) ?_
            refine tw_goi hS (md_runV (As := [.int 0]) (rest := []) hx hb hml hown hW hK hT hS.1 (t_X12_refuses l D cy tx base Z K N Ma Ra J41 hS.2.1 a0 hz_a0 hk_a0 0 (iv_mono (iv_c (c := 0) (n := 0) (by decide)) (by decide) (by decide))) s_X12_338 ⟨rfl, rfl, ⟨Nat.le_of_ble_eq_true rfl, Nat.le_of_ble_eq_true rfl⟩, ⟨Nat.le_of_ble_eq_true rfl, Nat.le_of_ble_eq_true rfl⟩⟩ hz_a0 hk_a0 (by decide) rfl rfl hl.1 rfl (Nat.le_of_ble_eq_true rfl) dX12_entry_72) rfl rfl (fun x68 H locs M65 R66 J64 hS f62 g63 E67 => ?_)
            have eR66 := Fr.nil g63 rfl
            subst eR66
            have h_x68 := E67
            exact tw_endi hx hb hr hlocks hK hT hS hQ ((iv_mono h_x68 (by decide) (by decide))) dX12_entry_75
          · have q69 : x59.toInt = 0 := ti_eq c60
            have h70 : iv 0 0 x59 := ⟨by have := (h58).1; have := ((iv_c (c := 0) (n := 0) (by decide))).1; omega, by have := (h58).2; have := ((iv_c (c := 0) (n := 0) (by decide))).2; omega⟩
            refine lv_iload_n hx hb dX12_entry_45 rfl (lv_at hl 3 rfl) ?_
            refine lv_i2l hx hb dX12_entry_46 rfl ?_
            refine lv_lconst (v := 0) hx hb dX12_entry_47 (by decide) ?_
            refine lv_ldc2 hx hb hown (hW _ w_8_145 rfl) dX12_entry_48 ?_
            refine tw_goi hS (md_runS (As := [.long a3.toInt64, .long 0, .long 99999]) (rest := []) hx hb hml hown hW hK hT hS.1 (t_X12_in l D cy tx base Z K N Ma Ra J41 hS.2.1 (a3.toInt64) (0) (99999)) s_X12_155 ⟨rfl, rfl, ⟨Nat.le_of_ble_eq_true rfl, Nat.le_of_ble_eq_true rfl⟩, ⟨Nat.le_of_ble_eq_true rfl, Nat.le_of_ble_eq_true rfl⟩⟩ rfl hl.1 rfl (Nat.le_of_ble_eq_true rfl) dX12_entry_51) rfl rfl (fun x77 H locs M74 R75 J73 hS f71 g72 E76 => ?_)
            have eM74 := Fr.nil f71 rfl
            subst eM74
            have eR75 := Fr.nil g72 rfl
            subst eR75
            obtain ⟨h_x77, p78⟩ := E76
            refine lv_if_eq (tgt := 70) hx hb dX12_entry_54 (by decide) (fun c79 => ?_) (fun c79 => ?_)
            · have q80 : x77.toInt = 0 := ti_eq c79
              have h81 : iv 0 0 x77 := ⟨by have := (h_x77).1; have := ((iv_c (c := 0) (n := 0) (by decide))).1; omega, by have := (h_x77).2; have := ((iv_c (c := 0) (n := 0) (by decide))).2; omega⟩
              refine lv_aload_n hx hb dX12_entry_70 rfl (lv_at hl 0 rfl) ?_
              refine lv_iconst (v := 0) hx hb dX12_entry_71 (by decide) ?_
              refine tw_goi hS (md_runV (As := [.int 0]) (rest := []) hx hb hml hown hW hK hT hS.1 (t_X12_refuses l D cy tx base Z K N Ma Ra J73 hS.2.1 a0 hz_a0 hk_a0 0 (iv_mono (iv_c (c := 0) (n := 0) (by decide)) (by decide) (by decide))) s_X12_338 ⟨rfl, rfl, ⟨Nat.le_of_ble_eq_true rfl, Nat.le_of_ble_eq_true rfl⟩, ⟨Nat.le_of_ble_eq_true rfl, Nat.le_of_ble_eq_true rfl⟩⟩ hz_a0 hk_a0 (by decide) rfl rfl hl.1 rfl (Nat.le_of_ble_eq_true rfl) dX12_entry_72) rfl rfl (fun x88 H locs M85 R86 J84 hS f82 g83 E87 => ?_)
              have eR86 := Fr.nil g83 rfl
              subst eR86
              have h_x88 := E87
              exact tw_endi hx hb hr hlocks hK hT hS hQ ((iv_mono h_x88 (by decide) (by decide))) dX12_entry_75
            · have q89 : ¬ x77.toInt = 0 := ti_ne c79
              have h90 : iv 1 1 x77 := ⟨by have := (h_x77).1; have := ((iv_c (c := 0) (n := 0) (by decide))).1; have := ((iv_c (c := 0) (n := 0) (by decide))).2; omega, by have := (h_x77).2; have := ((iv_c (c := 0) (n := 0) (by decide))).1; have := ((iv_c (c := 0) (n := 0) (by decide))).2; omega⟩
              have h91 : iv 0 99999 a3 := in2iv (p78 c79) ((jv_c (x := 0) (n := 0) (by decide))).1 ((jv_c (x := 99999) (n := 99999) (by decide))).2
              refine lv_iload hx hb dX12_entry_57 (lv_at hl 4 rfl) ?_
              refine lv_i2l hx hb dX12_entry_59 rfl ?_
              refine lv_lconst (v := 0) hx hb dX12_entry_60 (by decide) ?_
              refine lv_ldc2 hx hb hown (hW _ w_8_145 rfl) dX12_entry_61 ?_
              refine tw_goi hS (md_runS (As := [.long a4.toInt64, .long 0, .long 99999]) (rest := []) hx hb hml hown hW hK hT hS.1 (t_X12_in l D cy tx base Z K N Ma Ra J73 hS.2.1 (a4.toInt64) (0) (99999)) s_X12_155 ⟨rfl, rfl, ⟨Nat.le_of_ble_eq_true rfl, Nat.le_of_ble_eq_true rfl⟩, ⟨Nat.le_of_ble_eq_true rfl, Nat.le_of_ble_eq_true rfl⟩⟩ rfl hl.1 rfl (Nat.le_of_ble_eq_true rfl) dX12_entry_64) rfl rfl (fun x98 H locs M95 R96 J94 hS f92 g93 E97 => ?_)
              have eM95 := Fr.nil f92 rfl
              subst eM95
              have eR96 := Fr.nil g93 rfl
              subst eR96
              obtain ⟨h_x98, p99⟩ := E97
              refine lv_if_ne (tgt := 76) hx hb dX12_entry_67 (by decide) (fun c100 => ?_) (fun c100 => ?_)
              · have q101 : ¬ x98.toInt = 0 := ti_ne c100
                have h102 : iv 1 1 x98 := ⟨by have := (h_x98).1; have := ((iv_c (c := 0) (n := 0) (by decide))).1; have := ((iv_c (c := 0) (n := 0) (by decide))).2; omega, by have := (h_x98).2; have := ((iv_c (c := 0) (n := 0) (by decide))).1; have := ((iv_c (c := 0) (n := 0) (by decide))).2; omega⟩
                have h103 : iv 0 99999 a4 := in2iv (p99 c100) ((jv_c (x := 0) (n := 0) (by decide))).1 ((jv_c (x := 99999) (n := 99999) (by decide))).2
                refine lv_aload_n hx hb dX12_entry_76 rfl (lv_at hl 0 rfl) ?_
                refine tw_getrk hx hb hW hown hK hS f_X12_45_11 hz_a0 hk_a0 (b := b3) k4 dX12_entry_77 ?_
                refine lv_iconst (v := 5) hx hb dX12_entry_80 (by decide) ?_
                refine tw_iald hx hb hK hS hz_b3 hk_b3 (Or.inr (by decide)) hn_b3 (lo := 0) (hi := 12) (iv_c (c := 5) (n := 5) (by decide)) ⟨by decide, by decide⟩ (rg_c (k0 := 5) rfl rfl rfl) dX12_entry_81 (fun x106 k105 h104 => ?_)
                refine lv_bipush (v := 12) hx hb dX12_entry_82 (by decide) ?_
                refine lv_icmp_ne (tgt := 93) hx hb dX12_entry_84 (by decide) (fun c107 => ?_) (fun c107 => ?_)
                · have q108 : ¬ x106.toInt = 12 := ti_ne c107
                  have h109 : iv 0 11 x106 := ⟨by have := (h104).1; have := ((iv_c (c := 12) (n := 12) (by decide))).1; have := ((iv_c (c := 12) (n := 12) (by decide))).2; omega, by have := (h104).2; have := ((iv_c (c := 12) (n := 12) (by decide))).1; have := ((iv_c (c := 12) (n := 12) (by decide))).2; omega⟩
                  refine lv_sipush (v := 178) hx hb dX12_entry_93 (by decide) ?_
                  refine lv_iconst (v := 4) hx hb dX12_entry_96 (by decide) ?_
                  refine lv_aload_n hx hb dX12_entry_97 rfl (lv_at hl 0 rfl) ?_
                  refine tw_getrk hx hb hW hown hK hS f_X12_45_11 hz_a0 hk_a0 (b := b3) k4 dX12_entry_98 ?_
                  refine lv_iconst (v := 5) hx hb dX12_entry_101 (by decide) ?_
                  refine tw_ialk hx hb hK hS hz_b3 hk_b3 (Or.inr (by decide)) hn_b3 (iv_c (c := 5) (n := 5) (by decide)) ⟨by decide, by decide⟩ (v := x106) k105 dX12_entry_102 ?_
                  refine tw_icmul (k := 4) (lo := 0) (hi := 44) hx hb (by decide) h109 (by decide) ⟨by decide, by decide⟩ ⟨by decide, by decide⟩ dX12_entry_103 (fun x112 e111 h110 => ?_)
                  refine tw_iadd (lo := 178) (hi := 222) hx hb (iv_c (c := 178) (n := 178) (by decide)) h110 ⟨by decide, by decide⟩ ⟨by decide, by decide⟩ dX12_entry_104 (fun x115 e114 h113 => ?_)
                  have e114 : x115.toInt = 178 + x112.toInt := e114
                  refine lv_istore (lv' := [(5, .int x115), (0, .ref (base + a0)), (1, .int a1), (2, .int a2), (3, .int a3), (4, .int a4)]) hx hb dX12_entry_105 hl (by decide) rfl (fun ls hl => ?_)
                  refine lv_aload_n hx hb dX12_entry_107 rfl (lv_at hl 1 rfl) ?_
                  refine tw_getrk hx hb hW hown hK hS f_X12_45_11 hz_a0 hk_a0 (b := b3) k4 dX12_entry_108 ?_
                  refine lv_iload hx hb dX12_entry_111 (lv_at hl 0 rfl) ?_
                  refine lv_iload_n hx hb dX12_entry_113 rfl (lv_at hl 2 rfl) ?_
                  refine tw_iast hx hb hK hS hz_b3 hk_b3 (Or.inr (by decide)) hn_b3 h113 ⟨by decide, by decide⟩ h_a1 (rg_sas (Or.inr (by decide)) ⟨by decide, by decide⟩) (jl := 178) (jh := 222) ⟨by decide, by decide⟩ rfl dX12_entry_114 (fun H locs M118 hS k116 f117 => ?_)
                  refine lv_aload_n hx hb dX12_entry_115 rfl (lv_at hl 1 rfl) ?_
                  refine tw_getrk hx hb hW hown hK hS f_X12_45_11 hz_a0 hk_a0 (b := b3) k4 dX12_entry_116 ?_
                  refine lv_iload hx hb dX12_entry_119 (lv_at hl 0 rfl) ?_
                  refine lv_iconst (v := 1) hx hb dX12_entry_121 (by decide) ?_
                  refine tw_iadd (lo := 179) (hi := 223) hx hb h113 (iv_c (c := 1) (n := 1) (by decide)) ⟨by decide, by decide⟩ ⟨by decide, by decide⟩ dX12_entry_122 (fun x121 e120 h119 => ?_)
                  have e120 : x121.toInt = x115.toInt + 1 := e120
                  refine lv_iload_n hx hb dX12_entry_123 rfl (lv_at hl 3 rfl) ?_
                  refine tw_iast hx hb hK hS hz_b3 hk_b3 (Or.inr (by decide)) hn_b3 h119 ⟨by decide, by decide⟩ h_a2 (rg_sas (Or.inr (by decide)) ⟨by decide, by decide⟩) (jl := 179) (jh := 223) ⟨by decide, by decide⟩ rfl dX12_entry_124 (fun H locs M124 hS k122 f123 => ?_)
                  refine lv_aload_n hx hb dX12_entry_125 rfl (lv_at hl 1 rfl) ?_
                  refine tw_getrk hx hb hW hown hK hS f_X12_45_11 hz_a0 hk_a0 (b := b3) k4 dX12_entry_126 ?_
                  refine lv_iload hx hb dX12_entry_129 (lv_at hl 0 rfl) ?_
                  refine lv_iconst (v := 2) hx hb dX12_entry_131 (by decide) ?_
                  refine tw_iadd (lo := 180) (hi := 224) hx hb h113 (iv_c (c := 2) (n := 2) (by decide)) ⟨by decide, by decide⟩ ⟨by decide, by decide⟩ dX12_entry_132 (fun x127 e126 h125 => ?_)
                  have e126 : x127.toInt = x115.toInt + 2 := e126
                  refine lv_iload_n hx hb dX12_entry_133 rfl (lv_at hl 4 rfl) ?_
                  refine tw_iast hx hb hK hS hz_b3 hk_b3 (Or.inr (by decide)) hn_b3 h125 ⟨by decide, by decide⟩ h91 (rg_sas (Or.inr (by decide)) ⟨by decide, by decide⟩) (jl := 180) (jh := 224) ⟨by decide, by decide⟩ rfl dX12_entry_134 (fun H locs M130 hS k128 f129 => ?_)
                  refine lv_aload_n hx hb dX12_entry_135 rfl (lv_at hl 1 rfl) ?_
                  refine tw_getrk hx hb hW hown hK hS f_X12_45_11 hz_a0 hk_a0 (b := b3) k4 dX12_entry_136 ?_
                  refine lv_iload hx hb dX12_entry_139 (lv_at hl 0 rfl) ?_
                  refine lv_iconst (v := 3) hx hb dX12_entry_141 (by decide) ?_
                  refine tw_iadd (lo := 181) (hi := 225) hx hb h113 (iv_c (c := 3) (n := 3) (by decide)) ⟨by decide, by decide⟩ ⟨by decide, by decide⟩ dX12_entry_142 (fun x133 e132 h131 => ?_)
                  have e132 : x133.toInt = x115.toInt + 3 := e132
                  refine lv_iload hx hb dX12_entry_143 (lv_at hl 5 rfl) ?_
                  refine tw_iast hx hb hK hS hz_b3 hk_b3 (Or.inr (by decide)) hn_b3 h131 ⟨by decide, by decide⟩ h103 (rg_sas (Or.inr (by decide)) ⟨by decide, by decide⟩) (jl := 181) (jh := 225) ⟨by decide, by decide⟩ rfl dX12_entry_145 (fun H locs M136 hS k134 f135 => ?_)
                  refine lv_aload_n hx hb dX12_entry_146 rfl (lv_at hl 1 rfl) ?_
                  refine tw_getrk hx hb hW hown hK hS f_X12_45_11 hz_a0 hk_a0 (b := b3) k4 dX12_entry_147 ?_
                  refine lv_iconst (v := 5) hx hb dX12_entry_150 (by decide) ?_
                  refine lv_dup2_11 hx hb dX12_entry_151 rfl rfl ?_
                  have k137 : M136 b3 (5 : Int32).toNatClampNeg = x106 := ((Fr.kp (k := (5 : Int32).toNatClampNeg) f135 hk_b3 rfl).trans ((Fr.kp (k := (5 : Int32).toNatClampNeg) f129 hk_b3 rfl).trans ((Fr.kp (k := (5 : Int32).toNatClampNeg) f123 hk_b3 rfl).trans (Fr.kp (k := (5 : Int32).toNatClampNeg) f117 hk_b3 rfl)))).trans k105
                  refine tw_ialk hx hb hK hS hz_b3 hk_b3 (Or.inr (by decide)) hn_b3 (iv_c (c := 5) (n := 5) (by decide)) ⟨by decide, by decide⟩ (v := x106) k137 dX12_entry_152 ?_
                  refine lv_iconst (v := 1) hx hb dX12_entry_153 (by decide) ?_
                  refine tw_iadd (lo := 1) (hi := 12) hx hb h109 (iv_c (c := 1) (n := 1) (by decide)) ⟨by decide, by decide⟩ ⟨by decide, by decide⟩ dX12_entry_154 (fun x140 e139 h138 => ?_)
                  have e139 : x140.toInt = x106.toInt + 1 := e139
                  refine tw_iast hx hb hK hS hz_b3 hk_b3 (Or.inr (by decide)) hn_b3 (iv_c (c := 5) (n := 5) (by decide)) ⟨by decide, by decide⟩ h138 (rg_cs (k0 := 5) rfl rfl rfl ⟨by decide, by decide⟩) (jl := 5) (jh := 5) ⟨by decide, by decide⟩ rfl dX12_entry_155 (fun H locs M143 hS k141 f142 => ?_)
                  refine lv_aload_n hx hb dX12_entry_156 rfl (lv_at hl 1 rfl) ?_
                  refine tw_getrk hx hb hW hown hK hS f_X12_45_11 hz_a0 hk_a0 (b := b3) k4 dX12_entry_157 ?_
                  refine lv_iconst (v := 5) hx hb dX12_entry_160 (by decide) ?_
                  refine tw_ialk hx hb hK hS hz_b3 hk_b3 (Or.inr (by decide)) hn_b3 (iv_c (c := 5) (n := 5) (by decide)) ⟨by decide, by decide⟩ (v := x140) k141 dX12_entry_161 ?_
                  exact tw_endi hx hb hr hlocks hK hT hS hQ ((iv_mono h138 (by decide) (by decide))) dX12_entry_162
                · have q144 : x106.toInt = 12 := ti_eq c107
                  have h145 : iv 12 12 x106 := ⟨by have := (h104).1; have := ((iv_c (c := 12) (n := 12) (by decide))).1; omega, by have := (h104).2; have := ((iv_c (c := 12) (n := 12) (by decide))).2; omega⟩
                  refine lv_aload_n hx hb dX12_entry_87 rfl (lv_at hl 0 rfl) ?_
                  refine lv_iconst (v := 1) hx hb dX12_entry_88 (by decide) ?_
                  refine tw_goi hS (md_runV (As := [.int 1]) (rest := []) hx hb hml hown hW hK hT hS.1 (t_X12_refuses l D cy tx base Z K N Ma Ra J94 hS.2.1 a0 hz_a0 hk_a0 1 (iv_mono (iv_c (c := 1) (n := 1) (by decide)) (by decide) (by decide))) s_X12_338 ⟨rfl, rfl, ⟨Nat.le_of_ble_eq_true rfl, Nat.le_of_ble_eq_true rfl⟩, ⟨Nat.le_of_ble_eq_true rfl, Nat.le_of_ble_eq_true rfl⟩⟩ hz_a0 hk_a0 (by decide) rfl rfl hl.1 rfl (Nat.le_of_ble_eq_true rfl) dX12_entry_89) rfl rfl (fun x152 H locs M149 R150 J148 hS f146 g147 E151 => ?_)
                  have eR150 := Fr.nil g147 rfl
                  subst eR150
                  have h_x152 := E151
                  exact tw_endi hx hb hr hlocks hK hT hS hQ ((iv_mono h_x152 (by decide) (by decide))) dX12_entry_92
              · have q153 : x98.toInt = 0 := ti_eq c100
                have h154 : iv 0 0 x98 := ⟨by have := (h_x98).1; have := ((iv_c (c := 0) (n := 0) (by decide))).1; omega, by have := (h_x98).2; have := ((iv_c (c := 0) (n := 0) (by decide))).2; omega⟩
                refine lv_aload_n hx hb dX12_entry_70 rfl (lv_at hl 0 rfl) ?_
                refine lv_iconst (v := 0) hx hb dX12_entry_71 (by decide) ?_
                refine tw_goi hS (md_runV (As := [.int 0]) (rest := []) hx hb hml hown hW hK hT hS.1 (t_X12_refuses l D cy tx base Z K N Ma Ra J94 hS.2.1 a0 hz_a0 hk_a0 0 (iv_mono (iv_c (c := 0) (n := 0) (by decide)) (by decide) (by decide))) s_X12_338 ⟨rfl, rfl, ⟨Nat.le_of_ble_eq_true rfl, Nat.le_of_ble_eq_true rfl⟩, ⟨Nat.le_of_ble_eq_true rfl, Nat.le_of_ble_eq_true rfl⟩⟩ hz_a0 hk_a0 (by decide) rfl rfl hl.1 rfl (Nat.le_of_ble_eq_true rfl) dX12_entry_72) rfl rfl (fun x161 H locs M158 R159 J157 hS f155 g156 E160 => ?_)
                have eR159 := Fr.nil g156 rfl
                subst eR159
                have h_x161 := E160
                exact tw_endi hx hb hr hlocks hK hT hS hQ ((iv_mono h_x161 (by decide) (by decide))) dX12_entry_75
  · have q162 : a1.toInt = (-1) := ti_eq c1
    have h163 : iv (-1) (-1) a1 := ⟨by have := (h_a1).1; have := ((iv_c (c := (-1)) (n := (-1)) (by decide))).1; omega, by have := (h_a1).2; have := ((iv_c (c := (-1)) (n := (-1)) (by decide))).2; omega⟩
    refine lv_aload_n hx hb dX12_entry_5 rfl (lv_at hl 0 rfl) ?_
    refine tw_getr hx hb hW hown hK hS f_X12_45_11 hz_a0 hk_a0 (t := 23) (n := 226) rfl dX12_entry_6 (fun b164 k165 hz_b164 hk_b164 hn_b164 => ?_)
    have hn_b164 := hn_b164 (by decide)
    refine lv_iconst (v := 5) hx hb dX12_entry_9 (by decide) ?_
    refine lv_iconst (v := 0) hx hb dX12_entry_10 (by decide) ?_
    refine tw_iast hx hb hK hS hz_b164 hk_b164 (Or.inr (by decide)) hn_b164 (iv_c (c := 5) (n := 5) (by decide)) ⟨by decide, by decide⟩ (iv_c (c := 0) (n := 0) (by decide)) (rg_0 ⟨rfl, rfl⟩) (jl := 5) (jh := 5) ⟨by decide, by decide⟩ rfl dX12_entry_11 (fun H locs M168 hS k166 f167 => ?_)
    refine lv_iconst (v := 0) hx hb dX12_entry_12 (by decide) ?_
    exact tw_endi hx hb hr hlocks hK hT hS hQ ((iv_mono (iv_c (c := 0) (n := 0) (by decide)) (by decide) (by decide))) dX12_entry_13
def Lt_X12_four : WL := [(12, 1, 2), (13, 0, 2000000)]
def LRt_X12_four : WL := []
set_option maxRecDepth 100000 in
set_option maxHeartbeats 4000000 in
theorem t_X12_four (l : Launch) (D : va_G) (cy : Nat → ClassId) (tx : (Nat → Nat) × (Nat → Nat)) (base Z : Nat) (K N : Nat → Nat) (Ma : MT) (Ra : RT) (Ja : JT) (hTy : Ty Z K N Ma Ra) (a0 : Nat) (hz_a0 : a0 < Z) (hk_a0 : K a0 = 12) (a1 : Int32) (h_a1 : iv (-2147483648) 2147483647 a1) (t0 : Int32) (k_t0 : Ma a0 1 = t0) (h_t0 : iv 0 396 t0) : Met l yX12_four [Cond.code yX12_four cX12_four 3 none] (md_rm 1 0 0) (va_Pc [.ref (base + a0), .int a1] (md_U D cy tx base Z K N Ma Ra Ja)) (mQv D cy tx base (fun u => TP Z K N Lt_X12_four LRt_X12_four Ma Ra u ∧ ((∃ x : Int32, u.2.2.2.1 a0 1 = x ∧ iv 4 400 x ∧ (x.toInt = t0.toInt + 4))))) 0 0 (fun q => base ≤ q) := by
  refine tw_ofW (L := Lt_X12_four) (LR := LRt_X12_four) (by decide) (Nat.le_of_ble_eq_true rfl) hTy ?_
  intro p e s m args below meth c Q ls hx hb hr hlocks hown hml hW hK hT hS hQ hl
  have hl : lv_has ls 3 [(0, .ref (base + a0)), (1, .int a1)] := hl
  refine lv_bipush (v := 24) hx hb dX12_four_0 (by decide) ?_
  refine lv_istore_n (lv' := [(2, .int 24), (0, .ref (base + a0)), (1, .int a1)]) hx hb dX12_four_2 rfl hl (by decide) rfl (fun ls hl => ?_)
  have W3_2 : ∀ (n_2 : Nat) (x1 : Int32) (x7 : Int32) (M2 : MT) (R3 : RT) (J4 : JT) (H : Heap) (locs : List Loc) (ls : Array Slot) (h_x1 : iv (-8) 24 x1) (h_x7 : iv 0 400 x7) (k8 : M2 a0 1 = x7) (w0_2 : 8 * x7.toInt + x1.toInt = 8 * t0.toInt + 24) (hm_2 : x1.toInt - (-8) < (n_2 : Int)) (hS : SB D cy base Z K N Lt_X12_four LRt_X12_four Ma Ra M2 R3 J4 s H locs) (hl : lv_has ls 3 [(2, .int x1), (0, .ref (base + a0)), (1, .int a1)]), W p l e (md_rm 1 0 0) s m args below meth c H locs 0 0 Q (F0 m 3 ls []) := by
    intro n_2
    induction n_2 with
    | zero =>
      intro x1 x7 M2 R3 J4 H locs ls h_x1 h_x7 k8 w0_2 hm_2 hS hl
      exfalso
      have := (h_a1).1; have := (h_a1).2; have := (h_t0).1; have := (h_t0).2; have := (h_x1).1; have := (h_x1).2; have := (h_x7).1; have := (h_x7).2; omega
    | succ n_2 ih_2 =>
      intro x1 x7 M2 R3 J4 H locs ls h_x1 h_x7 k8 w0_2 hm_2 hS hl
      have f5 := hS.2.2.1
      have g6 := hS.2.2.2
      refine lv_iload_n hx hb dX12_four_3 rfl (lv_at hl 0 rfl) ?_
      refine lv_if_lt (tgt := 36) hx hb dX12_four_4 (by decide) (fun c9 => ?_) (fun c9 => ?_)
      · have q10 : x1.toInt < 0 := ti_lt c9
        have h11 : iv (-8) (-1) x1 := iv_ltL (y := 0) h_x1 (iv_c (c := 0) (n := 0) (by decide)) q10 (by decide)
        have h12 : iv 4 400 x7 := by
          have := (h_a1).1; have := (h_a1).2; have := (h_t0).1; have := (h_t0).2; have := (h11).1; have := (h11).2; have := (h_x7).1; have := (h_x7).2; exact ⟨by omega, by omega⟩
        have q13 : x7.toInt = t0.toInt + 4 := by
          have := (h_a1).1; have := (h_a1).2; have := (h_t0).1; have := (h_t0).2; have := (h11).1; have := (h11).2; have := (h_x7).1; have := (h_x7).2; omega
        exact tw_endv hx hb hr hlocks hK hT hS hQ (⟨x7, k8, h12, q13⟩) dX12_four_36
      · have q14 : 0 ≤ x1.toInt := ti_nlt c9
        have h15 : iv 0 24 x1 := iv_geL (y := 0) h_x1 (iv_c (c := 0) (n := 0) (by decide)) q14 (by decide)
        refine lv_aload_n hx hb dX12_four_7 rfl (lv_at hl 1 rfl) ?_
        refine tw_getr hx hb hW hown hK hS f_X12_7_11 hz_a0 hk_a0 (t := 13) (n := 400) rfl dX12_four_8 (fun b16 k17 hz_b16 hk_b16 hn_b16 => ?_)
        have hn_b16 := hn_b16 (by decide)
        refine lv_aload_n hx hb dX12_four_11 rfl (lv_at hl 1 rfl) ?_
        refine tw_getk hx hb hW hown hK hS f_X12_116_11 hz_a0 hk_a0 (v := x7) k8 dX12_four_12 ?_
        refine lv_iload_n hx hb dX12_four_15 rfl (lv_at hl 2 rfl) ?_
        refine lv_iload_n hx hb dX12_four_16 rfl (lv_at hl 0 rfl) ?_
        refine lv_ishr hx hb dX12_four_17 ?_
        refine tw_top (fun x19 => ?_)
        have h18 := iv_any x19
        refine lv_i2b hx hb dX12_four_18 rfl ?_
        refine tw_top (fun x21 => ?_)
        have h20 := iv_any x21
        have h22 : iv 0 399 x7 := by
          have := (h_a1).1; have := (h_a1).2; have := (h_t0).1; have := (h_t0).2; have := (h15).1; have := (h15).2; have := (h_x7).1; have := (h_x7).2; exact ⟨by omega, by omega⟩
        refine tw_bast hx hb hK hS hz_b16 hk_b16 hn_b16 h22 ⟨by decide, by decide⟩ (jl := 0) (jh := 1999999) ⟨by decide, by decide⟩ rfl dX12_four_19 (fun H locs M24 hS f23 => ?_)
        refine lv_aload_n hx hb dX12_four_20 rfl (lv_at hl 1 rfl) ?_
        refine lv_dup hx hb dX12_four_21 rfl ?_
        have k25 : M24 a0 1 = x7 := (Fr.kp (k := 1) f23 hk_a0 rfl).trans k8
        refine tw_getk hx hb hW hown hK hS f_X12_116_11 hz_a0 hk_a0 (v := x7) k25 dX12_four_22 ?_
        refine lv_iconst (v := 1) hx hb dX12_four_25 (by decide) ?_
        refine tw_iadd (lo := 1) (hi := 400) hx hb h22 (iv_c (c := 1) (n := 1) (by decide)) ⟨by decide, by decide⟩ ⟨by decide, by decide⟩ dX12_four_26 (fun x28 e27 h26 => ?_)
        have e27 : x28.toInt = x7.toInt + 1 := e27
        refine tw_puti hx hb hW hown hK hS f_X12_116_11 hz_a0 hk_a0 rfl rfl (lo := 0) (hi := 400) rfl (iv_mono h26 (by decide) (by decide)) rfl dX12_four_27 (fun H locs M31 hS k29 f30 => ?_)
        refine tw_iinc (lv' := fun x34 => [(2, .int x34), (0, .ref (base + a0)), (1, .int a1)]) (lo := (-8)) (hi := 16) hx hb dX12_four_30 hl (k := 0) rfl h15 (by decide) ⟨by decide, by decide⟩ ⟨by decide, by decide⟩ (by decide) (fun _ => rfl) (fun x34 ls e33 h32 hl => ?_)
        refine lv_goto (tgt := 3) hx hb dX12_four_33 (by decide) ?_
        have w35 : 8 * x28.toInt + x34.toInt = 8 * t0.toInt + 24 := by
          have := (h_a1).1; have := (h_a1).2; have := (h_t0).1; have := (h_t0).2; have := (h15).1; have := (h15).2; have := (h26).1; have := (h26).2; have := (h32).1; have := (h32).2; have := (h22).1; have := (h22).2; omega
        have hm36 : x34.toInt - (-8) < (n_2 : Int) := by
          have := (h_a1).1; have := (h_a1).2; have := (h_t0).1; have := (h_t0).2; have := (h15).1; have := (h15).2; have := (h26).1; have := (h26).2; have := (h32).1; have := (h32).2; have := (h22).1; have := (h22).2; omega
        exact ih_2 x34 x28 M31 R3 J4 H locs _ (iv_mono h32 (by decide) (by decide)) (iv_mono h26 (by decide) (by decide)) k29 w35 hm36 hS hl
  have w37 : 8 * t0.toInt + (24 : Int32).toInt = 8 * t0.toInt + 24 := by
    have := (h_a1).1; have := (h_a1).2; have := (h_t0).1; have := (h_t0).2; have : (24 : Int32).toInt = 24 := (by decide); omega
  have hm38 : (24 : Int32).toInt - (-8) < (((33 : Nat) : Int) : Int) := by
    have := (h_a1).1; have := (h_a1).2; have := (h_t0).1; have := (h_t0).2; have : (24 : Int32).toInt = 24 := (by decide); omega
  exact W3_2 33 24 t0 Ma Ra Ja s.heap [] _ (iv_mono (iv_c (c := 24) (n := 24) (by decide)) (by decide) (by decide)) (iv_mono h_t0 (by decide) (by decide)) k_t0 w37 hm38 hS hl
