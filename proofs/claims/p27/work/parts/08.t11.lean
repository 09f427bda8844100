def Lt_X12_bend : WL := [(14, 0, 2000000), (23, 20, 30)]
def LRt_X12_bend : WL := []
set_option maxRecDepth 100000 in
set_option maxHeartbeats 4000000 in
theorem t_X12_bend (l : Launch) (D : va_G) (cy : Nat → ClassId) (tx : (Nat → Nat) × (Nat → Nat)) (base Z : Nat) (K N : Nat → Nat) (Ma : MT) (Ra : RT) (Ja : JT) (hTy : Ty Z K N Ma Ra) (a0 : Nat) (hz_a0 : a0 < Z) (hk_a0 : K a0 = 12) (a1 : Int32) (h_a1 : iv (-2147483648) 2147483647 a1) (a2 : Int32) (h_a2 : iv (-2147483648) 2147483647 a2) : Met l yX12_bend [Cond.code yX12_bend cX12_bend 4 (some .int)] (md_rm 2 0 0) (va_Pc [.ref (base + a0), .int a1, .int a2] (md_U D cy tx base Z K N Ma Ra Ja)) (mQi D cy tx base (fun r u => TP Z K N Lt_X12_bend LRt_X12_bend Ma Ra u ∧ (iv (-2147483648) 2147483647 r))) 0 0 (fun q => base ≤ q) := by
  refine tw_ofW (L := Lt_X12_bend) (LR := LRt_X12_bend) (by decide) (Nat.le_of_ble_eq_true rfl) hTy ?_
  intro p e s m args below meth c Q ls hx hb hr hlocks hown hml hW hK hT hS hQ hl
  have hl : lv_has ls 4 [(0, .ref (base + a0)), (1, .int a1), (2, .int a2)] := hl
  refine lv_aload_n hx hb dX12_bend_0 rfl (lv_at hl 0 rfl) ?_
  refine lv_iload_n hx hb dX12_bend_1 rfl (lv_at hl 1 rfl) ?_
  refine tw_goi hS (md_runV (As := [.int a1]) (rest := []) hx hb hml hown hW hK hT hS.1 (t_X12_isMember l D cy tx base Z K N Ma Ra Ja hS.2.1 a0 hz_a0 hk_a0 a1 h_a1) s_X12_319 ⟨rfl, rfl, ⟨Nat.le_of_ble_eq_true rfl, Nat.le_of_ble_eq_true rfl⟩, ⟨Nat.le_of_ble_eq_true rfl, Nat.le_of_ble_eq_true rfl⟩⟩ hz_a0 hk_a0 (by decide) rfl rfl hl.1 rfl (Nat.le_of_ble_eq_true rfl) dX12_bend_2) rfl rfl (fun x7 H locs M4 R5 J3 hS f1 g2 E6 => ?_)
  have eM4 := Fr.nil f1 rfl
  subst eM4
  have eR5 := Fr.nil g2 rfl
  subst eR5
  obtain ⟨h_x7, p8⟩ := E6
  refine lv_if_eq (tgt := 22) hx hb dX12_bend_5 (by decide) (fun c9 => ?_) (fun c9 => ?_)
  · have q10 : x7.toInt = 0 := ti_eq c9
    have h11 : iv 0 0 x7 := ⟨by have := (h_x7).1; have := ((iv_c (c := 0) (n := 0) (by decide))).1; omega, by have := (h_x7).2; have := ((iv_c (c := 0) (n := 0) (by decide))).2; omega⟩
    refine lv_aload_n hx hb dX12_bend_22 rfl (lv_at hl 0 rfl) ?_
    refine lv_iconst (v := 0) hx hb dX12_bend_23 (by decide) ?_
    refine tw_goi hS (md_runV (As := [.int 0]) (rest := []) hx hb hml hown hW hK hT hS.1 (t_X12_refuses l D cy tx base Z K N Ma Ra J3 hS.2.1 a0 hz_a0 hk_a0 0 (iv_mono (iv_c (c := 0) (n := 0) (by decide)) (by decide) (by decide))) s_X12_338 ⟨rfl, rfl, ⟨Nat.le_of_ble_eq_true rfl, Nat.le_of_ble_eq_true rfl⟩, ⟨Nat.le_of_ble_eq_true rfl, Nat.le_of_ble_eq_true rfl⟩⟩ hz_a0 hk_a0 (by decide) rfl rfl hl.1 rfl (Nat.le_of_ble_eq_true rfl) dX12_bend_24) rfl rfl (fun x18 H locs M15 R16 J14 hS f12 g13 E17 => ?_)
    have eR16 := Fr.nil g13 rfl
    subst eR16
    have h_x18 := E17
    exact tw_endi hx hb hr hlocks hK hT hS hQ ((iv_mono h_x18 (by decide) (by decide))) dX12_bend_27
  · have q19 : ¬ x7.toInt = 0 := ti_ne c9
    have h20 : iv 1 1 x7 := ⟨by have := (h_x7).1; have := ((iv_c (c := 0) (n := 0) (by decide))).1; have := ((iv_c (c := 0) (n := 0) (by decide))).2; omega, by have := (h_x7).2; have := ((iv_c (c := 0) (n := 0) (by decide))).1; have := ((iv_c (c := 0) (n := 0) (by decide))).2; omega⟩
    have h21 : iv 0 9 a1 := ⟨by have := (p8 c9).1; have := (h_a1).1; omega, by have := (p8 c9).2; have := (h_a1).2; omega⟩
    refine lv_iload_n hx hb dX12_bend_8 rfl (lv_at hl 2 rfl) ?_
    refine lv_i2l hx hb dX12_bend_9 rfl ?_
    refine lv_ldc2 hx hb hown (hW _ w_7_161 rfl) dX12_bend_10 ?_
    refine lv_ldc2 hx hb hown (hW _ w_7_162 rfl) dX12_bend_13 ?_
    refine tw_goi hS (md_runS (As := [.long a2.toInt64, .long (-1), .long 5]) (rest := []) hx hb hml hown hW hK hT hS.1 (t_X12_in l D cy tx base Z K N Ma Ra J3 hS.2.1 (a2.toInt64) ((-1)) (5)) s_X12_155 ⟨rfl, rfl, ⟨Nat.le_of_ble_eq_true rfl, Nat.le_of_ble_eq_true rfl⟩, ⟨Nat.le_of_ble_eq_true rfl, Nat.le_of_ble_eq_true rfl⟩⟩ rfl hl.1 rfl (Nat.le_of_ble_eq_true rfl) dX12_bend_16) rfl rfl (fun x28 H locs M25 R26 J24 hS f22 g23 E27 => ?_)
    have eM25 := Fr.nil f22 rfl
    subst eM25
    have eR26 := Fr.nil g23 rfl
    subst eR26
    obtain ⟨h_x28, p29⟩ := E27
    refine lv_if_ne (tgt := 28) hx hb dX12_bend_19 (by decide) (fun c30 => ?_) (fun c30 => ?_)
    · have q31 : ¬ x28.toInt = 0 := ti_ne c30
      have h32 : iv 1 1 x28 := ⟨by have := (h_x28).1; have := ((iv_c (c := 0) (n := 0) (by decide))).1; have := ((iv_c (c := 0) (n := 0) (by decide))).2; omega, by have := (h_x28).2; have := ((iv_c (c := 0) (n := 0) (by decide))).1; have := ((iv_c (c := 0) (n := 0) (by decide))).2; omega⟩
      have h33 : iv (-1) 5 a2 := in2iv (p29 c30) ((jv_c (x := (-1)) (n := (-1)) (by decide))).1 ((jv_c (x := 5) (n := 5) (by decide))).2
      refine lv_aload_n hx hb dX12_bend_28 rfl (lv_at hl 0 rfl) ?_
      refine tw_getr hx hb hW hown hK hS f_X12_45_11 hz_a0 hk_a0 (t := 23) (n := 226) rfl dX12_bend_29 (fun b34 k35 hz_b34 hk_b34 hn_b34 => ?_)
      have hn_b34 := hn_b34 (by decide)
      refine lv_bipush (v := 20) hx hb dX12_bend_32 (by decide) ?_
      refine lv_iload_n hx hb dX12_bend_34 rfl (lv_at hl 1 rfl) ?_
      refine tw_iadd (lo := 20) (hi := 29) hx hb (iv_c (c := 20) (n := 20) (by decide)) h21 ⟨by decide, by decide⟩ ⟨by decide, by decide⟩ dX12_bend_35 (fun x38 e37 h36 => ?_)
      have e37 : x38.toInt = 20 + a1.toInt := e37
      refine tw_iald hx hb hK hS hz_b34 hk_b34 (Or.inr (by decide)) hn_b34 (lo := (-2147483648)) (hi := 2147483647) h36 ⟨by decide, by decide⟩ rg_full dX12_bend_36 (fun x41 k40 h39 => ?_)
      refine lv_istore_n (lv' := [(3, .int x41), (0, .ref (base + a0)), (1, .int a1), (2, .int a2)]) hx hb dX12_bend_37 rfl hl (by decide) rfl (fun ls hl => ?_)
      refine lv_aload_n hx hb dX12_bend_38 rfl (lv_at hl 1 rfl) ?_
      refine tw_getrk hx hb hW hown hK hS f_X12_45_11 hz_a0 hk_a0 (b := b34) k35 dX12_bend_39 ?_
      refine lv_bipush (v := 20) hx hb dX12_bend_42 (by decide) ?_
      refine lv_iload_n hx hb dX12_bend_44 rfl (lv_at hl 2 rfl) ?_
      refine tw_iadd (lo := 20) (hi := 29) hx hb (iv_c (c := 20) (n := 20) (by decide)) h21 ⟨by decide, by decide⟩ ⟨by decide, by decide⟩ dX12_bend_45 (fun x44 e43 h42 => ?_)
      have e43 : x44.toInt = 20 + a1.toInt := e43
      refine lv_iload_n hx hb dX12_bend_46 rfl (lv_at hl 3 rfl) ?_
      refine tw_iast hx hb hK hS hz_b34 hk_b34 (Or.inr (by decide)) hn_b34 h42 ⟨by decide, by decide⟩ h33 (rg_sas (Or.inl ⟨by decide, by decide⟩) ⟨by decide, by decide⟩) (jl := 20) (jh := 29) ⟨by decide, by decide⟩ rfl dX12_bend_47 (fun H locs M47 hS k45 f46 => ?_)
      refine lv_iload_n hx hb dX12_bend_48 rfl (lv_at hl 0 rfl) ?_
      exact tw_endi hx hb hr hlocks hK hT hS hQ (h39) dX12_bend_49
    · have q48 : x28.toInt = 0 := ti_eq c30
      have h49 : iv 0 0 x28 := ⟨by have := (h_x28).1; have := ((iv_c (c := 0) (n := 0) (by decide))).1; omega, by have := (h_x28).2; have := ((iv_c (c := 0) (n := 0) (by decide))).2; omega⟩
      refine lv_aload_n hx hb dX12_bend_22 rfl (lv_at hl 0 rfl) ?_
      refine lv_iconst (v := 0) hx hb dX12_bend_23 (by decide) ?_
      refine tw_goi hS (md_runV (As := [.int 0]) (rest := []) hx hb hml hown hW hK hT hS.1 (t_X12_refuses l D cy tx base Z K N Ma Ra J24 hS.2.1 a0 hz_a0 hk_a0 0 (iv_mono (iv_c (c := 0) (n := 0) (by decide)) (by decide) (by decide))) s_X12_338 ⟨rfl, rfl, ⟨Nat.le_of_ble_eq_true rfl, Nat.le_of_ble_eq_true rfl⟩, ⟨Nat.le_of_ble_eq_true rfl, Nat.le_of_ble_eq_true rfl⟩⟩ hz_a0 hk_a0 (by decide) rfl rfl hl.1 rfl (Nat.le_of_ble_eq_true rfl) dX12_bend_24) rfl rfl (fun x56 H locs M53 R54 J52 hS f50 g51 E55 => ?_)
      have eR54 := Fr.nil g51 rfl
      subst eR54
      have h_x56 := E55
      exact tw_endi hx hb hr hlocks hK hT hS hQ ((iv_mono h_x56 (by decide) (by decide))) dX12_bend_27
def Lt_X12_beside : WL := [(14, 0, 2000000), (23, 7, 9)]
def LRt_X12_beside : WL := []
set_option maxRecDepth 100000 in
set_option maxHeartbeats 4000000 in
theorem t_X12_beside (l : Launch) (D : va_G) (cy : Nat → ClassId) (tx : (Nat → Nat) × (Nat → Nat)) (base Z : Nat) (K N : Nat → Nat) (Ma : MT) (Ra : RT) (Ja : JT) (hTy : Ty Z K N Ma Ra) (a0 : Nat) (hz_a0 : a0 < Z) (hk_a0 : K a0 = 12) (a1 : Int32) (h_a1 : iv (-2147483648) 2147483647 a1) (a2 : Int32) (h_a2 : iv (-2147483648) 2147483647 a2) : Met l yX12_beside [Cond.code yX12_beside cX12_beside 4 (some .int)] (md_rm 2 0 0) (va_Pc [.ref (base + a0), .int a1, .int a2] (md_U D cy tx base Z K N Ma Ra Ja)) (mQi D cy tx base (fun r u => TP Z K N Lt_X12_beside LRt_X12_beside Ma Ra u ∧ (iv (-2147483648) 2147483647 r))) 0 0 (fun q => base ≤ q) := by
  refine tw_ofW (L := Lt_X12_beside) (LR := LRt_X12_beside) (by decide) (Nat.le_of_ble_eq_true rfl) hTy ?_
  intro p e s m args below meth c Q ls hx hb hr hlocks hown hml hW hK hT hS hQ hl
  have hl : lv_has ls 4 [(0, .ref (base + a0)), (1, .int a1), (2, .int a2)] := hl
  refine lv_aload_n hx hb dX12_beside_0 rfl (lv_at hl 0 rfl) ?_
  refine tw_getr hx hb hW hown hK hS f_X12_45_11 hz_a0 hk_a0 (t := 23) (n := 226) rfl dX12_beside_1 (fun b1 k2 hz_b1 hk_b1 hn_b1 => ?_)
  have hn_b1 := hn_b1 (by decide)
  refine lv_iconst (v := 0) hx hb dX12_beside_4 (by decide) ?_
  refine tw_iald hx hb hK hS hz_b1 hk_b1 (Or.inr (by decide)) hn_b1 (lo := 0) (hi := 10) (iv_c (c := 0) (n := 0) (by decide)) ⟨by decide, by decide⟩ (rg_c (k0 := 0) rfl rfl rfl) dX12_beside_5 (fun x5 k4 h3 => ?_)
  refine lv_if_eq (tgt := 33) hx hb dX12_beside_6 (by decide) (fun c6 => ?_) (fun c6 => ?_)
  · have q7 : x5.toInt = 0 := ti_eq c6
    have h8 : iv 0 0 x5 := ⟨by have := (h3).1; have := ((iv_c (c := 0) (n := 0) (by decide))).1; omega, by have := (h3).2; have := ((iv_c (c := 0) (n := 0) (by decide))).2; omega⟩
    refine lv_aload_n hx hb dX12_beside_33 rfl (lv_at hl 0 rfl) ?_
    refine lv_iconst (v := 0) hx hb dX12_beside_34 (by decide) ?_
    refine tw_goi hS (md_runV (As := [.int 0]) (rest := []) hx hb hml hown hW hK hT hS.1 (t_X12_refuses l D cy tx base Z K N Ma Ra Ja hS.2.1 a0 hz_a0 hk_a0 0 (iv_mono (iv_c (c := 0) (n := 0) (by decide)) (by decide) (by decide))) s_X12_338 ⟨rfl, rfl, ⟨Nat.le_of_ble_eq_true rfl, Nat.le_of_ble_eq_true rfl⟩, ⟨Nat.le_of_ble_eq_true rfl, Nat.le_of_ble_eq_true rfl⟩⟩ hz_a0 hk_a0 (by decide) rfl rfl hl.1 rfl (Nat.le_of_ble_eq_true rfl) dX12_beside_35) rfl rfl (fun x15 H locs M12 R13 J11 hS f9 g10 E14 => ?_)
    have eR13 := Fr.nil g10 rfl
    subst eR13
    have h_x15 := E14
    exact tw_endi hx hb hr hlocks hK hT hS hQ ((iv_mono h_x15 (by decide) (by decide))) dX12_beside_38
  · have q16 : ¬ x5.toInt = 0 := ti_ne c6
    have h17 : iv 1 10 x5 := ⟨by have := (h3).1; have := ((iv_c (c := 0) (n := 0) (by decide))).1; have := ((iv_c (c := 0) (n := 0) (by decide))).2; omega, by have := (h3).2; have := ((iv_c (c := 0) (n := 0) (by decide))).1; have := ((iv_c (c := 0) (n := 0) (by decide))).2; omega⟩
    refine lv_iload_n hx hb dX12_beside_9 rfl (lv_at hl 1 rfl) ?_
    refine lv_i2l hx hb dX12_beside_10 rfl ?_
    refine lv_lconst (v := 0) hx hb dX12_beside_11 (by decide) ?_
    refine lv_ldc2 hx hb hown (hW _ w_7_178 rfl) dX12_beside_12 ?_
    refine tw_goi hS (md_runS (As := [.long a1.toInt64, .long 0, .long 2]) (rest := []) hx hb hml hown hW hK hT hS.1 (t_X12_in l D cy tx base Z K N Ma Ra Ja hS.2.1 (a1.toInt64) (0) (2)) s_X12_155 ⟨rfl, rfl, ⟨Nat.le_of_ble_eq_true rfl, Nat.le_of_ble_eq_true rfl⟩, ⟨Nat.le_of_ble_eq_true rfl, Nat.le_of_ble_eq_true rfl⟩⟩ rfl hl.1 rfl (Nat.le_of_ble_eq_true rfl) dX12_beside_15) rfl rfl (fun x24 H locs M21 R22 J20 hS f18 g19 E23 => ?_)
    have eM21 := Fr.nil f18 rfl
    subst eM21
    have eR22 := Fr.nil g19 rfl
    subst eR22
    obtain ⟨h_x24, p25⟩ := E23
    refine lv_if_eq (tgt := 33) hx hb dX12_beside_18 (by decide) (fun c26 => ?_) (fun c26 => ?_)
    · have q27 : x24.toInt = 0 := ti_eq c26
      have h28 : iv 0 0 x24 := ⟨by have := (h_x24).1; have := ((iv_c (c := 0) (n := 0) (by decide))).1; omega, by have := (h_x24).2; have := ((iv_c (c := 0) (n := 0) (by decide))).2; omega⟩
      refine lv_aload_n hx hb dX12_beside_33 rfl (lv_at hl 0 rfl) ?_
      refine lv_iconst (v := 0) hx hb dX12_beside_34 (by decide) ?_
      refine tw_goi hS (md_runV (As := [.int 0]) (rest := []) hx hb hml hown hW hK hT hS.1 (t_X12_refuses l D cy tx base Z K N Ma Ra J20 hS.2.1 a0 hz_a0 hk_a0 0 (iv_mono (iv_c (c := 0) (n := 0) (by decide)) (by decide) (by decide))) s_X12_338 ⟨rfl, rfl, ⟨Nat.le_of_ble_eq_true rfl, Nat.le_of_ble_eq_true rfl⟩, ⟨Nat.le_of_ble_eq_true rfl, Nat.le_of_ble_eq_true rfl⟩⟩ hz_a0 hk_a0 (by decide) rfl rfl hl.1 rfl (Nat.le_of_ble_eq_true rfl) dX12_beside_35) rfl rfl (fun x35 H locs M32 R33 J31 hS f29 g30 E34 => ?_)
      have eR33 := Fr.nil g30 rfl
      subst eR33
      have h_x35 := E34
      exact tw_endi hx hb hr hlocks hK hT hS hQ ((iv_mono h_x35 (by decide) (by decide))) dX12_beside_38
    · have q36 : ¬ x24.toInt = 0 := ti_ne c26
      have h37 : iv 1 1 x24 := ⟨by have := (h_x24).1; have := ((iv_c (c := 0) (n := 0) (by decide))).1; have := ((iv_c (c := 0) (n := 0) (by decide))).2; omega, by have := (h_x24).2; have := ((iv_c (c := 0) (n := 0) (by decide))).1; have := ((iv_c (c := 0) (n := 0) (by decide))).2; omega⟩
      have h38 : iv 0 2 a1 := in2iv (p25 c26) ((jv_c (x := 0) (n := 0) (by decide))).1 ((jv_c (x := 2) (n := 2) (by decide))).2
      refine lv_iload_n hx hb dX12_beside_21 rfl (lv_at hl 2 rfl) ?_
      refine lv_i2l hx hb dX12_beside_22 rfl ?_
      refine lv_lconst (v := 1) hx hb dX12_beside_23 (by decide) ?_
      refine lv_ldc2 hx hb hown (hW _ w_7_179 rfl) dX12_beside_24 ?_
      refine tw_goi hS (md_runS (As := [.long a2.toInt64, .long 1, .long 9999]) (rest := []) hx hb hml hown hW hK hT hS.1 (t_X12_in l D cy tx base Z K N Ma Ra J20 hS.2.1 (a2.toInt64) (1) (9999)) s_X12_155 ⟨rfl, rfl, ⟨Nat.le_of_ble_eq_true rfl, Nat.le_of_ble_eq_true rfl⟩, ⟨Nat.le_of_ble_eq_true rfl, Nat.le_of_ble_eq_true rfl⟩⟩ rfl hl.1 rfl (Nat.le_of_ble_eq_true rfl) dX12_beside_27) rfl rfl (fun x45 H locs M42 R43 J41 hS f39 g40 E44 => ?_)
      have eM42 := Fr.nil f39 rfl
      subst eM42
      have eR43 := Fr.nil g40 rfl
      subst eR43
      obtain ⟨h_x45, p46⟩ := E44
      refine lv_if_ne (tgt := 39) hx hb dX12_beside_30 (by decide) (fun c47 => ?_) (fun c47 => ?_)
      · have q48 : ¬ x45.toInt = 0 := ti_ne c47
        have h49 : iv 1 1 x45 := ⟨by have := (h_x45).1; have := ((iv_c (c := 0) (n := 0) (by decide))).1; have := ((iv_c (c := 0) (n := 0) (by decide))).2; omega, by have := (h_x45).2; have := ((iv_c (c := 0) (n := 0) (by decide))).1; have := ((iv_c (c := 0) (n := 0) (by decide))).2; omega⟩
        have h50 : iv 1 9999 a2 := in2iv (p46 c47) ((jv_c (x := 1) (n := 1) (by decide))).1 ((jv_c (x := 9999) (n := 9999) (by decide))).2
        refine lv_aload_n hx hb dX12_beside_39 rfl (lv_at hl 0 rfl) ?_
        refine tw_getrk hx hb hW hown hK hS f_X12_45_11 hz_a0 hk_a0 (b := b1) k2 dX12_beside_40 ?_
        refine lv_bipush (v := 7) hx hb dX12_beside_43 (by decide) ?_
        refine tw_iald hx hb hK hS hz_b1 hk_b1 (Or.inr (by decide)) hn_b1 (lo := (-2147483648)) (hi := 2147483647) (iv_c (c := 7) (n := 7) (by decide)) ⟨by decide, by decide⟩ (rg_c (k0 := 7) rfl rfl rfl) dX12_beside_45 (fun x53 k52 h51 => ?_)
        refine lv_istore_n (lv' := [(3, .int x53), (0, .ref (base + a0)), (1, .int a1), (2, .int a2)]) hx hb dX12_beside_46 rfl hl (by decide) rfl (fun ls hl => ?_)
        refine lv_aload_n hx hb dX12_beside_47 rfl (lv_at hl 1 rfl) ?_
        refine tw_getrk hx hb hW hown hK hS f_X12_45_11 hz_a0 hk_a0 (b := b1) k2 dX12_beside_48 ?_
        refine lv_bipush (v := 7) hx hb dX12_beside_51 (by decide) ?_
        refine lv_iload_n hx hb dX12_beside_53 rfl (lv_at hl 2 rfl) ?_
        refine tw_iast hx hb hK hS hz_b1 hk_b1 (Or.inr (by decide)) hn_b1 (iv_c (c := 7) (n := 7) (by decide)) ⟨by decide, by decide⟩ h38 (rg_cs (k0 := 7) rfl rfl rfl ⟨by decide, by decide⟩) (jl := 7) (jh := 7) ⟨by decide, by decide⟩ rfl dX12_beside_54 (fun H locs M56 hS k54 f55 => ?_)
        refine lv_aload_n hx hb dX12_beside_55 rfl (lv_at hl 1 rfl) ?_
        refine tw_getrk hx hb hW hown hK hS f_X12_45_11 hz_a0 hk_a0 (b := b1) k2 dX12_beside_56 ?_
        refine lv_bipush (v := 8) hx hb dX12_beside_59 (by decide) ?_
        refine lv_iload_n hx hb dX12_beside_61 rfl (lv_at hl 3 rfl) ?_
        refine tw_iast hx hb hK hS hz_b1 hk_b1 (Or.inr (by decide)) hn_b1 (iv_c (c := 8) (n := 8) (by decide)) ⟨by decide, by decide⟩ h50 (rg_cs (k0 := 8) rfl rfl rfl ⟨by decide, by decide⟩) (jl := 8) (jh := 8) ⟨by decide, by decide⟩ rfl dX12_beside_62 (fun H locs M59 hS k57 f58 => ?_)
        refine lv_iload_n hx hb dX12_beside_63 rfl (lv_at hl 0 rfl) ?_
        exact tw_endi hx hb hr hlocks hK hT hS hQ (h51) dX12_beside_64
      · have q60 : x45.toInt = 0 := ti_eq c47
        have h61 : iv 0 0 x45 := ⟨by have := (h_x45).1; have := ((iv_c (c := 0) (n := 0) (by decide))).1; omega, by have := (h_x45).2; have := ((iv_c (c := 0) (n := 0) (by decide))).2; omega⟩
        refine lv_aload_n hx hb dX12_beside_33 rfl (lv_at hl 0 rfl) ?_
        refine lv_iconst (v := 0) hx hb dX12_beside_34 (by decide) ?_
        refine tw_goi hS (md_runV (As := [.int 0]) (rest := []) hx hb hml hown hW hK hT hS.1 (t_X12_refuses l D cy tx base Z K N Ma Ra J41 hS.2.1 a0 hz_a0 hk_a0 0 (iv_mono (iv_c (c := 0) (n := 0) (by decide)) (by decide) (by decide))) s_X12_338 ⟨rfl, rfl, ⟨Nat.le_of_ble_eq_true rfl, Nat.le_of_ble_eq_true rfl⟩, ⟨Nat.le_of_ble_eq_true rfl, Nat.le_of_ble_eq_true rfl⟩⟩ hz_a0 hk_a0 (by decide) rfl rfl hl.1 rfl (Nat.le_of_ble_eq_true rfl) dX12_beside_35) rfl rfl (fun x68 H locs M65 R66 J64 hS f62 g63 E67 => ?_)
        have eR66 := Fr.nil g63 rfl
        subst eR66
        have h_x68 := E67
        exact tw_endi hx hb hr hlocks hK hT hS hQ ((iv_mono h_x68 (by decide) (by decide))) dX12_beside_38
def Lt_X12_best : WL := []
def LRt_X12_best : WL := []
set_option maxRecDepth 100000 in
set_option maxHeartbeats 4000000 in
theorem t_X12_best (l : Launch) (D : va_G) (cy : Nat → ClassId) (tx : (Nat → Nat) × (Nat → Nat)) (base Z : Nat) (K N : Nat → Nat) (Ma : MT) (Ra : RT) (Ja : JT) (hTy : Ty Z K N Ma Ra) (a0 : Nat) (hz_a0 : a0 < Z) (hk_a0 : K a0 = 12) (a1 : Int32) (h_a1 : iv 0 728 a1) (a2 : Int32) (h_a2 : iv 0 1 a2) : Met l yX12_best [Cond.code yX12_best cX12_best 8 (some .int)] (md_rm 1 0 0) (va_Pc [.ref (base + a0), .int a1, .int a2] (md_U D cy tx base Z K N Ma Ra Ja)) (mQi D cy tx base (fun r u => TP Z K N Lt_X12_best LRt_X12_best Ma Ra u ∧ (iv (-2147483648) 2147483647 r))) 0 0 (fun q => base ≤ q) := by
  refine tw_ofW (L := Lt_X12_best) (LR := LRt_X12_best) (by decide) (Nat.le_of_ble_eq_true rfl) hTy ?_
  intro p e s m args below meth c Q ls hx hb hr hlocks hown hml hW hK hT hS hQ hl
  have hl : lv_has ls 8 [(0, .ref (base + a0)), (1, .int a1), (2, .int a2)] := hl
  refine lv_iconst (v := 0) hx hb dX12_best_0 (by decide) ?_
  refine lv_istore_n (lv' := [(3, .int 0), (0, .ref (base + a0)), (1, .int a1), (2, .int a2)]) hx hb dX12_best_1 rfl hl (by decide) rfl (fun ls hl => ?_)
  refine lv_iconst (v := 0) hx hb dX12_best_2 (by decide) ?_
  refine lv_istore (lv' := [(4, .int 0), (3, .int 0), (0, .ref (base + a0)), (1, .int a1), (2, .int a2)]) hx hb dX12_best_3 hl (by decide) rfl (fun ls hl => ?_)
  refine lv_iconst (v := 0) hx hb dX12_best_5 (by decide) ?_
  refine lv_istore (lv' := [(5, .int 0), (4, .int 0), (3, .int 0), (0, .ref (base + a0)), (1, .int a1), (2, .int a2)]) hx hb dX12_best_6 hl (by decide) rfl (fun ls hl => ?_)
  have W8_4 : ∀ (n_4 : Nat) (x1 : Int32) (x2 : Int32) (x3 : Int32) (M4 : MT) (R5 : RT) (J6 : JT) (H : Heap) (locs : List Loc) (ls : Array Slot) (h_x1 : iv 0 2 x1) (h_x2 : iv (-2147483648) 2147483647 x2) (h_x3 : iv 0 3 x3) (hm_4 : 3 - x3.toInt < (n_4 : Int)) (hS : SB D cy base Z K N Lt_X12_best LRt_X12_best Ma Ra M4 R5 J6 s H locs) (hl : lv_has ls 8 [(3, .int x1), (4, .int x2), (5, .int x3), (0, .ref (base + a0)), (1, .int a1), (2, .int a2)]), W p l e (md_rm 1 0 0) s m args below meth c H locs 0 0 Q (F0 m 8 ls []) := by
    intro n_4
    induction n_4 with
    | zero =>
      intro x1 x2 x3 M4 R5 J6 H locs ls h_x1 h_x2 h_x3 hm_4 hS hl
      exfalso
      have := (h_a1).1; have := (h_a1).2; have := (h_a2).1; have := (h_a2).2; have := (h_x3).1; have := (h_x3).2; omega
    | succ n_4 ih_4 =>
      intro x1 x2 x3 M4 R5 J6 H locs ls h_x1 h_x2 h_x3 hm_4 hS hl
      have f7 := hS.2.2.1
      have g8 := hS.2.2.2
      refine lv_iload hx hb dX12_best_8 (lv_at hl 2 rfl) ?_
      refine lv_iconst (v := 3) hx hb dX12_best_10 (by decide) ?_
      refine lv_icmp_ge (tgt := 119) hx hb dX12_best_11 (by decide) (fun c9 => ?_) (fun c9 => ?_)
      · have q10 : 3 ≤ x3.toInt := ti_le c9
        have h11 : iv 3 3 x3 := iv_geL (y := 3) h_x3 (iv_c (c := 3) (n := 3) (by decide)) q10 (by decide)
        refine lv_iload_n hx hb dX12_best_119 rfl (lv_at hl 5 rfl) ?_
        refine lv_if_eq (tgt := 127) hx hb dX12_best_120 (by decide) (fun c12 => ?_) (fun c12 => ?_)
        · have q13 : a2.toInt = 0 := ti_eq c12
          have h14 : iv 0 0 a2 := ⟨by have := (h_a2).1; have := ((iv_c (c := 0) (n := 0) (by decide))).1; omega, by have := (h_a2).2; have := ((iv_c (c := 0) (n := 0) (by decide))).2; omega⟩
          refine lv_iload hx hb dX12_best_127 (lv_at hl 1 rfl) ?_
          exact tw_endi hx hb hr hlocks hK hT hS hQ (h_x2) dX12_best_129
        · have q15 : ¬ a2.toInt = 0 := ti_ne c12
          have h16 : iv 1 1 a2 := ⟨by have := (h_a2).1; have := ((iv_c (c := 0) (n := 0) (by decide))).1; have := ((iv_c (c := 0) (n := 0) (by decide))).2; omega, by have := (h_a2).2; have := ((iv_c (c := 0) (n := 0) (by decide))).1; have := ((iv_c (c := 0) (n := 0) (by decide))).2; omega⟩
          refine lv_iload_n hx hb dX12_best_123 rfl (lv_at hl 0 rfl) ?_
          refine lv_goto (tgt := 129) hx hb dX12_best_124 (by decide) ?_
          exact tw_endi hx hb hr hlocks hK hT hS hQ ((iv_mono h_x1 (by decide) (by decide))) dX12_best_129
      · have q17 : x3.toInt < 3 := ti_nle c9
        have h18 : iv 0 2 x3 := iv_ltL (y := 3) h_x3 (iv_c (c := 3) (n := 3) (by decide)) q17 (by decide)
        refine lv_aload_n hx hb dX12_best_14 rfl (lv_at hl 3 rfl) ?_
        refine tw_getr hx hb hW hown hK hS f_X12_81_11 hz_a0 hk_a0 (t := 14) (n := 6561) rfl dX12_best_15 (fun b19 k20 hz_b19 hk_b19 hn_b19 => ?_)
        have hn_b19 := hn_b19 (by decide)
        refine lv_bipush (v := 9) hx hb dX12_best_18 (by decide) ?_
        refine lv_iload_n hx hb dX12_best_20 rfl (lv_at hl 4 rfl) ?_
        refine tw_icmul (k := 9) (lo := 0) (hi := 6552) hx hb (by decide) h_a1 (by decide) ⟨by decide, by decide⟩ ⟨by decide, by decide⟩ dX12_best_21 (fun x23 e22 h21 => ?_)
        refine lv_iconst (v := 3) hx hb dX12_best_22 (by decide) ?_
        refine lv_iload hx hb dX12_best_23 (lv_at hl 2 rfl) ?_
        refine tw_icmul (k := 3) (lo := 0) (hi := 6) hx hb (by decide) h18 (by decide) ⟨by decide, by decide⟩ ⟨by decide, by decide⟩ dX12_best_25 (fun x26 e25 h24 => ?_)
        refine tw_iadd (lo := 0) (hi := 6558) hx hb h21 h24 ⟨by decide, by decide⟩ ⟨by decide, by decide⟩ dX12_best_26 (fun x29 e28 h27 => ?_)
        refine tw_iald hx hb hK hS hz_b19 hk_b19 (Or.inl rfl) hn_b19 (lo := (-2147483648)) (hi := 2147483647) h27 ⟨by decide, by decide⟩ rg_u14 dX12_best_27 (fun x32 k31 h30 => ?_)
        refine lv_istore (lv' := [(6, .int x32), (3, .int x1), (4, .int x2), (5, .int x3), (0, .ref (base + a0)), (1, .int a1), (2, .int a2)]) hx hb dX12_best_28 hl (by decide) rfl (fun ls hl => ?_)
        refine lv_iconst (v := 1) hx hb dX12_best_30 (by decide) ?_
        refine lv_istore (lv' := [(7, .int 1), (6, .int x32), (3, .int x1), (4, .int x2), (5, .int x3), (0, .ref (base + a0)), (1, .int a1), (2, .int a2)]) hx hb dX12_best_31 hl (by decide) rfl (fun ls hl => ?_)
        have W33_35 : ∀ (n_35 : Nat) (x33 : Int32) (x34 : Int32) (M35 : MT) (R36 : RT) (J37 : JT) (H : Heap) (locs : List Loc) (ls : Array Slot) (h_x33 : iv (-2147483648) 2147483647 x33) (h_x34 : iv 1 3 x34) (hm_35 : 3 - x34.toInt < (n_35 : Int)) (hS : SB D cy base Z K N Lt_X12_best LRt_X12_best Ma Ra M35 R36 J37 s H locs) (hl : lv_has ls 8 [(6, .int x33), (7, .int x34), (3, .int x1), (4, .int x2), (5, .int x3), (0, .ref (base + a0)), (1, .int a1), (2, .int a2)]), W p l e (md_rm 1 0 0) s m args below meth c H locs 0 0 Q (F0 m 33 ls []) := by
          intro n_35
          induction n_35 with
          | zero =>
            intro x33 x34 M35 R36 J37 H locs ls h_x33 h_x34 hm_35 hS hl
            exfalso
            have := (h_a1).1; have := (h_a1).2; have := (h_a2).1; have := (h_a2).2; have := (h_x34).1; have := (h_x34).2; omega
          | succ n_35 ih_35 =>
            intro x33 x34 M35 R36 J37 H locs ls h_x33 h_x34 hm_35 hS hl
            have f38 := hS.2.2.1
            have g39 := hS.2.2.2
            refine lv_iload hx hb dX12_best_33 (lv_at hl 1 rfl) ?_
            refine lv_iconst (v := 3) hx hb dX12_best_35 (by decide) ?_
            refine lv_icmp_ge (tgt := 91) hx hb dX12_best_36 (by decide) (fun c40 => ?_) (fun c40 => ?_)
            · have q41 : 3 ≤ x34.toInt := ti_le c40
              have h42 : iv 3 3 x34 := iv_geL (y := 3) h_x34 (iv_c (c := 3) (n := 3) (by decide)) q41 (by decide)
              refine lv_iload hx hb dX12_best_91 (lv_at hl 4 rfl) ?_
              refine lv_if_le (tgt := 106) hx hb dX12_best_93 (by decide) (fun c43 => ?_) (fun c43 => ?_)
              · have q44 : x3.toInt ≤ 0 := ti_le c43
                have h45 : iv 0 0 x3 := iv_leL (y := 0) h18 (iv_c (c := 0) (n := 0) (by decide)) q44 (by decide)
                refine lv_iload hx hb dX12_best_106 (lv_at hl 4 rfl) ?_
                refine lv_istore_n (lv' := [(3, .int x3), (6, .int x33), (7, .int x34), (4, .int x2), (5, .int x3), (0, .ref (base + a0)), (1, .int a1), (2, .int a2)]) hx hb dX12_best_108 rfl hl (by decide) rfl (fun ls hl => ?_)
                refine lv_iload hx hb dX12_best_109 (lv_at hl 1 rfl) ?_
                refine lv_istore (lv' := [(4, .int x33), (3, .int x3), (6, .int x33), (7, .int x34), (5, .int x3), (0, .ref (base + a0)), (1, .int a1), (2, .int a2)]) hx hb dX12_best_111 hl (by decide) rfl (fun ls hl => ?_)
                refine tw_iinc (lv' := fun x48 => [(5, .int x48), (4, .int x33), (3, .int x3), (6, .int x33), (7, .int x34), (0, .ref (base + a0)), (1, .int a1), (2, .int a2)]) (lo := 1) (hi := 1) hx hb dX12_best_113 hl (k := 4) rfl h45 (by decide) ⟨by decide, by decide⟩ ⟨by decide, by decide⟩ (by decide) (fun _ => rfl) (fun x48 ls e47 h46 hl => ?_)
                refine lv_goto (tgt := 8) hx hb dX12_best_116 (by decide) ?_
                have hm49 : 3 - x48.toInt < (n_4 : Int) := by
                  have := (h_a1).1; have := (h_a1).2; have := (h_a2).1; have := (h_a2).2; have := (h24).1; have := (h24).2; have := (h45).1; have := (h45).2; have := (h46).1; have := (h46).2; omega
                exact ih_4 x3 x33 x48 M35 R36 J37 H locs _ (iv_mono h45 (by decide) (by decide)) h_x33 (iv_mono h46 (by decide) (by decide)) hm49 hS (lv_sub hl [2, 1, 0, 5, 6, 7] rfl)
              · have q50 : 0 < x3.toInt := ti_nle c43
                have h51 : iv 1 2 x3 := iv_gtL (y := 0) h18 (iv_c (c := 0) (n := 0) (by decide)) q50 (by decide)
                refine lv_iload hx hb dX12_best_96 (lv_at hl 0 rfl) ?_
                refine lv_iload hx hb dX12_best_98 (lv_at hl 3 rfl) ?_
                refine lv_icmp_gt (tgt := 106) hx hb dX12_best_100 (by decide) (fun c52 => ?_) (fun c52 => ?_)
                · have q53 : x2.toInt < x33.toInt := ti_lt c52
                  have h54 : iv (-2147483647) 2147483647 x33 := iv_gtL (y := x2) h_x33 h_x2 q53 (by decide)
                  have h55 : iv (-2147483648) 2147483646 x2 := iv_ltL (y := x33) h_x2 h_x33 q53 (by decide)
                  refine lv_iload hx hb dX12_best_106 (lv_at hl 4 rfl) ?_
                  refine lv_istore_n (lv' := [(3, .int x3), (6, .int x33), (7, .int x34), (4, .int x2), (5, .int x3), (0, .ref (base + a0)), (1, .int a1), (2, .int a2)]) hx hb dX12_best_108 rfl hl (by decide) rfl (fun ls hl => ?_)
                  refine lv_iload hx hb dX12_best_109 (lv_at hl 1 rfl) ?_
                  refine lv_istore (lv' := [(4, .int x33), (3, .int x3), (6, .int x33), (7, .int x34), (5, .int x3), (0, .ref (base + a0)), (1, .int a1), (2, .int a2)]) hx hb dX12_best_111 hl (by decide) rfl (fun ls hl => ?_)
                  refine tw_iinc (lv' := fun x58 => [(5, .int x58), (4, .int x33), (3, .int x3), (6, .int x33), (7, .int x34), (0, .ref (base + a0)), (1, .int a1), (2, .int a2)]) (lo := 2) (hi := 3) hx hb dX12_best_113 hl (k := 4) rfl h51 (by decide) ⟨by decide, by decide⟩ ⟨by decide, by decide⟩ (by decide) (fun _ => rfl) (fun x58 ls e57 h56 hl => ?_)
                  refine lv_goto (tgt := 8) hx hb dX12_best_116 (by decide) ?_
                  have hm59 : 3 - x58.toInt < (n_4 : Int) := by
                    have := (h_a1).1; have := (h_a1).2; have := (h_a2).1; have := (h_a2).2; have := (h24).1; have := (h24).2; have := (h51).1; have := (h51).2; have := (h56).1; have := (h56).2; omega
                  exact ih_4 x3 x33 x58 M35 R36 J37 H locs _ (iv_mono h51 (by decide) (by decide)) (iv_mono h54 (by decide) (by decide)) (iv_mono h56 (by decide) (by decide)) hm59 hS (lv_sub hl [2, 1, 0, 5, 6, 7] rfl)
                · have q60 : x33.toInt ≤ x2.toInt := ti_nlt c52
                  refine lv_goto (tgt := 113) hx hb dX12_best_103 (by decide) ?_
                  refine tw_iinc (lv' := fun x63 => [(5, .int x63), (6, .int x33), (7, .int x34), (3, .int x1), (4, .int x2), (0, .ref (base + a0)), (1, .int a1), (2, .int a2)]) (lo := 2) (hi := 3) hx hb dX12_best_113 hl (k := 4) rfl h51 (by decide) ⟨by decide, by decide⟩ ⟨by decide, by decide⟩ (by decide) (fun _ => rfl) (fun x63 ls e62 h61 hl => ?_)
                  refine lv_goto (tgt := 8) hx hb dX12_best_116 (by decide) ?_
                  have hm64 : 3 - x63.toInt < (n_4 : Int) := by
                    have := (h_a1).1; have := (h_a1).2; have := (h_a2).1; have := (h_a2).2; have := (h24).1; have := (h24).2; have := (h51).1; have := (h51).2; have := (h61).1; have := (h61).2; omega
                  exact ih_4 x1 x2 x63 M35 R36 J37 H locs _ h_x1 h_x2 (iv_mono h61 (by decide) (by decide)) hm64 hS (lv_sub hl [3, 4, 0, 5, 6, 7] rfl)
            · have q65 : x34.toInt < 3 := ti_nle c40
              have h66 : iv 1 2 x34 := iv_ltL (y := 3) h_x34 (iv_c (c := 3) (n := 3) (by decide)) q65 (by decide)
              refine lv_aload_n hx hb dX12_best_39 rfl (lv_at hl 5 rfl) ?_
              refine tw_getr hx hb hW hown hK hS f_X12_81_11 hz_a0 hk_a0 (t := 14) (n := 6561) rfl dX12_best_40 (fun b67 k68 hz_b67 hk_b67 hn_b67 => ?_)
              have hn_b67 := hn_b67 (by decide)
              refine lv_bipush (v := 9) hx hb dX12_best_43 (by decide) ?_
              refine lv_iload_n hx hb dX12_best_45 rfl (lv_at hl 6 rfl) ?_
              refine tw_icmul (k := 9) (lo := 0) (hi := 6552) hx hb (by decide) h_a1 (by decide) ⟨by decide, by decide⟩ ⟨by decide, by decide⟩ dX12_best_46 (fun x71 e70 h69 => ?_)
              refine lv_iconst (v := 3) hx hb dX12_best_47 (by decide) ?_
              refine lv_iload hx hb dX12_best_48 (lv_at hl 4 rfl) ?_
              refine tw_icmul (k := 3) (lo := 0) (hi := 6) hx hb (by decide) h18 (by decide) ⟨by decide, by decide⟩ ⟨by decide, by decide⟩ dX12_best_50 (fun x74 e73 h72 => ?_)
              refine tw_iadd (lo := 0) (hi := 6558) hx hb h69 h72 ⟨by decide, by decide⟩ ⟨by decide, by decide⟩ dX12_best_51 (fun x77 e76 h75 => ?_)
              refine lv_iload hx hb dX12_best_52 (lv_at hl 1 rfl) ?_
              refine tw_iadd (lo := 1) (hi := 6560) hx hb h75 h66 ⟨by decide, by decide⟩ ⟨by decide, by decide⟩ dX12_best_54 (fun x80 e79 h78 => ?_)
              refine tw_iald hx hb hK hS hz_b67 hk_b67 (Or.inl rfl) hn_b67 (lo := (-2147483648)) (hi := 2147483647) h78 ⟨by decide, by decide⟩ rg_u14 dX12_best_55 (fun x83 k82 h81 => ?_)
              refine lv_iload hx hb dX12_best_56 (lv_at hl 0 rfl) ?_
              refine lv_icmp_ge (tgt := 81) hx hb dX12_best_58 (by decide) (fun c84 => ?_) (fun c84 => ?_)
              · have q85 : x33.toInt ≤ x83.toInt := ti_le c84
                refine lv_iload hx hb dX12_best_81 (lv_at hl 0 rfl) ?_
                refine lv_istore (lv' := [(6, .int x33), (7, .int x34), (3, .int x1), (4, .int x2), (5, .int x3), (0, .ref (base + a0)), (1, .int a1), (2, .int a2)]) hx hb dX12_best_83 hl (by decide) rfl (fun ls hl => ?_)
                refine tw_iinc (lv' := fun x88 => [(7, .int x88), (6, .int x33), (3, .int x1), (4, .int x2), (5, .int x3), (0, .ref (base + a0)), (1, .int a1), (2, .int a2)]) (lo := 2) (hi := 3) hx hb dX12_best_85 hl (k := 1) rfl h66 (by decide) ⟨by decide, by decide⟩ ⟨by decide, by decide⟩ (by decide) (fun _ => rfl) (fun x88 ls e87 h86 hl => ?_)
                refine lv_goto (tgt := 33) hx hb dX12_best_88 (by decide) ?_
                have hm89 : 3 - x88.toInt < (n_35 : Int) := by
                  have := (h_a1).1; have := (h_a1).2; have := (h_a2).1; have := (h_a2).2; have := (h66).1; have := (h66).2; have := (h78).1; have := (h78).2; have := (h86).1; have := (h86).2; omega
                exact ih_35 x33 x88 M35 R36 J37 H locs _ h_x33 (iv_mono h86 (by decide) (by decide)) hm89 hS (lv_sub hl [1, 0, 2, 3, 4, 5, 6, 7] rfl)
              · have q90 : x83.toInt < x33.toInt := ti_nle c84
                have h91 : iv (-2147483648) 2147483646 x83 := iv_ltL (y := x33) h81 h_x33 q90 (by decide)
                have h92 : iv (-2147483647) 2147483647 x33 := iv_gtL (y := x83) h_x33 h81 q90 (by decide)
                refine lv_aload_n hx hb dX12_best_61 rfl (lv_at hl 5 rfl) ?_
                refine tw_getrk hx hb hW hown hK hS f_X12_81_11 hz_a0 hk_a0 (b := b67) k68 dX12_best_62 ?_
                refine lv_bipush (v := 9) hx hb dX12_best_65 (by decide) ?_
                refine lv_iload_n hx hb dX12_best_67 rfl (lv_at hl 6 rfl) ?_
                refine tw_icmul (k := 9) (lo := 0) (hi := 6552) hx hb (by decide) h_a1 (by decide) ⟨by decide, by decide⟩ ⟨by decide, by decide⟩ dX12_best_68 (fun x95 e94 h93 => ?_)
                refine lv_iconst (v := 3) hx hb dX12_best_69 (by decide) ?_
                refine lv_iload hx hb dX12_best_70 (lv_at hl 4 rfl) ?_
                refine tw_icmul (k := 3) (lo := 0) (hi := 6) hx hb (by decide) h18 (by decide) ⟨by decide, by decide⟩ ⟨by decide, by decide⟩ dX12_best_72 (fun x98 e97 h96 => ?_)
                refine tw_iadd (lo := 0) (hi := 6558) hx hb h93 h96 ⟨by decide, by decide⟩ ⟨by decide, by decide⟩ dX12_best_73 (fun x101 e100 h99 => ?_)
                refine lv_iload hx hb dX12_best_74 (lv_at hl 1 rfl) ?_
                refine tw_iadd (lo := 1) (hi := 6560) hx hb h99 h66 ⟨by decide, by decide⟩ ⟨by decide, by decide⟩ dX12_best_76 (fun x104 e103 h102 => ?_)
                refine tw_iald hx hb hK hS hz_b67 hk_b67 (Or.inl rfl) hn_b67 (lo := (-2147483648)) (hi := 2147483647) h102 ⟨by decide, by decide⟩ rg_u14 dX12_best_77 (fun x107 k106 h105 => ?_)
                refine lv_goto (tgt := 83) hx hb dX12_best_78 (by decide) ?_
                refine lv_istore (lv' := [(6, .int x107), (7, .int x34), (3, .int x1), (4, .int x2), (5, .int x3), (0, .ref (base + a0)), (1, .int a1), (2, .int a2)]) hx hb dX12_best_83 hl (by decide) rfl (fun ls hl => ?_)
                refine tw_iinc (lv' := fun x110 => [(7, .int x110), (6, .int x107), (3, .int x1), (4, .int x2), (5, .int x3), (0, .ref (base + a0)), (1, .int a1), (2, .int a2)]) (lo := 2) (hi := 3) hx hb dX12_best_85 hl (k := 1) rfl h66 (by decide) ⟨by decide, by decide⟩ ⟨by decide, by decide⟩ (by decide) (fun _ => rfl) (fun x110 ls e109 h108 hl => ?_)
                refine lv_goto (tgt := 33) hx hb dX12_best_88 (by decide) ?_
                have hm111 : 3 - x110.toInt < (n_35 : Int) := by
                  have := (h_a1).1; have := (h_a1).2; have := (h_a2).1; have := (h_a2).2; have := (h102).1; have := (h102).2; have := (h108).1; have := (h108).2; have := (h66).1; have := (h66).2; have := (h78).1; have := (h78).2; omega
                exact ih_35 x107 x110 M35 R36 J37 H locs _ h105 (iv_mono h108 (by decide) (by decide)) hm111 hS (lv_sub hl [1, 0, 2, 3, 4, 5, 6, 7] rfl)
        have hm112 : 3 - (1 : Int32).toInt < (((3 : Nat) : Int) : Int) := by
          have := (h_a1).1; have := (h_a1).2; have := (h_a2).1; have := (h_a2).2; have : (1 : Int32).toInt = 1 := (by decide); omega
        exact W33_35 3 x32 1 M4 R5 J6 H locs _ h30 (iv_mono (iv_c (c := 1) (n := 1) (by decide)) (by decide) (by decide)) hm112 hS (lv_sub hl [1, 0, 2, 3, 4, 5, 6, 7] rfl)
  have hm113 : 3 - (0 : Int32).toInt < (((4 : Nat) : Int) : Int) := by
    have := (h_a1).1; have := (h_a1).2; have := (h_a2).1; have := (h_a2).2; have : (0 : Int32).toInt = 0 := (by decide); omega
  exact W8_4 4 0 0 0 Ma Ra Ja s.heap [] _ (iv_mono (iv_c (c := 0) (n := 0) (by decide)) (by decide) (by decide)) (iv_mono (iv_c (c := 0) (n := 0) (by decide)) (by decide) (by decide)) (iv_mono (iv_c (c := 0) (n := 0) (by decide)) (by decide) (by decide)) hm113 hS (lv_sub hl [2, 1, 0, 3, 4, 5] rfl)
def Lt_X12_canFit : WL := []
def LRt_X12_canFit : WL := []
set_option maxRecDepth 100000 in
set_option maxHeartbeats 4000000 in
theorem t_X12_canFit (l : Launch) (D : va_G) (cy : Nat → ClassId) (tx : (Nat → Nat) × (Nat → Nat)) (base Z : Nat) (K N : Nat → Nat) (Ma : MT) (Ra : RT) (Ja : JT) (hTy : Ty Z K N Ma Ra) (a0 : Nat) (hz_a0 : a0 < Z) (hk_a0 : K a0 = 12) (a1 : Int32) (h_a1 : iv (-2147483648) 2147483647 a1) (sd : Nat) (k_sd : Ra a0 25 = some sd) (e0 : Int32) (k_e0 : Ma sd (0 : Int32).toNatClampNeg = e0) (h_e0 : iv 0 10 e0) : Met l yX12_canFit [Cond.code yX12_canFit cX12_canFit 2 (some .boolean)] (md_rm 2 0 0) (va_Pc [.ref (base + a0), .int a1] (md_U D cy tx base Z K N Ma Ra Ja)) (mQi D cy tx base (fun r u => TP Z K N Lt_X12_canFit LRt_X12_canFit Ma Ra u ∧ (iv 0 1 r ∧ (¬ r = 0 → iv 1 5 e0) ∧ (¬ r = 0 → iv 1 6 a1)))) 0 0 (fun q => base ≤ q) := by
  refine tw_ofW (L := Lt_X12_canFit) (LR := LRt_X12_canFit) (by decide) (Nat.le_of_ble_eq_true rfl) hTy ?_
  intro p e s m args below meth c Q ls hx hb hr hlocks hown hml hW hK hT hS hQ hl
  have hl : lv_has ls 2 [(0, .ref (base + a0)), (1, .int a1)] := hl
  obtain ⟨hz_sd, hk_sd, hn_sd⟩ := hTy.refn hz_a0 hk_a0 (show rtR 12 25 = (23, 226, 0) from rfl) k_sd
  have hn_sd := hn_sd (by decide)
  refine lv_aload_n hx hb dX12_canFit_0 rfl (lv_at hl 0 rfl) ?_
  refine tw_getrk hx hb hW hown hK hS f_X12_45_11 hz_a0 hk_a0 (b := sd) k_sd dX12_canFit_1 ?_
  refine lv_iconst (v := 0) hx hb dX12_canFit_4 (by decide) ?_
  refine tw_ialk hx hb hK hS hz_sd hk_sd (Or.inr (by decide)) hn_sd (iv_c (c := 0) (n := 0) (by decide)) ⟨by decide, by decide⟩ (v := e0) k_e0 dX12_canFit_5 ?_
  refine lv_i2l hx hb dX12_canFit_6 rfl ?_
  refine lv_lconst (v := 1) hx hb dX12_canFit_7 (by decide) ?_
  refine lv_ldc2 hx hb hown (hW _ w_7_162 rfl) dX12_canFit_8 ?_
  refine tw_goi hS (md_runS (As := [.long e0.toInt64, .long 1, .long 5]) (rest := []) hx hb hml hown hW hK hT hS.1 (t_X12_in l D cy tx base Z K N Ma Ra Ja hS.2.1 (e0.toInt64) (1) (5)) s_X12_155 ⟨rfl, rfl, ⟨Nat.le_of_ble_eq_true rfl, Nat.le_of_ble_eq_true rfl⟩, ⟨Nat.le_of_ble_eq_true rfl, Nat.le_of_ble_eq_true rfl⟩⟩ rfl hl.1 rfl (Nat.le_of_ble_eq_true rfl) dX12_canFit_11) rfl rfl (fun x7 H locs M4 R5 J3 hS f1 g2 E6 => ?_)
  have eM4 := Fr.nil f1 rfl
  subst eM4
  have eR5 := Fr.nil g2 rfl
  subst eR5
  obtain ⟨h_x7, p8⟩ := E6
  refine lv_if_eq (tgt := 33) hx hb dX12_canFit_14 (by decide) (fun c9 => ?_) (fun c9 => ?_)
  · have q10 : x7.toInt = 0 := ti_eq c9
    have h11 : iv 0 0 x7 := ⟨by have := (h_x7).1; have := ((iv_c (c := 0) (n := 0) (by decide))).1; omega, by have := (h_x7).2; have := ((iv_c (c := 0) (n := 0) (by decide))).2; omega⟩
    refine lv_iconst (v := 0) hx hb dX12_canFit_33 (by decide) ?_
    exact tw_endz hx hb hr hlocks hK hT hS hQ rfl (⟨(iv_mono (iv_c (c := 0) (n := 0) (by decide)) (by decide) (by decide)), (fun h => absurd rfl h), (fun h => absurd rfl h)⟩) dX12_canFit_34
  · have q12 : ¬ x7.toInt = 0 := ti_ne c9
    have h13 : iv 1 1 x7 := ⟨by have := (h_x7).1; have := ((iv_c (c := 0) (n := 0) (by decide))).1; have := ((iv_c (c := 0) (n := 0) (by decide))).2; omega, by have := (h_x7).2; have := ((iv_c (c := 0) (n := 0) (by decide))).1; have := ((iv_c (c := 0) (n := 0) (by decide))).2; omega⟩
    have h14 : iv 1 5 e0 := in2iv (p8 c9) ((jv_c (x := 1) (n := 1) (by decide))).1 ((jv_c (x := 5) (n := 5) (by decide))).2
    refine lv_iload_n hx hb dX12_canFit_17 rfl (lv_at hl 1 rfl) ?_
    refine lv_i2l hx hb dX12_canFit_18 rfl ?_
    refine lv_lconst (v := 1) hx hb dX12_canFit_19 (by decide) ?_
    refine lv_ldc2 hx hb hown (hW _ w_8_120 rfl) dX12_canFit_20 ?_
    refine tw_goi hS (md_runS (As := [.long a1.toInt64, .long 1, .long 6]) (rest := []) hx hb hml hown hW hK hT hS.1 (t_X12_in l D cy tx base Z K N Ma Ra J3 hS.2.1 (a1.toInt64) (1) (6)) s_X12_155 ⟨rfl, rfl, ⟨Nat.le_of_ble_eq_true rfl, Nat.le_of_ble_eq_true rfl⟩, ⟨Nat.le_of_ble_eq_true rfl, Nat.le_of_ble_eq_true rfl⟩⟩ rfl hl.1 rfl (Nat.le_of_ble_eq_true rfl) dX12_canFit_23) rfl rfl (fun x21 H locs M18 R19 J17 hS f15 g16 E20 => ?_)
    have eM18 := Fr.nil f15 rfl
    subst eM18
    have eR19 := Fr.nil g16 rfl
    subst eR19
    obtain ⟨h_x21, p22⟩ := E20
    refine lv_if_eq (tgt := 33) hx hb dX12_canFit_26 (by decide) (fun c23 => ?_) (fun c23 => ?_)
    · have q24 : x21.toInt = 0 := ti_eq c23
      have h25 : iv 0 0 x21 := ⟨by have := (h_x21).1; have := ((iv_c (c := 0) (n := 0) (by decide))).1; omega, by have := (h_x21).2; have := ((iv_c (c := 0) (n := 0) (by decide))).2; omega⟩
      refine lv_iconst (v := 0) hx hb dX12_canFit_33 (by decide) ?_
      exact tw_endz hx hb hr hlocks hK hT hS hQ rfl (⟨(iv_mono (iv_c (c := 0) (n := 0) (by decide)) (by decide) (by decide)), (fun h => absurd rfl h), (fun h => absurd rfl h)⟩) dX12_canFit_34
    · have q26 : ¬ x21.toInt = 0 := ti_ne c23
      have h27 : iv 1 1 x21 := ⟨by have := (h_x21).1; have := ((iv_c (c := 0) (n := 0) (by decide))).1; have := ((iv_c (c := 0) (n := 0) (by decide))).2; omega, by have := (h_x21).2; have := ((iv_c (c := 0) (n := 0) (by decide))).1; have := ((iv_c (c := 0) (n := 0) (by decide))).2; omega⟩
      have h28 : iv 1 6 a1 := in2iv (p22 c23) ((jv_c (x := 1) (n := 1) (by decide))).1 ((jv_c (x := 6) (n := 6) (by decide))).2
      refine lv_iconst (v := 1) hx hb dX12_canFit_29 (by decide) ?_
      refine lv_goto (tgt := 34) hx hb dX12_canFit_30 (by decide) ?_
      exact tw_endz hx hb hr hlocks hK hT hS hQ rfl (⟨(iv_mono (iv_c (c := 1) (n := 1) (by decide)) (by decide) (by decide)), (fun _ => h14), (fun _ => h28)⟩) dX12_canFit_34
def Lt_X12_canLose : WL := []
def LRt_X12_canLose : WL := []
set_option maxRecDepth 100000 in
set_option maxHeartbeats 4000000 in
theorem t_X12_canLose (l : Launch) (D : va_G) (cy : Nat → ClassId) (tx : (Nat → Nat) × (Nat → Nat)) (base Z : Nat) (K N : Nat → Nat) (Ma : MT) (Ra : RT) (Ja : JT) (hTy : Ty Z K N Ma Ra) (a0 : Nat) (hz_a0 : a0 < Z) (hk_a0 : K a0 = 12) (a1 : Int32) (h_a1 : iv (-2147483648) 2147483647 a1) : Met l yX12_canLose [Cond.code yX12_canLose cX12_canLose 2 (some .boolean)] (md_rm 2 0 0) (va_Pc [.ref (base + a0), .int a1] (md_U D cy tx base Z K N Ma Ra Ja)) (mQi D cy tx base (fun r u => TP Z K N Lt_X12_canLose LRt_X12_canLose Ma Ra u ∧ (iv 0 1 r))) 0 0 (fun q => base ≤ q) := by
  refine tw_ofW (L := Lt_X12_canLose) (LR := LRt_X12_canLose) (by decide) (Nat.le_of_ble_eq_true rfl) hTy ?_
  intro p e s m args below meth c Q ls hx hb hr hlocks hown hml hW hK hT hS hQ hl
  have hl : lv_has ls 2 [(0, .ref (base + a0)), (1, .int a1)] := hl
  refine lv_aload_n hx hb dX12_canLose_0 rfl (lv_at hl 0 rfl) ?_
  refine lv_iload_n hx hb dX12_canLose_1 rfl (lv_at hl 1 rfl) ?_
  refine tw_goi hS (md_runV (As := [.int a1]) (rest := []) hx hb hml hown hW hK hT hS.1 (t_X12_isSet l D cy tx base Z K N Ma Ra Ja hS.2.1 a0 hz_a0 hk_a0 a1 h_a1) s_X12_404 ⟨rfl, rfl, ⟨Nat.le_of_ble_eq_true rfl, Nat.le_of_ble_eq_true rfl⟩, ⟨Nat.le_of_ble_eq_true rfl, Nat.le_of_ble_eq_true rfl⟩⟩ hz_a0 hk_a0 (by decide) rfl rfl hl.1 rfl (Nat.le_of_ble_eq_true rfl) dX12_canLose_2) rfl rfl (fun x7 H locs M4 R5 J3 hS f1 g2 E6 => ?_)
  have eM4 := Fr.nil f1 rfl
  subst eM4
  have eR5 := Fr.nil g2 rfl
  subst eR5
  have h_x7 := E6
  refine lv_if_eq (tgt := 57) hx hb dX12_canLose_5 (by decide) (fun c8 => ?_) (fun c8 => ?_)
  · have q9 : x7.toInt = 0 := ti_eq c8
    have h10 : iv 0 0 x7 := ⟨by have := (h_x7).1; have := ((iv_c (c := 0) (n := 0) (by decide))).1; omega, by have := (h_x7).2; have := ((iv_c (c := 0) (n := 0) (by decide))).2; omega⟩
    refine lv_iconst (v := 0) hx hb dX12_canLose_57 (by decide) ?_
    exact tw_endz hx hb hr hlocks hK hT hS hQ rfl ((iv_mono (iv_c (c := 0) (n := 0) (by decide)) (by decide) (by decide))) dX12_canLose_58
  · have q11 : ¬ x7.toInt = 0 := ti_ne c8
    have h12 : iv 1 1 x7 := ⟨by have := (h_x7).1; have := ((iv_c (c := 0) (n := 0) (by decide))).1; have := ((iv_c (c := 0) (n := 0) (by decide))).2; omega, by have := (h_x7).2; have := ((iv_c (c := 0) (n := 0) (by decide))).1; have := ((iv_c (c := 0) (n := 0) (by decide))).2; omega⟩
    refine lv_iload_n hx hb dX12_canLose_8 rfl (lv_at hl 1 rfl) ?_
    refine tw_goi hS (md_runS (As := [.int a1]) (rest := []) hx hb hml hown hW hK hT hS.1 (t_X12_bits l D cy tx base Z K N Ma Ra J3 hS.2.1 a1 h_a1) s_X12_341 ⟨rfl, rfl, ⟨Nat.le_of_ble_eq_true rfl, Nat.le_of_ble_eq_true rfl⟩, ⟨Nat.le_of_ble_eq_true rfl, Nat.le_of_ble_eq_true rfl⟩⟩ rfl hl.1 rfl (Nat.le_of_ble_eq_true rfl) dX12_canLose_9) rfl rfl (fun x19 H locs M16 R17 J15 hS f13 g14 E18 => ?_)
    have eM16 := Fr.nil f13 rfl
    subst eM16
    have eR17 := Fr.nil g14 rfl
    subst eR17
    have h_x19 := E18
    refine lv_i2l hx hb dX12_canLose_12 rfl ?_
    refine lv_lconst (v := 1) hx hb dX12_canLose_13 (by decide) ?_
    refine lv_ldc2 hx hb hown (hW _ w_8_59 rfl) dX12_canLose_14 ?_
    refine tw_goi hS (md_runS (As := [.long x19.toInt64, .long 1, .long 3]) (rest := []) hx hb hml hown hW hK hT hS.1 (t_X12_in l D cy tx base Z K N Ma Ra J15 hS.2.1 (x19.toInt64) (1) (3)) s_X12_155 ⟨rfl, rfl, ⟨Nat.le_of_ble_eq_true rfl, Nat.le_of_ble_eq_true rfl⟩, ⟨Nat.le_of_ble_eq_true rfl, Nat.le_of_ble_eq_true rfl⟩⟩ rfl hl.1 rfl (Nat.le_of_ble_eq_true rfl) dX12_canLose_17) rfl rfl (fun x26 H locs M23 R24 J22 hS f20 g21 E25 => ?_)
    have eM23 := Fr.nil f20 rfl
    subst eM23
    have eR24 := Fr.nil g21 rfl
    subst eR24
    obtain ⟨h_x26, p27⟩ := E25
    refine lv_if_eq (tgt := 57) hx hb dX12_canLose_20 (by decide) (fun c28 => ?_) (fun c28 => ?_)
    · have q29 : x26.toInt = 0 := ti_eq c28
      have h30 : iv 0 0 x26 := ⟨by have := (h_x26).1; have := ((iv_c (c := 0) (n := 0) (by decide))).1; omega, by have := (h_x26).2; have := ((iv_c (c := 0) (n := 0) (by decide))).2; omega⟩
      refine lv_iconst (v := 0) hx hb dX12_canLose_57 (by decide) ?_
      exact tw_endz hx hb hr hlocks hK hT hS hQ rfl ((iv_mono (iv_c (c := 0) (n := 0) (by decide)) (by decide) (by decide))) dX12_canLose_58
    · have q31 : ¬ x26.toInt = 0 := ti_ne c28
      have h32 : iv 1 1 x26 := ⟨by have := (h_x26).1; have := ((iv_c (c := 0) (n := 0) (by decide))).1; have := ((iv_c (c := 0) (n := 0) (by decide))).2; omega, by have := (h_x26).2; have := ((iv_c (c := 0) (n := 0) (by decide))).1; have := ((iv_c (c := 0) (n := 0) (by decide))).2; omega⟩
      have h33 : iv 1 3 x19 := in2iv (p27 c28) ((jv_c (x := 1) (n := 1) (by decide))).1 ((jv_c (x := 3) (n := 3) (by decide))).2
      refine lv_iload_n hx hb dX12_canLose_23 rfl (lv_at hl 1 rfl) ?_
      refine lv_aload_n hx hb dX12_canLose_24 rfl (lv_at hl 0 rfl) ?_
      refine tw_getr hx hb hW hown hK hS f_X12_45_11 hz_a0 hk_a0 (t := 23) (n := 226) rfl dX12_canLose_25 (fun b34 k35 hz_b34 hk_b34 hn_b34 => ?_)
      have hn_b34 := hn_b34 (by decide)
      refine lv_iconst (v := 2) hx hb dX12_canLose_28 (by decide) ?_
      refine tw_iald hx hb hK hS hz_b34 hk_b34 (Or.inr (by decide)) hn_b34 (lo := (-2147483648)) (hi := 2147483647) (iv_c (c := 2) (n := 2) (by decide)) ⟨by decide, by decide⟩ (rg_c (k0 := 2) rfl rfl rfl) dX12_canLose_29 (fun x38 k37 h36 => ?_)
      refine lv_iconst (v := (-1)) hx hb dX12_canLose_30 (by decide) ?_
      refine lv_ixor hx hb dX12_canLose_31 ?_
      refine tw_top (fun x40 => ?_)
      have h39 := iv_any x40
      refine lv_iand hx hb dX12_canLose_32 ?_
      refine tw_top (fun x42 => ?_)
      have h41 := iv_any x42
      refine lv_if_ne (tgt := 57) hx hb dX12_canLose_33 (by decide) (fun c43 => ?_) (fun c43 => ?_)
      · have q44 : ¬ x42.toInt = 0 := ti_ne c43
        refine lv_iconst (v := 0) hx hb dX12_canLose_57 (by decide) ?_
        exact tw_endz hx hb hr hlocks hK hT hS hQ rfl ((iv_mono (iv_c (c := 0) (n := 0) (by decide)) (by decide) (by decide))) dX12_canLose_58
      · have q45 : x42.toInt = 0 := ti_eq c43
        have h46 : iv 0 0 x42 := ⟨by have := (h41).1; have := ((iv_c (c := 0) (n := 0) (by decide))).1; omega, by have := (h41).2; have := ((iv_c (c := 0) (n := 0) (by decide))).2; omega⟩
        refine lv_aload_n hx hb dX12_canLose_36 rfl (lv_at hl 0 rfl) ?_
        refine tw_getrk hx hb hW hown hK hS f_X12_45_11 hz_a0 hk_a0 (b := b34) k35 dX12_canLose_37 ?_
        refine lv_iconst (v := 4) hx hb dX12_canLose_40 (by decide) ?_
        refine tw_iald hx hb hK hS hz_b34 hk_b34 (Or.inr (by decide)) hn_b34 (lo := 0) (hi := 8) (iv_c (c := 4) (n := 4) (by decide)) ⟨by decide, by decide⟩ (rg_c (k0 := 4) rfl rfl rfl) dX12_canLose_41 (fun x49 k48 h47 => ?_)
        refine lv_i2l hx hb dX12_canLose_42 rfl ?_
        refine lv_lconst (v := 1) hx hb dX12_canLose_43 (by decide) ?_
        refine lv_ldc2 hx hb hown (hW _ w_7_141 rfl) dX12_canLose_44 ?_
        refine tw_goi hS (md_runS (As := [.long x49.toInt64, .long 1, .long 4]) (rest := []) hx hb hml hown hW hK hT hS.1 (t_X12_in l D cy tx base Z K N Ma Ra J22 hS.2.1 (x49.toInt64) (1) (4)) s_X12_155 ⟨rfl, rfl, ⟨Nat.le_of_ble_eq_true rfl, Nat.le_of_ble_eq_true rfl⟩, ⟨Nat.le_of_ble_eq_true rfl, Nat.le_of_ble_eq_true rfl⟩⟩ rfl hl.1 rfl (Nat.le_of_ble_eq_true rfl) dX12_canLose_47) rfl rfl (fun x56 H locs M53 R54 J52 hS f50 g51 E55 => ?_)
        have eM53 := Fr.nil f50 rfl
        subst eM53
        have eR54 := Fr.nil g51 rfl
        subst eR54
        obtain ⟨h_x56, p57⟩ := E55
        refine lv_if_eq (tgt := 57) hx hb dX12_canLose_50 (by decide) (fun c58 => ?_) (fun c58 => ?_)
        · have q59 : x56.toInt = 0 := ti_eq c58
          have h60 : iv 0 0 x56 := ⟨by have := (h_x56).1; have := ((iv_c (c := 0) (n := 0) (by decide))).1; omega, by have := (h_x56).2; have := ((iv_c (c := 0) (n := 0) (by decide))).2; omega⟩
          refine lv_iconst (v := 0) hx hb dX12_canLose_57 (by decide) ?_
          exact tw_endz hx hb hr hlocks hK hT hS hQ rfl ((iv_mono (iv_c (c := 0) (n := 0) (by decide)) (by decide) (by decide))) dX12_canLose_58
        · have q61 : ¬ x56.toInt = 0 := ti_ne c58
          have h62 : iv 1 1 x56 := ⟨by have := (h_x56).1; have := ((iv_c (c := 0) (n := 0) (by decide))).1; have := ((iv_c (c := 0) (n := 0) (by decide))).2; omega, by have := (h_x56).2; have := ((iv_c (c := 0) (n := 0) (by decide))).1; have := ((iv_c (c := 0) (n := 0) (by decide))).2; omega⟩
          have h63 : iv 1 4 x49 := in2iv (p57 c58) ((jv_c (x := 1) (n := 1) (by decide))).1 ((jv_c (x := 4) (n := 4) (by decide))).2
          refine lv_iconst (v := 1) hx hb dX12_canLose_53 (by decide) ?_
          refine lv_goto (tgt := 58) hx hb dX12_canLose_54 (by decide) ?_
          exact tw_endz hx hb hr hlocks hK hT hS hQ rfl ((iv_mono (iv_c (c := 1) (n := 1) (by decide)) (by decide) (by decide))) dX12_canLose_58
def Lt_X12_isAhead : WL := []
def LRt_X12_isAhead : WL := []
set_option maxRecDepth 100000 in
set_option maxHeartbeats 4000000 in
theorem t_X12_isAhead (l : Launch) (D : va_G) (cy : Nat → ClassId) (tx : (Nat → Nat) × (Nat → Nat)) (base Z : Nat) (K N : Nat → Nat) (Ma : MT) (Ra : RT) (Ja : JT) (hTy : Ty Z K N Ma Ra) (a0 : Nat) (hz_a0 : a0 < Z) (hk_a0 : K a0 = 12) (rm : Int32) (k_rm : Ma a0 30 = rm) (h_rm : iv 0 6 rm) : Met l yX12_isAhead [Cond.code yX12_isAhead cX12_isAhead 2 (some .boolean)] (md_rm 1 0 0) (va_Pc [.ref (base + a0)] (md_U D cy tx base Z K N Ma Ra Ja)) (mQi D cy tx base (fun r u => TP Z K N Lt_X12_isAhead LRt_X12_isAhead Ma Ra u ∧ (iv 0 1 r))) 0 0 (fun q => base ≤ q) := by
  refine tw_ofW (L := Lt_X12_isAhead) (LR := LRt_X12_isAhead) (by decide) (Nat.le_of_ble_eq_true rfl) hTy ?_
  intro p e s m args below meth c Q ls hx hb hr hlocks hown hml hW hK hT hS hQ hl
  have hl : lv_has ls 2 [(0, .ref (base + a0))] := hl
  refine lv_iconst (v := 0) hx hb dX12_isAhead_0 (by decide) ?_
  refine lv_istore_n (lv' := [(1, .int 0), (0, .ref (base + a0))]) hx hb dX12_isAhead_1 rfl hl (by decide) rfl (fun ls hl => ?_)
  have W2_2 : ∀ (n_2 : Nat) (x1 : Int32) (M2 : MT) (R3 : RT) (J4 : JT) (H : Heap) (locs : List Loc) (ls : Array Slot) (h_x1 : iv 0 6 x1) (hm_2 : 6 - x1.toInt < (n_2 : Int)) (hS : SB D cy base Z K N Lt_X12_isAhead LRt_X12_isAhead Ma Ra M2 R3 J4 s H locs) (hl : lv_has ls 2 [(1, .int x1), (0, .ref (base + a0))]), W p l e (md_rm 1 0 0) s m args below meth c H locs 0 0 Q (F0 m 2 ls []) := by
    intro n_2
    induction n_2 with
    | zero =>
      intro x1 M2 R3 J4 H locs ls h_x1 hm_2 hS hl
      exfalso
      have := (h_rm).1; have := (h_rm).2; have := (h_x1).1; have := (h_x1).2; omega
    | succ n_2 ih_2 =>
      intro x1 M2 R3 J4 H locs ls h_x1 hm_2 hS hl
      have f5 := hS.2.2.1
      have g6 := hS.2.2.2
      refine lv_iload_n hx hb dX12_isAhead_2 rfl (lv_at hl 0 rfl) ?_
      refine lv_aload_n hx hb dX12_isAhead_3 rfl (lv_at hl 1 rfl) ?_
      have k7 : M2 a0 30 = rm := (Fr.kp (k := 30) f5 hk_a0 rfl).trans k_rm
      refine tw_getk hx hb hW hown hK hS f_X12_351_11 hz_a0 hk_a0 (v := rm) k7 dX12_isAhead_4 ?_
      refine lv_icmp_ge (tgt := 52) hx hb dX12_isAhead_7 (by decide) (fun c8 => ?_) (fun c8 => ?_)
      · have q9 : rm.toInt ≤ x1.toInt := ti_le c8
        refine lv_iconst (v := 0) hx hb dX12_isAhead_52 (by decide) ?_
        exact tw_endz hx hb hr hlocks hK hT hS hQ rfl ((iv_mono (iv_c (c := 0) (n := 0) (by decide)) (by decide) (by decide))) dX12_isAhead_53
      · have q10 : x1.toInt < rm.toInt := ti_nle c8
        have h11 : iv 0 5 x1 := iv_ltL (y := rm) h_x1 h_rm q10 (by decide)
        have h12 : iv 1 6 rm := iv_gtL (y := x1) h_rm h_x1 q10 (by decide)
        refine lv_aload_n hx hb dX12_isAhead_10 rfl (lv_at hl 1 rfl) ?_
        refine tw_getr hx hb hW hown hK hS f_X12_54_11 hz_a0 hk_a0 (t := 31) (n := 8) rfl dX12_isAhead_11 (fun b13 k14 hz_b13 hk_b13 hn_b13 => ?_)
        have hn_b13 := hn_b13 (by decide)
        refine lv_iload_n hx hb dX12_isAhead_14 rfl (lv_at hl 0 rfl) ?_
        refine tw_iald hx hb hK hS hz_b13 hk_b13 (Or.inr (by decide)) hn_b13 (lo := 0) (hi := 11) h11 ⟨by decide, by decide⟩ rg_u31 dX12_isAhead_15 (fun x17 k16 h15 => ?_)
        refine lv_aload_n hx hb dX12_isAhead_16 rfl (lv_at hl 1 rfl) ?_
        refine tw_getr hx hb hW hown hK hS f_X12_87_11 hz_a0 hk_a0 (t := 14) (n := 6) rfl dX12_isAhead_17 (fun b18 k19 hz_b18 hk_b18 hn_b18 => ?_)
        have hn_b18 := hn_b18 (by decide)
        refine lv_iload_n hx hb dX12_isAhead_20 rfl (lv_at hl 0 rfl) ?_
        refine tw_iald hx hb hK hS hz_b18 hk_b18 (Or.inl rfl) hn_b18 (lo := (-2147483648)) (hi := 2147483647) h11 ⟨by decide, by decide⟩ rg_u14 dX12_isAhead_21 (fun x22 k21 h20 => ?_)
        refine lv_icmp_eq (tgt := 46) hx hb dX12_isAhead_22 (by decide) (fun c23 => ?_) (fun c23 => ?_)
        · have q24 : x17.toInt = x22.toInt := ti_eq c23
          have h25 : iv 0 11 x22 := ⟨by have := (h15).1; have := (h20).1; omega, by have := (h15).2; have := (h20).2; omega⟩
          refine tw_iinc (lv' := fun x28 => [(1, .int x28), (0, .ref (base + a0))]) (lo := 1) (hi := 6) hx hb dX12_isAhead_46 hl (k := 0) rfl h11 (by decide) ⟨by decide, by decide⟩ ⟨by decide, by decide⟩ (by decide) (fun _ => rfl) (fun x28 ls e27 h26 hl => ?_)
          refine lv_goto (tgt := 2) hx hb dX12_isAhead_49 (by decide) ?_
          have hm29 : 6 - x28.toInt < (n_2 : Int) := by
            have := (h12).1; have := (h12).2; have := (h11).1; have := (h11).2; have := (h26).1; have := (h26).2; omega
          exact ih_2 x28 M2 R3 J4 H locs _ (iv_mono h26 (by decide) (by decide)) hm29 hS hl
        · have q30 : ¬ x17.toInt = x22.toInt := ti_ne c23
          refine lv_aload_n hx hb dX12_isAhead_25 rfl (lv_at hl 1 rfl) ?_
          refine tw_getrk hx hb hW hown hK hS f_X12_54_11 hz_a0 hk_a0 (b := b13) k14 dX12_isAhead_26 ?_
          refine lv_iload_n hx hb dX12_isAhead_29 rfl (lv_at hl 0 rfl) ?_
          refine tw_ialk hx hb hK hS hz_b13 hk_b13 (Or.inr (by decide)) hn_b13 h11 ⟨by decide, by decide⟩ (v := x17) k16 dX12_isAhead_30 ?_
          refine lv_aload_n hx hb dX12_isAhead_31 rfl (lv_at hl 1 rfl) ?_
          refine tw_getrk hx hb hW hown hK hS f_X12_87_11 hz_a0 hk_a0 (b := b18) k19 dX12_isAhead_32 ?_
          refine lv_iload_n hx hb dX12_isAhead_35 rfl (lv_at hl 0 rfl) ?_
          refine tw_ialk hx hb hK hS hz_b18 hk_b18 (Or.inl rfl) hn_b18 h11 ⟨by decide, by decide⟩ (v := x22) k21 dX12_isAhead_36 ?_
          refine lv_icmp_ge (tgt := 44) hx hb dX12_isAhead_37 (by decide) (fun c31 => ?_) (fun c31 => ?_)
          · have q32 : x22.toInt ≤ x17.toInt := ti_le c31
            have h33 : iv (-2147483648) 11 x22 := iv_leL (y := x17) h20 h15 q32 (by decide)
            refine lv_iconst (v := 0) hx hb dX12_isAhead_44 (by decide) ?_
            exact tw_endz hx hb hr hlocks hK hT hS hQ rfl ((iv_mono (iv_c (c := 0) (n := 0) (by decide)) (by decide) (by decide))) dX12_isAhead_45
          · have q34 : x17.toInt < x22.toInt := ti_nle c31
            have h35 : iv 1 2147483647 x22 := iv_gtL (y := x17) h20 h15 q34 (by decide)
            refine lv_iconst (v := 1) hx hb dX12_isAhead_40 (by decide) ?_
            refine lv_goto (tgt := 45) hx hb dX12_isAhead_41 (by decide) ?_
            exact tw_endz hx hb hr hlocks hK hT hS hQ rfl ((iv_mono (iv_c (c := 1) (n := 1) (by decide)) (by decide) (by decide))) dX12_isAhead_45
  have hm36 : 6 - (0 : Int32).toInt < (((7 : Nat) : Int) : Int) := by
    have := (h_rm).1; have := (h_rm).2; have : (0 : Int32).toInt = 0 := (by decide); omega
  exact W2_2 7 0 Ma Ra Ja s.heap [] _ (iv_mono (iv_c (c := 0) (n := 0) (by decide)) (by decide) (by decide)) hm36 hS hl
def Lt_X12_isRow : WL := [(33, 0, 2000000)]
def LRt_X12_isRow : WL := []
set_option maxRecDepth 100000 in
set_option maxHeartbeats 4000000 in
theorem t_X12_isRow (l : Launch) (D : va_G) (cy : Nat → ClassId) (tx : (Nat → Nat) × (Nat → Nat)) (base Z : Nat) (K N : Nat → Nat) (Ma : MT) (Ra : RT) (Ja : JT) (hTy : Ty Z K N Ma Ra) (a0 : Nat) (hz_a0 : a0 < Z) (hk_a0 : K a0 = 12) (a1 : Int32) (h_a1 : iv 0 2147483647 a1) (a2 : Int32) (h_a2 : iv 1 6 a2) : Met l yX12_isRow [Cond.code yX12_isRow cX12_isRow 6 (some .boolean)] (md_rm 1 0 0) (va_Pc [.ref (base + a0), .int a1, .int a2] (md_U D cy tx base Z K N Ma Ra Ja)) (mQi D cy tx base (fun r u => TP Z K N Lt_X12_isRow LRt_X12_isRow Ma Ra u ∧ (iv 0 1 r))) 0 0 (fun q => base ≤ q) := by
  refine tw_ofW (L := Lt_X12_isRow) (LR := LRt_X12_isRow) (by decide) (Nat.le_of_ble_eq_true rfl) hTy ?_
  intro p e s m args below meth c Q ls hx hb hr hlocks hown hml hW hK hT hS hQ hl
  have hl : lv_has ls 6 [(0, .ref (base + a0)), (1, .int a1), (2, .int a2)] := hl
  refine lv_iload_n hx hb dX12_isRow_0 rfl (lv_at hl 1 rfl) ?_
  refine lv_istore_n (lv' := [(3, .int a1), (0, .ref (base + a0)), (1, .int a1), (2, .int a2)]) hx hb dX12_isRow_1 rfl hl (by decide) rfl (fun ls hl => ?_)
  refine lv_iconst (v := 0) hx hb dX12_isRow_2 (by decide) ?_
  refine lv_istore (lv' := [(4, .int 0), (3, .int a1), (0, .ref (base + a0)), (1, .int a1), (2, .int a2)]) hx hb dX12_isRow_3 hl (by decide) rfl (fun ls hl => ?_)
  refine lv_iload_n hx hb dX12_isRow_5 rfl (lv_at hl 4 rfl) ?_
  refine lv_iconst (v := 1) hx hb dX12_isRow_6 (by decide) ?_
  refine tw_isub (lo := 0) (hi := 5) hx hb h_a2 (iv_c (c := 1) (n := 1) (by decide)) ⟨by decide, by decide⟩ ⟨by decide, by decide⟩ dX12_isRow_7 (fun x3 e2 h1 => ?_)
  have e2 : x3.toInt = a2.toInt - 1 := e2
  refine lv_istore (lv' := [(5, .int x3), (4, .int 0), (3, .int a1), (0, .ref (base + a0)), (1, .int a1), (2, .int a2)]) hx hb dX12_isRow_8 hl (by decide) rfl (fun ls hl => ?_)
  have W10_7 : ∀ (n_7 : Nat) (x4 : Int32) (x5 : Int32) (x6 : Int32) (M7 : MT) (R8 : RT) (J9 : JT) (H : Heap) (locs : List Loc) (ls : Array Slot) (h_x4 : iv 0 2147483647 x4) (h_x5 : iv (-2147483648) 2147483647 x5) (h_x6 : iv (-1) 5 x6) (hm_7 : x6.toInt - (-1) < (n_7 : Int)) (hS : SB D cy base Z K N Lt_X12_isRow LRt_X12_isRow Ma Ra M7 R8 J9 s H locs) (hl : lv_has ls 6 [(3, .int x4), (4, .int x5), (5, .int x6), (0, .ref (base + a0)), (1, .int a1), (2, .int a2)]), W p l e (md_rm 1 0 0) s m args below meth c H locs 0 0 Q (F0 m 10 ls []) := by
    intro n_7
    induction n_7 with
    | zero =>
      intro x4 x5 x6 M7 R8 J9 H locs ls h_x4 h_x5 h_x6 hm_7 hS hl
      exfalso
      have := (h_a1).1; have := (h_a1).2; have := (h_a2).1; have := (h_a2).2; have := (h_x6).1; have := (h_x6).2; omega
    | succ n_7 ih_7 =>
      intro x4 x5 x6 M7 R8 J9 H locs ls h_x4 h_x5 h_x6 hm_7 hS hl
      have f10 := hS.2.2.1
      have g11 := hS.2.2.2
      refine lv_iload hx hb dX12_isRow_10 (lv_at hl 2 rfl) ?_
      refine lv_if_lt (tgt := 49) hx hb dX12_isRow_12 (by decide) (fun c12 => ?_) (fun c12 => ?_)
      · have q13 : x6.toInt < 0 := ti_lt c12
        have h14 : iv (-1) (-1) x6 := iv_ltL (y := 0) h_x6 (iv_c (c := 0) (n := 0) (by decide)) q13 (by decide)
        refine lv_iload hx hb dX12_isRow_49 (lv_at hl 1 rfl) ?_
        refine lv_iconst (v := 1) hx hb dX12_isRow_51 (by decide) ?_
        refine lv_iload_n hx hb dX12_isRow_52 rfl (lv_at hl 5 rfl) ?_
        refine lv_ishl hx hb dX12_isRow_53 ?_
        refine tw_top (fun x16 => ?_)
        have h15 := iv_any x16
        refine lv_iconst (v := 1) hx hb dX12_isRow_54 (by decide) ?_
        refine lv_isub hx hb dX12_isRow_55 ?_
        refine tw_top (fun x18 => ?_)
        have h17 := iv_any x18
        refine lv_icmp_ne (tgt := 63) hx hb dX12_isRow_56 (by decide) (fun c19 => ?_) (fun c19 => ?_)
        · have q20 : ¬ x5.toInt = x18.toInt := ti_ne c19
          refine lv_iconst (v := 0) hx hb dX12_isRow_63 (by decide) ?_
          exact tw_endz hx hb hr hlocks hK hT hS hQ rfl ((iv_mono (iv_c (c := 0) (n := 0) (by decide)) (by decide) (by decide))) dX12_isRow_64
        · have q21 : x5.toInt = x18.toInt := ti_eq c19
          refine lv_iconst (v := 1) hx hb dX12_isRow_59 (by decide) ?_
          refine lv_goto (tgt := 64) hx hb dX12_isRow_60 (by decide) ?_
          exact tw_endz hx hb hr hlocks hK hT hS hQ rfl ((iv_mono (iv_c (c := 1) (n := 1) (by decide)) (by decide) (by decide))) dX12_isRow_64
      · have q22 : 0 ≤ x6.toInt := ti_nlt c12
        have h23 : iv 0 5 x6 := iv_geL (y := 0) h_x6 (iv_c (c := 0) (n := 0) (by decide)) q22 (by decide)
        refine lv_aload_n hx hb dX12_isRow_15 rfl (lv_at hl 3 rfl) ?_
        refine tw_getr hx hb hW hown hK hS f_X12_90_11 hz_a0 hk_a0 (t := 33) (n := 6) rfl dX12_isRow_16 (fun b24 k25 hz_b24 hk_b24 hn_b24 => ?_)
        have hn_b24 := hn_b24 (by decide)
        refine lv_iload hx hb dX12_isRow_19 (lv_at hl 2 rfl) ?_
        refine lv_iload_n hx hb dX12_isRow_21 rfl (lv_at hl 0 rfl) ?_
        refine lv_iload_n hx hb dX12_isRow_22 rfl (lv_at hl 5 rfl) ?_
        refine tw_irem (lo := 0) (hi := 5) hx hb h_x4 h_a2 ⟨by decide, by decide⟩ ⟨by decide, by decide⟩ dX12_isRow_23 (fun x28 e27 h26 => ?_)
        refine tw_iast hx hb hK hS hz_b24 hk_b24 (Or.inr (by decide)) hn_b24 h23 ⟨by decide, by decide⟩ h26 (rg_s33 ⟨by decide, by decide⟩) (jl := 0) (jh := 1999999) ⟨by decide, by decide⟩ rfl dX12_isRow_24 (fun H locs M31 hS k29 f30 => ?_)
        refine lv_iload_n hx hb dX12_isRow_25 rfl (lv_at hl 0 rfl) ?_
        refine lv_iload_n hx hb dX12_isRow_26 rfl (lv_at hl 5 rfl) ?_
        refine tw_idiv (lo := 0) (hi := 2147483647) hx hb h_x4 h_a2 ⟨by decide, by decide⟩ ⟨by decide, by decide⟩ dX12_isRow_27 (fun x34 e33 h32 => ?_)
        refine lv_istore_n (lv' := [(3, .int x34), (4, .int x5), (5, .int x6), (0, .ref (base + a0)), (1, .int a1), (2, .int a2)]) hx hb dX12_isRow_28 rfl hl (by decide) rfl (fun ls hl => ?_)
        refine lv_iload hx hb dX12_isRow_29 (lv_at hl 1 rfl) ?_
        refine lv_iconst (v := 1) hx hb dX12_isRow_31 (by decide) ?_
        refine lv_aload_n hx hb dX12_isRow_32 rfl (lv_at hl 3 rfl) ?_
        refine tw_getrk hx hb hW hown hK hS f_X12_90_11 hz_a0 hk_a0 (b := b24) k25 dX12_isRow_33 ?_
        refine lv_iload hx hb dX12_isRow_36 (lv_at hl 2 rfl) ?_
        refine tw_ialk hx hb hK hS hz_b24 hk_b24 (Or.inr (by decide)) hn_b24 h23 ⟨by decide, by decide⟩ (v := x28) k29 dX12_isRow_38 ?_
        refine lv_ishl hx hb dX12_isRow_39 ?_
        refine tw_top (fun x36 => ?_)
        have h35 := iv_any x36
        refine lv_ior hx hb dX12_isRow_40 ?_
        refine tw_top (fun x38 => ?_)
        have h37 := iv_any x38
        refine lv_istore (lv' := [(4, .int x38), (3, .int x34), (5, .int x6), (0, .ref (base + a0)), (1, .int a1), (2, .int a2)]) hx hb dX12_isRow_41 hl (by decide) rfl (fun ls hl => ?_)
        refine tw_iinc (lv' := fun x41 => [(5, .int x41), (4, .int x38), (3, .int x34), (0, .ref (base + a0)), (1, .int a1), (2, .int a2)]) (lo := (-1)) (hi := 4) hx hb dX12_isRow_43 hl (k := 2) rfl h23 (by decide) ⟨by decide, by decide⟩ ⟨by decide, by decide⟩ (by decide) (fun _ => rfl) (fun x41 ls e40 h39 hl => ?_)
        refine lv_goto (tgt := 10) hx hb dX12_isRow_46 (by decide) ?_
        have hm42 : x41.toInt - (-1) < (n_7 : Int) := by
          have := (h_a1).1; have := (h_a1).2; have := (h_a2).1; have := (h_a2).2; have := (h39).1; have := (h39).2; have := (h23).1; have := (h23).2; omega
        exact ih_7 x34 x38 x41 M31 R8 J9 H locs _ h32 h37 (iv_mono h39 (by decide) (by decide)) hm42 hS (lv_sub hl [2, 1, 0, 3, 4, 5] rfl)
  have hm43 : x3.toInt - (-1) < (((7 : Nat) : Int) : Int) := by
    have := (h_a1).1; have := (h_a1).2; have := (h_a2).1; have := (h_a2).2; have := (h1).1; have := (h1).2; omega
  exact W10_7 7 a1 0 x3 Ma Ra Ja s.heap [] _ h_a1 (iv_mono (iv_c (c := 0) (n := 0) (by decide)) (by decide) (by decide)) (iv_mono h1 (by decide) (by decide)) hm43 hS (lv_sub hl [2, 1, 0, 3, 4, 5] rfl)
def Lt_X12_counts : WL := [(12, 35, 37)]
def LRt_X12_counts : WL := []
set_option maxRecDepth 100000 in
set_option maxHeartbeats 4000000 in
theorem t_X12_counts (l : Launch) (D : va_G) (cy : Nat → ClassId) (tx : (Nat → Nat) × (Nat → Nat)) (base Z : Nat) (K N : Nat → Nat) (Ma : MT) (Ra : RT) (Ja : JT) (hTy : Ty Z K N Ma Ra) (a0 : Nat) (hz_a0 : a0 < Z) (hk_a0 : K a0 = 12) (a1 : Int32) (h_a1 : iv 0 9 a1) (a2 : Int32) (h_a2 : iv 0 11 a2) (a3 : Int32) (h_a3 : iv 0 2 a3) : Met l yX12_counts [Cond.code yX12_counts cX12_counts 4 none] (md_rm 2 0 0) (va_Pc [.ref (base + a0), .int a1, .int a2, .int a3] (md_U D cy tx base Z K N Ma Ra Ja)) (mQv D cy tx base (fun u => TP Z K N Lt_X12_counts LRt_X12_counts Ma Ra u ∧ (True))) 0 0 (fun q => base ≤ q) := by
  refine tw_ofW (L := Lt_X12_counts) (LR := LRt_X12_counts) (by decide) (Nat.le_of_ble_eq_true rfl) hTy ?_
  intro p e s m args below meth c Q ls hx hb hr hlocks hown hml hW hK hT hS hQ hl
  have hl : lv_has ls 4 [(0, .ref (base + a0)), (1, .int a1), (2, .int a2), (3, .int a3)] := hl
  refine lv_iload_n hx hb dX12_counts_0 rfl (lv_at hl 3 rfl) ?_
  refine lv_iconst (v := 1) hx hb dX12_counts_1 (by decide) ?_
  refine lv_icmp_eq (tgt := 6) hx hb dX12_counts_2 (by decide) (fun c1 => ?_) (fun c1 => ?_)
  · have q2 : a3.toInt = 1 := ti_eq c1
    have h3 : iv 1 1 a3 := ⟨by have := (h_a3).1; have := ((iv_c (c := 1) (n := 1) (by decide))).1; omega, by have := (h_a3).2; have := ((iv_c (c := 1) (n := 1) (by decide))).2; omega⟩
    refine lv_aload_n hx hb dX12_counts_6 rfl (lv_at hl 0 rfl) ?_
    refine lv_dup hx hb dX12_counts_7 rfl ?_
    refine tw_geti hx hb hW hown hK hS f_X12_407_11 hz_a0 hk_a0 (lo := (-2147483648)) (hi := 2147483647) rfl dX12_counts_8 (fun x6 k5 h4 => ?_)
    refine lv_iconst (v := 1) hx hb dX12_counts_11 (by decide) ?_
    refine lv_iadd hx hb dX12_counts_12 ?_
    refine tw_top (fun x8 => ?_)
    have h7 := iv_any x8
    refine tw_puti hx hb hW hown hK hS f_X12_407_11 hz_a0 hk_a0 rfl rfl (lo := (-2147483648)) (hi := 2147483647) rfl h7 rfl dX12_counts_13 (fun H locs M11 hS k9 f10 => ?_)
    refine lv_aload_n hx hb dX12_counts_16 rfl (lv_at hl 0 rfl) ?_
    refine lv_dup hx hb dX12_counts_17 rfl ?_
    refine tw_geti hx hb hW hown hK hS f_X12_410_11 hz_a0 hk_a0 (lo := (-2147483648)) (hi := 2147483647) rfl dX12_counts_18 (fun x14 k13 h12 => ?_)
    refine lv_aload_n hx hb dX12_counts_21 rfl (lv_at hl 0 rfl) ?_
    refine lv_iload_n hx hb dX12_counts_22 rfl (lv_at hl 1 rfl) ?_
    refine lv_iload_n hx hb dX12_counts_23 rfl (lv_at hl 2 rfl) ?_
    refine tw_goi hS (md_runV (As := [.int a1, .int a2]) (rest := [.int x14, .ref (base + a0)]) hx hb hml hown hW hK hT hS.1 (t_X12_worthOf l D cy tx base Z K N M11 Ra Ja hS.2.1 a0 hz_a0 hk_a0 a1 h_a1 a2 h_a2) s_X12_330 ⟨rfl, rfl, ⟨Nat.le_of_ble_eq_true rfl, Nat.le_of_ble_eq_true rfl⟩, ⟨Nat.le_of_ble_eq_true rfl, Nat.le_of_ble_eq_true rfl⟩⟩ hz_a0 hk_a0 (by decide) rfl rfl hl.1 rfl (Nat.le_of_ble_eq_true rfl) dX12_counts_24) rfl rfl (fun x21 H locs M18 R19 J17 hS f15 g16 E20 => ?_)
    have eM18 := Fr.nil f15 rfl
    subst eM18
    have eR19 := Fr.nil g16 rfl
    subst eR19
    have h_x21 := E20
    refine lv_iadd hx hb dX12_counts_27 ?_
    refine tw_top (fun x23 => ?_)
    have h22 := iv_any x23
    refine tw_puti hx hb hW hown hK hS f_X12_410_11 hz_a0 hk_a0 rfl rfl (lo := (-2147483648)) (hi := 2147483647) rfl h22 rfl dX12_counts_28 (fun H locs M26 hS k24 f25 => ?_)
    exact tw_endv hx hb hr hlocks hK hT hS hQ (trivial) dX12_counts_31
  · have q27 : ¬ a3.toInt = 1 := ti_ne c1
    exact tw_endv hx hb hr hlocks hK hT hS hQ (trivial) dX12_counts_5
def Lt_X12_passes : WL := [(12, 23, 24), (12, 28, 29), (12, 31, 33), (12, 35, 37), (14, 0, 2000000), (30, 0, 2000000)]
def LRt_X12_passes : WL := []
set_option maxRecDepth 100000 in
set_option maxHeartbeats 4000000 in
theorem t_X12_passes (l : Launch) (D : va_G) (cy : Nat → ClassId) (tx : (Nat → Nat) × (Nat → Nat)) (base Z : Nat) (K N : Nat → Nat) (Ma : MT) (Ra : RT) (Ja : JT) (hTy : Ty Z K N Ma Ra) (a0 : Nat) (hz_a0 : a0 < Z) (hk_a0 : K a0 = 12) (a1 : Int32) (h_a1 : iv 0 9 a1) (co_a0 : Codes Ma Ra a0) : Met l yX12_passes [Cond.code yX12_passes cX12_passes 3 none] (md_rm 5 0 0) (va_Pc [.ref (base + a0), .int a1] (md_U D cy tx base Z K N Ma Ra Ja)) (mQv D cy tx base (fun u => TP Z K N Lt_X12_passes LRt_X12_passes Ma Ra u ∧ (True))) 0 0 (fun q => base ≤ q) := by
  refine tw_ofW (L := Lt_X12_passes) (LR := LRt_X12_passes) (by decide) (Nat.le_of_ble_eq_true rfl) hTy ?_
  intro p e s m args below meth c Q ls hx hb hr hlocks hown hml hW hK hT hS hQ hl
  have hl : lv_has ls 3 [(0, .ref (base + a0)), (1, .int a1)] := hl
  refine lv_iconst (v := 0) hx hb dX12_passes_0 (by decide) ?_
  refine lv_istore_n (lv' := [(2, .int 0), (0, .ref (base + a0)), (1, .int a1)]) hx hb dX12_passes_1 rfl hl (by decide) rfl (fun ls hl => ?_)
  have W2_2 : ∀ (n_2 : Nat) (x1 : Int32) (M2 : MT) (R3 : RT) (J4 : JT) (H : Heap) (locs : List Loc) (ls : Array Slot) (h_x1 : iv 0 8 x1) (hm_2 : 8 - x1.toInt < (n_2 : Int)) (hS : SB D cy base Z K N Lt_X12_passes LRt_X12_passes Ma Ra M2 R3 J4 s H locs) (hl : lv_has ls 3 [(2, .int x1), (0, .ref (base + a0)), (1, .int a1)]), W p l e (md_rm 5 0 0) s m args below meth c H locs 0 0 Q (F0 m 2 ls []) := by
    intro n_2
    induction n_2 with
    | zero =>
      intro x1 M2 R3 J4 H locs ls h_x1 hm_2 hS hl
      exfalso
      have := (h_a1).1; have := (h_a1).2; have := (h_x1).1; have := (h_x1).2; omega
    | succ n_2 ih_2 =>
      intro x1 M2 R3 J4 H locs ls h_x1 hm_2 hS hl
      have f5 := hS.2.2.1
      have g6 := hS.2.2.2
      refine lv_iload_n hx hb dX12_passes_2 rfl (lv_at hl 0 rfl) ?_
      refine lv_aload_n hx hb dX12_passes_3 rfl (lv_at hl 1 rfl) ?_
      refine tw_geti hx hb hW hown hK hS f_X12_351_11 hz_a0 hk_a0 (lo := 0) (hi := 8) rfl dX12_passes_4 (fun x9 k8 h7 => ?_)
      refine lv_icmp_ge (tgt := 42) hx hb dX12_passes_7 (by decide) (fun c10 => ?_) (fun c10 => ?_)
      · have q11 : x9.toInt ≤ x1.toInt := ti_le c10
        exact tw_endv hx hb hr hlocks hK hT hS hQ (trivial) dX12_passes_42
      · have q12 : x1.toInt < x9.toInt := ti_nle c10
        have h13 : iv 0 7 x1 := iv_ltL (y := x9) h_x1 h7 q12 (by decide)
        have h14 : iv 1 8 x9 := iv_gtL (y := x1) h7 h_x1 q12 (by decide)
        refine lv_aload_n hx hb dX12_passes_10 rfl (lv_at hl 1 rfl) ?_
        refine lv_aload_n hx hb dX12_passes_11 rfl (lv_at hl 1 rfl) ?_
        refine tw_getr hx hb hW hown hK hS f_X12_54_11 hz_a0 hk_a0 (t := 31) (n := 8) rfl dX12_passes_12 (fun b15 k16 hz_b15 hk_b15 hn_b15 => ?_)
        have hn_b15 := hn_b15 (by decide)
        refine lv_iload_n hx hb dX12_passes_15 rfl (lv_at hl 0 rfl) ?_
        refine tw_iald hx hb hK hS hz_b15 hk_b15 (Or.inr (by decide)) hn_b15 (lo := 0) (hi := 11) h13 ⟨by decide, by decide⟩ rg_u31 dX12_passes_16 (fun x19 k18 h17 => ?_)
        refine lv_iload_n hx hb dX12_passes_17 rfl (lv_at hl 0 rfl) ?_
        refine tw_gov hS (md_runV (As := [.int x19, .int x1]) (rest := []) hx hb hml hown hW hK hT hS.1 (t_X12_asks l D cy tx base Z K N M2 R3 J4 hS.2.1 a0 hz_a0 hk_a0 x19 h17 x1 (iv_mono h13 (by decide) (by decide)) (Codes.fr co_a0 hTy hz_a0 hk_a0 hS.2.2.1 hS.2.2.2 rfl)) s_X12_396 ⟨rfl, rfl, ⟨Nat.le_of_ble_eq_true rfl, Nat.le_of_ble_eq_true rfl⟩, ⟨Nat.le_of_ble_eq_true rfl, Nat.le_of_ble_eq_true rfl⟩⟩ hz_a0 hk_a0 (by decide) rfl rfl hl.1 rfl (Nat.le_of_ble_eq_true rfl) dX12_passes_18) rfl rfl (fun H locs M23 R24 J22 hS f20 g21 E25 => ?_)
        have eR24 := Fr.nil g21 rfl
        subst eR24
        refine lv_aload_n hx hb dX12_passes_21 rfl (lv_at hl 1 rfl) ?_
        refine lv_iload_n hx hb dX12_passes_22 rfl (lv_at hl 2 rfl) ?_
        refine lv_aload_n hx hb dX12_passes_23 rfl (lv_at hl 1 rfl) ?_
        refine tw_getrk hx hb hW hown hK hS f_X12_54_11 hz_a0 hk_a0 (b := b15) k16 dX12_passes_24 ?_
        refine lv_iload_n hx hb dX12_passes_27 rfl (lv_at hl 0 rfl) ?_
        have k26 : M23 b15 x1.toNatClampNeg = x19 := (Fr.kpa f20 hk_b15 rfl x1.toNatClampNeg).trans k18
        refine tw_ialk hx hb hK hS hz_b15 hk_b15 (Or.inr (by decide)) hn_b15 h13 ⟨by decide, by decide⟩ (v := x19) k26 dX12_passes_28 ?_
        refine lv_aload_n hx hb dX12_passes_29 rfl (lv_at hl 1 rfl) ?_
        refine tw_goi hS (md_runV (As := []) (rest := [.int x19, .int a1, .ref (base + a0)]) hx hb hml hown hW hK hT hS.1 (t_X12_settles_ l D cy tx base Z K N M23 R3 J22 hS.2.1 a0 hz_a0 hk_a0) s_X12_399 ⟨rfl, rfl, ⟨Nat.le_of_ble_eq_true rfl, Nat.le_of_ble_eq_true rfl⟩, ⟨Nat.le_of_ble_eq_true rfl, Nat.le_of_ble_eq_true rfl⟩⟩ hz_a0 hk_a0 (by decide) rfl rfl hl.1 rfl (Nat.le_of_ble_eq_true rfl) dX12_passes_30) rfl rfl (fun x33 H locs M30 R31 J29 hS f27 g28 E32 => ?_)
        have eR31 := Fr.nil g28 rfl
        subst eR31
        have h_x33 := E32
        refine tw_gov hS (md_runV (As := [.int a1, .int x19, .int x33]) (rest := []) hx hb hml hown hW hK hT hS.1 (t_X12_counts l D cy tx base Z K N M30 R3 J29 hS.2.1 a0 hz_a0 hk_a0 a1 h_a1 x19 h17 x33 h_x33) s_X12_413 ⟨rfl, rfl, ⟨Nat.le_of_ble_eq_true rfl, Nat.le_of_ble_eq_true rfl⟩, ⟨Nat.le_of_ble_eq_true rfl, Nat.le_of_ble_eq_true rfl⟩⟩ hz_a0 hk_a0 (by decide) rfl rfl hl.1 rfl (Nat.le_of_ble_eq_true rfl) dX12_passes_33) rfl rfl (fun H locs M37 R38 J36 hS f34 g35 E39 => ?_)
        have eR38 := Fr.nil g35 rfl
        subst eR38
        refine tw_iinc (lv' := fun x42 => [(2, .int x42), (0, .ref (base + a0)), (1, .int a1)]) (lo := 1) (hi := 8) hx hb dX12_passes_36 hl (k := 0) rfl h13 (by decide) ⟨by decide, by decide⟩ ⟨by decide, by decide⟩ (by decide) (fun _ => rfl) (fun x42 ls e41 h40 hl => ?_)
        refine lv_goto (tgt := 2) hx hb dX12_passes_39 (by decide) ?_
        have hm43 : 8 - x42.toInt < (n_2 : Int) := by
          have := (h_a1).1; have := (h_a1).2; have := (h13).1; have := (h13).2; have := (h40).1; have := (h40).2; omega
        exact ih_2 x42 M37 R3 J36 H locs _ (iv_mono h40 (by decide) (by decide)) hm43 hS hl
  have hm44 : 8 - (0 : Int32).toInt < (((9 : Nat) : Int) : Int) := by
    have := (h_a1).1; have := (h_a1).2; have : (0 : Int32).toInt = 0 := (by decide); omega
  exact W2_2 9 0 Ma Ra Ja s.heap [] _ (iv_mono (iv_c (c := 0) (n := 0) (by decide)) (by decide) (by decide)) hm44 hS hl
def Lt_X12_chair : WL := [(12, 23, 24), (12, 28, 29), (12, 30, 33), (12, 35, 37), (14, 0, 2000000), (30, 0, 2000000), (31, 0, 2000000), (33, 0, 2000000)]
def LRt_X12_chair : WL := []
set_option maxRecDepth 100000 in
set_option maxHeartbeats 4000000 in
theorem t_X12_chair (l : Launch) (D : va_G) (cy : Nat → ClassId) (tx : (Nat → Nat) × (Nat → Nat)) (base Z : Nat) (K N : Nat → Nat) (Ma : MT) (Ra : RT) (Ja : JT) (hTy : Ty Z K N Ma Ra) (a0 : Nat) (hz_a0 : a0 < Z) (hk_a0 : K a0 = 12) (a1 : Int32) (h_a1 : iv (-2147483648) 2147483647 a1) (a2 : Int32) (h_a2 : iv (-2147483648) 2147483647 a2) (a3 : Int32) (h_a3 : iv (-2147483648) 2147483647 a3) (co_a0 : Codes Ma Ra a0) : Met l yX12_chair [Cond.code yX12_chair cX12_chair 11 (some .int)] (md_rm 6 0 0) (va_Pc [.ref (base + a0), .int a1, .int a2, .int a3] (md_U D cy tx base Z K N Ma Ra Ja)) (mQi D cy tx base (fun r u => TP Z K N Lt_X12_chair LRt_X12_chair Ma Ra u ∧ (iv (-2147483648) 2147483647 r))) 0 0 (fun q => base ≤ q) := by
  refine tw_ofW (L := Lt_X12_chair) (LR := LRt_X12_chair) (by decide) (Nat.le_of_ble_eq_true rfl) hTy ?_
  intro p e s m args below meth c Q ls hx hb hr hlocks hown hml hW hK hT hS hQ hl
  have hl : lv_has ls 11 [(0, .ref (base + a0)), (1, .int a1), (2, .int a2), (3, .int a3)] := hl
  refine lv_aload_n hx hb dX12_chair_0 rfl (lv_at hl 0 rfl) ?_
  refine tw_getr hx hb hW hown hK hS f_X12_45_11 hz_a0 hk_a0 (t := 23) (n := 226) rfl dX12_chair_1 (fun b1 k2 hz_b1 hk_b1 hn_b1 => ?_)
  have hn_b1 := hn_b1 (by decide)
  refine lv_iconst (v := 4) hx hb dX12_chair_4 (by decide) ?_
  refine tw_iald hx hb hK hS hz_b1 hk_b1 (Or.inr (by decide)) hn_b1 (lo := 0) (hi := 8) (iv_c (c := 4) (n := 4) (by decide)) ⟨by decide, by decide⟩ (rg_c (k0 := 4) rfl rfl rfl) dX12_chair_5 (fun x5 k4 h3 => ?_)
  refine lv_istore (lv' := [(4, .int x5), (0, .ref (base + a0)), (1, .int a1), (2, .int a2), (3, .int a3)]) hx hb dX12_chair_6 hl (by decide) rfl (fun ls hl => ?_)
  refine lv_aload_n hx hb dX12_chair_8 rfl (lv_at hl 1 rfl) ?_
  refine lv_iload_n hx hb dX12_chair_9 rfl (lv_at hl 2 rfl) ?_
  refine tw_goi hS (md_runV (As := [.int a1]) (rest := []) hx hb hml hown hW hK hT hS.1 (t_X12_isMember l D cy tx base Z K N Ma Ra Ja hS.2.1 a0 hz_a0 hk_a0 a1 h_a1) s_X12_319 ⟨rfl, rfl, ⟨Nat.le_of_ble_eq_true rfl, Nat.le_of_ble_eq_true rfl⟩, ⟨Nat.le_of_ble_eq_true rfl, Nat.le_of_ble_eq_true rfl⟩⟩ hz_a0 hk_a0 (by decide) rfl rfl hl.1 rfl (Nat.le_of_ble_eq_true rfl) dX12_chair_10) rfl rfl (fun x12 H locs M9 R10 J8 hS f6 g7 E11 => ?_)
  have eM9 := Fr.nil f6 rfl
  subst eM9
  have eR10 := Fr.nil g7 rfl
  subst eR10
  obtain ⟨h_x12, p13⟩ := E11
  refine lv_if_eq (tgt := 41) hx hb dX12_chair_13 (by decide) (fun c14 => ?_) (fun c14 => ?_)
  · have q15 : x12.toInt = 0 := ti_eq c14
    have h16 : iv 0 0 x12 := ⟨by have := (h_x12).1; have := ((iv_c (c := 0) (n := 0) (by decide))).1; omega, by have := (h_x12).2; have := ((iv_c (c := 0) (n := 0) (by decide))).2; omega⟩
    refine lv_ldcw hx hb hown (hW _ w_8_46 rfl) dX12_chair_41 ?_
    exact tw_endi hx hb hr hlocks hK hT hS hQ ((iv_mono (iv_c (c := (-1000000)) (n := (-1000000)) (by decide)) (by decide) (by decide))) dX12_chair_44
  · have q17 : ¬ x12.toInt = 0 := ti_ne c14
    have h18 : iv 1 1 x12 := ⟨by have := (h_x12).1; have := ((iv_c (c := 0) (n := 0) (by decide))).1; have := ((iv_c (c := 0) (n := 0) (by decide))).2; omega, by have := (h_x12).2; have := ((iv_c (c := 0) (n := 0) (by decide))).1; have := ((iv_c (c := 0) (n := 0) (by decide))).2; omega⟩
    have h19 : iv 0 9 a1 := ⟨by have := (p13 c14).1; have := (h_a1).1; omega, by have := (p13 c14).2; have := (h_a1).2; omega⟩
    refine lv_iload hx hb dX12_chair_16 (lv_at hl 0 rfl) ?_
    refine lv_i2l hx hb dX12_chair_18 rfl ?_
    refine lv_lconst (v := 1) hx hb dX12_chair_19 (by decide) ?_
    refine lv_ldc2 hx hb hown (hW _ w_8_120 rfl) dX12_chair_20 ?_
    refine tw_goi hS (md_runS (As := [.long x5.toInt64, .long 1, .long 6]) (rest := []) hx hb hml hown hW hK hT hS.1 (t_X12_in l D cy tx base Z K N Ma Ra J8 hS.2.1 (x5.toInt64) (1) (6)) s_X12_155 ⟨rfl, rfl, ⟨Nat.le_of_ble_eq_true rfl, Nat.le_of_ble_eq_true rfl⟩, ⟨Nat.le_of_ble_eq_true rfl, Nat.le_of_ble_eq_true rfl⟩⟩ rfl hl.1 rfl (Nat.le_of_ble_eq_true rfl) dX12_chair_23) rfl rfl (fun x26 H locs M23 R24 J22 hS f20 g21 E25 => ?_)
    have eM23 := Fr.nil f20 rfl
    subst eM23
    have eR24 := Fr.nil g21 rfl
    subst eR24
    obtain ⟨h_x26, p27⟩ := E25
    refine lv_if_eq (tgt := 41) hx hb dX12_chair_26 (by decide) (fun c28 => ?_) (fun c28 => ?_)
    · have q29 : x26.toInt = 0 := ti_eq c28
      have h30 : iv 0 0 x26 := ⟨by have := (h_x26).1; have := ((iv_c (c := 0) (n := 0) (by decide))).1; omega, by have := (h_x26).2; have := ((iv_c (c := 0) (n := 0) (by decide))).2; omega⟩
      refine lv_ldcw hx hb hown (hW _ w_8_46 rfl) dX12_chair_41 ?_
      exact tw_endi hx hb hr hlocks hK hT hS hQ ((iv_mono (iv_c (c := (-1000000)) (n := (-1000000)) (by decide)) (by decide) (by decide))) dX12_chair_44
    · have q31 : ¬ x26.toInt = 0 := ti_ne c28
      have h32 : iv 1 1 x26 := ⟨by have := (h_x26).1; have := ((iv_c (c := 0) (n := 0) (by decide))).1; have := ((iv_c (c := 0) (n := 0) (by decide))).2; omega, by have := (h_x26).2; have := ((iv_c (c := 0) (n := 0) (by decide))).1; have := ((iv_c (c := 0) (n := 0) (by decide))).2; omega⟩
      have h33 : iv 1 6 x5 := in2iv (p27 c28) ((jv_c (x := 1) (n := 1) (by decide))).1 ((jv_c (x := 6) (n := 6) (by decide))).2
      refine lv_iload_n hx hb dX12_chair_29 rfl (lv_at hl 4 rfl) ?_
      refine lv_i2l hx hb dX12_chair_30 rfl ?_
      refine lv_lconst (v := 0) hx hb dX12_chair_31 (by decide) ?_
      refine lv_iload hx hb dX12_chair_32 (lv_at hl 0 rfl) ?_
      refine lv_i2l hx hb dX12_chair_34 rfl ?_
      refine tw_goi hS (md_runS (As := [.long a3.toInt64, .long 0, .long x5.toInt64]) (rest := []) hx hb hml hown hW hK hT hS.1 (t_X12_in l D cy tx base Z K N Ma Ra J22 hS.2.1 (a3.toInt64) (0) (x5.toInt64)) s_X12_155 ⟨rfl, rfl, ⟨Nat.le_of_ble_eq_true rfl, Nat.le_of_ble_eq_true rfl⟩, ⟨Nat.le_of_ble_eq_true rfl, Nat.le_of_ble_eq_true rfl⟩⟩ rfl hl.1 rfl (Nat.le_of_ble_eq_true rfl) dX12_chair_35) rfl rfl (fun x40 H locs M37 R38 J36 hS f34 g35 E39 => ?_)
      have eM37 := Fr.nil f34 rfl
      subst eM37
      have eR38 := Fr.nil g35 rfl
      subst eR38
      obtain ⟨h_x40, p41⟩ := E39
      refine lv_if_ne (tgt := 45) hx hb dX12_chair_38 (by decide) (fun c42 => ?_) (fun c42 => ?_)
      · have q43 : ¬ x40.toInt = 0 := ti_ne c42
        have h44 : iv 1 1 x40 := ⟨by have := (h_x40).1; have := ((iv_c (c := 0) (n := 0) (by decide))).1; have := ((iv_c (c := 0) (n := 0) (by decide))).2; omega, by have := (h_x40).2; have := ((iv_c (c := 0) (n := 0) (by decide))).1; have := ((iv_c (c := 0) (n := 0) (by decide))).2; omega⟩
        have h45 : iv 0 6 a3 := in2iv (p41 c42) ((jv_c (x := 0) (n := 0) (by decide))).1 ((jv_o h33)).2
        have q46 := (p41 c42).2
        rw [Int32.toInt_toInt64, Int32.toInt_toInt64] at q46
        refine lv_iconst (v := 1) hx hb dX12_chair_45 (by decide) ?_
        refine lv_istore (lv' := [(5, .int 1), (4, .int x5), (0, .ref (base + a0)), (1, .int a1), (2, .int a2), (3, .int a3)]) hx hb dX12_chair_46 hl (by decide) rfl (fun ls hl => ?_)
        refine lv_iconst (v := 0) hx hb dX12_chair_48 (by decide) ?_
        refine lv_istore (lv' := [(6, .int 0), (5, .int 1), (4, .int x5), (0, .ref (base + a0)), (1, .int a1), (2, .int a2), (3, .int a3)]) hx hb dX12_chair_49 hl (by decide) rfl (fun ls hl => ?_)
        have W51_49 : ∀ (n_49 : Nat) (x47 : Int32) (x48 : Int32) (M49 : MT) (R50 : RT) (J51 : JT) (H : Heap) (locs : List Loc) (ls : Array Slot) (h_x47 : iv (-2147483648) 2147483647 x47) (h_x48 : iv 0 6 x48) (hm_49 : 6 - x48.toInt < (n_49 : Int)) (hS : SB D cy base Z K N Lt_X12_chair LRt_X12_chair Ma Ra M49 R50 J51 s H locs) (hl : lv_has ls 11 [(5, .int x47), (6, .int x48), (4, .int x5), (0, .ref (base + a0)), (1, .int a1), (2, .int a2), (3, .int a3)]), W p l e (md_rm 6 0 0) s m args below meth c H locs 0 0 Q (F0 m 51 ls []) := by
          intro n_49
          induction n_49 with
          | zero =>
            intro x47 x48 M49 R50 J51 H locs ls h_x47 h_x48 hm_49 hS hl
            exfalso
            have := (h19).1; have := (h19).2; have := (h_a2).1; have := (h_a2).2; have := (h45).1; have := (h45).2; have := (h_x48).1; have := (h_x48).2; omega
          | succ n_49 ih_49 =>
            intro x47 x48 M49 R50 J51 H locs ls h_x47 h_x48 hm_49 hS hl
            have f52 := hS.2.2.1
            have g53 := hS.2.2.2
            refine lv_iload hx hb dX12_chair_51 (lv_at hl 1 rfl) ?_
            refine lv_iload hx hb dX12_chair_53 (lv_at hl 2 rfl) ?_
            refine lv_icmp_ge (tgt := 71) hx hb dX12_chair_55 (by decide) (fun c54 => ?_) (fun c54 => ?_)
            · have q55 : x5.toInt ≤ x48.toInt := ti_le c54
              have h56 : iv 1 6 x48 := iv_geL (y := x5) h_x48 h33 q55 (by decide)
              refine lv_iconst (v := 0) hx hb dX12_chair_71 (by decide) ?_
              refine lv_istore (lv' := [(6, .int 0), (5, .int x47), (4, .int x5), (0, .ref (base + a0)), (1, .int a1), (2, .int a2), (3, .int a3)]) hx hb dX12_chair_72 hl (by decide) rfl (fun ls hl => ?_)
              refine lv_iconst (v := 0) hx hb dX12_chair_74 (by decide) ?_
              refine lv_istore (lv' := [(7, .int 0), (6, .int 0), (5, .int x47), (4, .int x5), (0, .ref (base + a0)), (1, .int a1), (2, .int a2), (3, .int a3)]) hx hb dX12_chair_75 hl (by decide) rfl (fun ls hl => ?_)
              refine lv_iconst (v := 0) hx hb dX12_chair_77 (by decide) ?_
              refine lv_istore (lv' := [(8, .int 0), (7, .int 0), (6, .int 0), (5, .int x47), (4, .int x5), (0, .ref (base + a0)), (1, .int a1), (2, .int a2), (3, .int a3)]) hx hb dX12_chair_78 hl (by decide) rfl (fun ls hl => ?_)
              have W80_60 : ∀ (n_60 : Nat) (x57 : Int32) (x58 : Int32) (x59 : Int32) (M60 : MT) (R61 : RT) (J62 : JT) (H : Heap) (locs : List Loc) (ls : Array Slot) (h_x57 : iv 0 1 x57) (h_x58 : iv (-2147483648) 2147483647 x58) (h_x59 : iv 0 2147483647 x59) (hm_60 : 2147483647 - x59.toInt < (n_60 : Int)) (hS : SB D cy base Z K N Lt_X12_chair LRt_X12_chair Ma Ra M60 R61 J62 s H locs) (hl : lv_has ls 11 [(6, .int x57), (7, .int x58), (8, .int x59), (5, .int x47), (4, .int x5), (0, .ref (base + a0)), (1, .int a1), (2, .int a2), (3, .int a3)]), W p l e (md_rm 6 0 0) s m args below meth c H locs 0 0 Q (F0 m 80 ls []) := by
                intro n_60
                induction n_60 with
                | zero =>
                  intro x57 x58 x59 M60 R61 J62 H locs ls h_x57 h_x58 h_x59 hm_60 hS hl
                  exfalso
                  have := (h19).1; have := (h19).2; have := (h_a2).1; have := (h_a2).2; have := (h45).1; have := (h45).2; have := (h_x59).1; have := (h_x59).2; omega
                | succ n_60 ih_60 =>
                  intro x57 x58 x59 M60 R61 J62 H locs ls h_x57 h_x58 h_x59 hm_60 hS hl
                  have f63 := hS.2.2.1
                  have g64 := hS.2.2.2
                  refine lv_iload hx hb dX12_chair_80 (lv_at hl 2 rfl) ?_
                  refine lv_iload hx hb dX12_chair_82 (lv_at hl 3 rfl) ?_
                  refine lv_icmp_ge (tgt := 260) hx hb dX12_chair_84 (by decide) (fun c65 => ?_) (fun c65 => ?_)
                  · have q66 : x47.toInt ≤ x59.toInt := ti_le c65
                    refine lv_iload_n hx hb dX12_chair_260 rfl (lv_at hl 8 rfl) ?_
                    refine lv_if_ne (tgt := 269) hx hb dX12_chair_261 (by decide) (fun c67 => ?_) (fun c67 => ?_)
                    · have q68 : ¬ a3.toInt = 0 := ti_ne c67
                      have h69 : iv 1 6 a3 := ⟨by have := (h45).1; have := ((iv_c (c := 0) (n := 0) (by decide))).1; have := ((iv_c (c := 0) (n := 0) (by decide))).2; omega, by have := (h45).2; have := ((iv_c (c := 0) (n := 0) (by decide))).1; have := ((iv_c (c := 0) (n := 0) (by decide))).2; omega⟩
                      refine lv_aload_n hx hb dX12_chair_269 rfl (lv_at hl 5 rfl) ?_
                      refine tw_getr hx hb hW hown hK hS f_X12_87_11 hz_a0 hk_a0 (t := 14) (n := 6) rfl dX12_chair_270 (fun b70 k71 hz_b70 hk_b70 hn_b70 => ?_)
                      have hn_b70 := hn_b70 (by decide)
                      refine lv_iload_n hx hb dX12_chair_273 rfl (lv_at hl 8 rfl) ?_
                      refine lv_iconst (v := 1) hx hb dX12_chair_274 (by decide) ?_
                      refine tw_isub (lo := 0) (hi := 5) hx hb h69 (iv_c (c := 1) (n := 1) (by decide)) ⟨by decide, by decide⟩ ⟨by decide, by decide⟩ dX12_chair_275 (fun x74 e73 h72 => ?_)
                      have e73 : x74.toInt = a3.toInt - 1 := e73
                      refine tw_iald hx hb hK hS hz_b70 hk_b70 (Or.inl rfl) hn_b70 (lo := (-2147483648)) (hi := 2147483647) h72 ⟨by decide, by decide⟩ rg_u14 dX12_chair_276 (fun x77 k76 h75 => ?_)
                      exact tw_endi hx hb hr hlocks hK hT hS hQ (h75) dX12_chair_277
                    · have q78 : a3.toInt = 0 := ti_eq c67
                      have h79 : iv 0 0 a3 := ⟨by have := (h45).1; have := ((iv_c (c := 0) (n := 0) (by decide))).1; omega, by have := (h45).2; have := ((iv_c (c := 0) (n := 0) (by decide))).2; omega⟩
                      refine lv_iload hx hb dX12_chair_264 (lv_at hl 1 rfl) ?_
                      refine lv_goto (tgt := 277) hx hb dX12_chair_266 (by decide) ?_
                      exact tw_endi hx hb hr hlocks hK hT hS hQ (h_x58) dX12_chair_277
                  · have q80 : x59.toInt < x47.toInt := ti_nle c65
                    have h81 : iv 0 2147483646 x59 := iv_ltL (y := x47) h_x59 h_x47 q80 (by decide)
                    have h82 : iv 1 2147483647 x47 := iv_gtL (y := x59) h_x47 h_x59 q80 (by decide)
                    refine lv_aload_n hx hb dX12_chair_87 rfl (lv_at hl 5 rfl) ?_
                    refine lv_iload hx hb dX12_chair_88 (lv_at hl 2 rfl) ?_
                    refine lv_iload hx hb dX12_chair_90 (lv_at hl 4 rfl) ?_
                    refine tw_goi hS (md_runV (As := [.int x59, .int x5]) (rest := []) hx hb hml hown hW hK hT hS.1 (t_X12_isRow l D cy tx base Z K N M60 R61 J62 hS.2.1 a0 hz_a0 hk_a0 x59 (iv_mono h81 (by decide) (by decide)) x5 h33) s_X12_472 ⟨rfl, rfl, ⟨Nat.le_of_ble_eq_true rfl, Nat.le_of_ble_eq_true rfl⟩, ⟨Nat.le_of_ble_eq_true rfl, Nat.le_of_ble_eq_true rfl⟩⟩ hz_a0 hk_a0 (by decide) rfl rfl hl.1 rfl (Nat.le_of_ble_eq_true rfl) dX12_chair_92) rfl rfl (fun x89 H locs M86 R87 J85 hS f83 g84 E88 => ?_)
                    have eR87 := Fr.nil g84 rfl
                    subst eR87
                    have h_x89 := E88
                    refine lv_if_ne (tgt := 101) hx hb dX12_chair_95 (by decide) (fun c90 => ?_) (fun c90 => ?_)
                    · have q91 : ¬ x89.toInt = 0 := ti_ne c90
                      have h92 : iv 1 1 x89 := ⟨by have := (h_x89).1; have := ((iv_c (c := 0) (n := 0) (by decide))).1; have := ((iv_c (c := 0) (n := 0) (by decide))).2; omega, by have := (h_x89).2; have := ((iv_c (c := 0) (n := 0) (by decide))).1; have := ((iv_c (c := 0) (n := 0) (by decide))).2; omega⟩
                      refine lv_aload_n hx hb dX12_chair_101 rfl (lv_at hl 5 rfl) ?_
                      have k93 : R61 a0 25 = some b1 := (Fr.kp (k := 25) g64 hk_a0 rfl).trans k2
                      have k94 : M86 b1 (4 : Int32).toNatClampNeg = x5 := ((Fr.kp (k := (4 : Int32).toNatClampNeg) f83 hk_b1 rfl).trans (Fr.kp (k := (4 : Int32).toNatClampNeg) f63 hk_b1 rfl)).trans k4
                      refine tw_gov hS (md_runV (As := []) (rest := []) hx hb hml hown hW hK hT hS.1 (t_X12_begins l D cy tx base Z K N M86 R61 J85 hS.2.1 a0 hz_a0 hk_a0 b1 k93 x5 k94 (iv_mono h33 (by decide) (by decide))) s_X12_393 ⟨rfl, rfl, ⟨Nat.le_of_ble_eq_true rfl, Nat.le_of_ble_eq_true rfl⟩, ⟨Nat.le_of_ble_eq_true rfl, Nat.le_of_ble_eq_true rfl⟩⟩ hz_a0 hk_a0 (by decide) rfl rfl hl.1 rfl (Nat.le_of_ble_eq_true rfl) dX12_chair_102) rfl rfl (fun H locs M98 R99 J97 hS f95 g96 E100 => ?_)
                      have eR99 := Fr.nil g96 rfl
                      subst eR99
                      have p101 := E100
                      have k102 : M98 a0 30 = x5 := p101
                      refine lv_iconst (v := 0) hx hb dX12_chair_105 (by decide) ?_
                      refine lv_istore (lv' := [(9, .int 0), (6, .int x57), (7, .int x58), (8, .int x59), (5, .int x47), (4, .int x5), (0, .ref (base + a0)), (1, .int a1), (2, .int a2), (3, .int a3)]) hx hb dX12_chair_106 hl (by decide) rfl (fun ls hl => ?_)
                      have W108_104 : ∀ (n_104 : Nat) (x103 : Int32) (x109 : Int32) (M104 : MT) (R105 : RT) (J106 : JT) (H : Heap) (locs : List Loc) (ls : Array Slot) (h_x103 : iv 0 6 x103) (h_x109 : iv 1 6 x109) (k110 : M104 a0 30 = x109) (hm_104 : 6 - x103.toInt < (n_104 : Int)) (hS : SB D cy base Z K N Lt_X12_chair LRt_X12_chair Ma Ra M104 R105 J106 s H locs) (hl : lv_has ls 11 [(9, .int x103), (6, .int x57), (7, .int x58), (8, .int x59), (5, .int x47), (4, .int x5), (0, .ref (base + a0)), (1, .int a1), (2, .int a2), (3, .int a3)]), W p l e (md_rm 6 0 0) s m args below meth c H locs 0 0 Q (F0 m 108 ls []) := by
                        intro n_104
                        induction n_104 with
                        | zero =>
                          intro x103 x109 M104 R105 J106 H locs ls h_x103 h_x109 k110 hm_104 hS hl
                          exfalso
                          have := (h19).1; have := (h19).2; have := (h_a2).1; have := (h_a2).2; have := (h45).1; have := (h45).2; have := (h_x103).1; have := (h_x103).2; omega
                        | succ n_104 ih_104 =>
                          intro x103 x109 M104 R105 J106 H locs ls h_x103 h_x109 k110 hm_104 hS hl
                          have f107 := hS.2.2.1
                          have g108 := hS.2.2.2
                          refine lv_iload hx hb dX12_chair_108 (lv_at hl 0 rfl) ?_
                          refine lv_iload hx hb dX12_chair_110 (lv_at hl 5 rfl) ?_
                          refine lv_icmp_ge (tgt := 144) hx hb dX12_chair_112 (by decide) (fun c111 => ?_) (fun c111 => ?_)
                          · have q112 : x5.toInt ≤ x103.toInt := ti_le c111
                            have h113 : iv 1 6 x103 := iv_geL (y := x5) h_x103 h33 q112 (by decide)
                            refine lv_aload_n hx hb dX12_chair_144 rfl (lv_at hl 6 rfl) ?_
                            refine lv_iconst (v := 0) hx hb dX12_chair_145 (by decide) ?_
                            refine tw_puti hx hb hW hown hK hS f_X12_410_11 hz_a0 hk_a0 rfl rfl (lo := (-2147483648)) (hi := 2147483647) rfl (iv_mono (iv_c (c := 0) (n := 0) (by decide)) (by decide) (by decide)) rfl dX12_chair_146 (fun H locs M116 hS k114 f115 => ?_)
                            refine lv_aload_n hx hb dX12_chair_149 rfl (lv_at hl 6 rfl) ?_
                            refine lv_iload_n hx hb dX12_chair_150 rfl (lv_at hl 7 rfl) ?_
                            refine tw_gov hS (md_runV (As := [.int a1]) (rest := []) hx hb hml hown hW hK hT hS.1 (t_X12_passes l D cy tx base Z K N M116 R105 J106 hS.2.1 a0 hz_a0 hk_a0 a1 h19 (Codes.fr co_a0 hTy hz_a0 hk_a0 hS.2.2.1 hS.2.2.2 rfl)) s_X12_417 ⟨rfl, rfl, ⟨Nat.le_of_ble_eq_true rfl, Nat.le_of_ble_eq_true rfl⟩, ⟨Nat.le_of_ble_eq_true rfl, Nat.le_of_ble_eq_true rfl⟩⟩ hz_a0 hk_a0 (by decide) rfl rfl hl.1 rfl (Nat.le_of_ble_eq_true rfl) dX12_chair_151) rfl rfl (fun H locs M120 R121 J119 hS f117 g118 E122 => ?_)
                            have eR121 := Fr.nil g118 rfl
                            subst eR121
                            refine lv_iload hx hb dX12_chair_154 (lv_at hl 1 rfl) ?_
                            have J200_123 : ∀  (M123 : MT) (R124 : RT) (J125 : JT) (H : Heap) (locs : List Loc) (ls : Array Slot) (hS : SB D cy base Z K N Lt_X12_chair LRt_X12_chair Ma Ra M123 R124 J125 s H locs) (hl : lv_has ls 11 [(9, .int x103), (6, .int x57), (7, .int x58), (8, .int x59), (5, .int x47), (4, .int x5), (0, .ref (base + a0)), (1, .int a1), (2, .int a2), (3, .int a3)]), W p l e (md_rm 6 0 0) s m args below meth c H locs 0 0 Q (F0 m 200 ls []) := by
                              intro  M123 R124 J125 H locs ls  hS hl
                              have f126 := hS.2.2.1
                              have g127 := hS.2.2.2
                              refine lv_iconst (v := 1) hx hb dX12_chair_200 (by decide) ?_
                              refine lv_goto (tgt := 205) hx hb dX12_chair_201 (by decide) ?_
                              refine lv_istore (lv' := [(9, .int 1), (6, .int x57), (7, .int x58), (8, .int x59), (5, .int x47), (4, .int x5), (0, .ref (base + a0)), (1, .int a1), (2, .int a2), (3, .int a3)]) hx hb dX12_chair_205 hl (by decide) rfl (fun ls hl => ?_)
                              refine lv_iload hx hb dX12_chair_207 (lv_at hl 0 rfl) ?_
                              refine lv_if_ne (tgt := 215) hx hb dX12_chair_209 (by decide) (fun _ => ?_) (fun h => absurd h (by decide))
                              refine lv_iconst (v := 1) hx hb dX12_chair_215 (by decide) ?_
                              refine lv_istore (lv' := [(6, .int 1), (9, .int 1), (7, .int x58), (8, .int x59), (5, .int x47), (4, .int x5), (0, .ref (base + a0)), (1, .int a1), (2, .int a2), (3, .int a3)]) hx hb dX12_chair_216 hl (by decide) rfl (fun ls hl => ?_)
                              refine lv_aload_n hx hb dX12_chair_218 rfl (lv_at hl 6 rfl) ?_
                              refine tw_geti hx hb hW hown hK hS f_X12_410_11 hz_a0 hk_a0 (lo := (-2147483648)) (hi := 2147483647) rfl dX12_chair_219 (fun x130 k129 h128 => ?_)
                              refine lv_istore (lv' := [(7, .int x130), (6, .int 1), (9, .int 1), (8, .int x59), (5, .int x47), (4, .int x5), (0, .ref (base + a0)), (1, .int a1), (2, .int a2), (3, .int a3)]) hx hb dX12_chair_222 hl (by decide) rfl (fun ls hl => ?_)
                              refine lv_iconst (v := 0) hx hb dX12_chair_224 (by decide) ?_
                              refine lv_istore (lv' := [(10, .int 0), (7, .int x130), (6, .int 1), (9, .int 1), (8, .int x59), (5, .int x47), (4, .int x5), (0, .ref (base + a0)), (1, .int a1), (2, .int a2), (3, .int a3)]) hx hb dX12_chair_225 hl (by decide) rfl (fun ls hl => ?_)
                              have W227_132 : ∀ (n_132 : Nat) (x131 : Int32) (M132 : MT) (R133 : RT) (J134 : JT) (H : Heap) (locs : List Loc) (ls : Array Slot) (h_x131 : iv 0 6 x131) (hm_132 : 6 - x131.toInt < (n_132 : Int)) (hS : SB D cy base Z K N Lt_X12_chair LRt_X12_chair Ma Ra M132 R133 J134 s H locs) (hl : lv_has ls 11 [(10, .int x131), (7, .int x130), (6, .int 1), (9, .int 1), (8, .int x59), (5, .int x47), (4, .int x5), (0, .ref (base + a0)), (1, .int a1), (2, .int a2), (3, .int a3)]), W p l e (md_rm 6 0 0) s m args below meth c H locs 0 0 Q (F0 m 227 ls []) := by
                                intro n_132
                                induction n_132 with
                                | zero =>
                                  intro x131 M132 R133 J134 H locs ls h_x131 hm_132 hS hl
                                  exfalso
                                  have := (h19).1; have := (h19).2; have := (h_a2).1; have := (h_a2).2; have := (h45).1; have := (h45).2; have := (h_x131).1; have := (h_x131).2; omega
                                | succ n_132 ih_132 =>
                                  intro x131 M132 R133 J134 H locs ls h_x131 hm_132 hS hl
                                  have f135 := hS.2.2.1
                                  have g136 := hS.2.2.2
                                  refine lv_iload hx hb dX12_chair_227 (lv_at hl 0 rfl) ?_
                                  refine lv_iload hx hb dX12_chair_229 (lv_at hl 6 rfl) ?_
                                  refine lv_icmp_ge (tgt := 254) hx hb dX12_chair_231 (by decide) (fun c137 => ?_) (fun c137 => ?_)
                                  · have q138 : x5.toInt ≤ x131.toInt := ti_le c137
                                    have h139 : iv 1 6 x131 := iv_geL (y := x5) h_x131 h33 q138 (by decide)
                                    refine tw_iinc (lv' := fun x142 => [(8, .int x142), (10, .int x131), (7, .int x130), (6, .int 1), (9, .int 1), (5, .int x47), (4, .int x5), (0, .ref (base + a0)), (1, .int a1), (2, .int a2), (3, .int a3)]) (lo := 1) (hi := 2147483647) hx hb dX12_chair_254 hl (k := 4) rfl h81 (by decide) ⟨by decide, by decide⟩ ⟨by decide, by decide⟩ (by decide) (fun _ => rfl) (fun x142 ls e141 h140 hl => ?_)
                                    refine lv_goto (tgt := 80) hx hb dX12_chair_257 (by decide) ?_
                                    have hm143 : 2147483647 - x142.toInt < (n_60 : Int) := by
                                      have := (h19).1; have := (h19).2; have := (h_a2).1; have := (h_a2).2; have := (h45).1; have := (h45).2; have := (h140).1; have := (h140).2; have := (h81).1; have := (h81).2; omega
                                    exact ih_60 1 x130 x142 M132 R133 J134 H locs _ (iv_mono (iv_c (c := 1) (n := 1) (by decide)) (by decide) (by decide)) h128 (iv_mono h140 (by decide) (by decide)) hm143 hS (lv_sub hl [3, 2, 0, 5, 6, 7, 8, 9, 10] rfl)
                                  · have q144 : x131.toInt < x5.toInt := ti_nle c137
                                    have h145 : iv 0 5 x131 := iv_ltL (y := x5) h_x131 h33 q144 (by decide)
                                    refine lv_aload_n hx hb dX12_chair_234 rfl (lv_at hl 7 rfl) ?_
                                    refine tw_getr hx hb hW hown hK hS f_X12_87_11 hz_a0 hk_a0 (t := 14) (n := 6) rfl dX12_chair_235 (fun b146 k147 hz_b146 hk_b146 hn_b146 => ?_)
                                    have hn_b146 := hn_b146 (by decide)
                                    refine lv_iload hx hb dX12_chair_238 (lv_at hl 0 rfl) ?_
                                    refine lv_aload_n hx hb dX12_chair_240 rfl (lv_at hl 7 rfl) ?_
                                    refine tw_getr hx hb hW hown hK hS f_X12_54_11 hz_a0 hk_a0 (t := 31) (n := 8) rfl dX12_chair_241 (fun b148 k149 hz_b148 hk_b148 hn_b148 => ?_)
                                    have hn_b148 := hn_b148 (by decide)
                                    refine lv_iload hx hb dX12_chair_244 (lv_at hl 0 rfl) ?_
                                    refine tw_iald hx hb hK hS hz_b148 hk_b148 (Or.inr (by decide)) hn_b148 (lo := 0) (hi := 11) h145 ⟨by decide, by decide⟩ rg_u31 dX12_chair_246 (fun x152 k151 h150 => ?_)
                                    refine tw_iast hx hb hK hS hz_b146 hk_b146 (Or.inl rfl) hn_b146 h145 ⟨by decide, by decide⟩ h150 (rg_s14 ⟨by decide, by decide⟩) (jl := 0) (jh := 1999999) ⟨by decide, by decide⟩ rfl dX12_chair_247 (fun H locs M155 hS k153 f154 => ?_)
                                    refine tw_iinc (lv' := fun x158 => [(10, .int x158), (7, .int x130), (6, .int 1), (9, .int 1), (8, .int x59), (5, .int x47), (4, .int x5), (0, .ref (base + a0)), (1, .int a1), (2, .int a2), (3, .int a3)]) (lo := 1) (hi := 6) hx hb dX12_chair_248 hl (k := 0) rfl h145 (by decide) ⟨by decide, by decide⟩ ⟨by decide, by decide⟩ (by decide) (fun _ => rfl) (fun x158 ls e157 h156 hl => ?_)
                                    refine lv_goto (tgt := 227) hx hb dX12_chair_251 (by decide) ?_
                                    have hm159 : 6 - x158.toInt < (n_132 : Int) := by
                                      have := (h19).1; have := (h19).2; have := (h_a2).1; have := (h_a2).2; have := (h45).1; have := (h45).2; have := (h145).1; have := (h145).2; have := (h156).1; have := (h156).2; omega
                                    exact ih_132 x158 M155 R133 J134 H locs _ (iv_mono h156 (by decide) (by decide)) hm159 hS hl
                              have hm160 : 6 - (0 : Int32).toInt < (((7 : Nat) : Int) : Int) := by
                                have := (h19).1; have := (h19).2; have := (h_a2).1; have := (h_a2).2; have := (h45).1; have := (h45).2; have : (0 : Int32).toInt = 0 := (by decide); omega
                              exact W227_132 7 0 M123 R124 J125 H locs _ (iv_mono (iv_c (c := 0) (n := 0) (by decide)) (by decide) (by decide)) hm160 hS hl
                            refine lv_if_eq (tgt := 200) hx hb dX12_chair_156 (by decide) (fun c161 => ?_) (fun c161 => ?_)
                            · have q162 : x57.toInt = 0 := ti_eq c161
                              have h163 : iv 0 0 x57 := ⟨by have := (h_x57).1; have := ((iv_c (c := 0) (n := 0) (by decide))).1; omega, by have := (h_x57).2; have := ((iv_c (c := 0) (n := 0) (by decide))).2; omega⟩
                              exact J200_123  M120 R105 J119 H locs _  hS hl
                            · have q164 : ¬ x57.toInt = 0 := ti_ne c161
                              have h165 : iv 1 1 x57 := ⟨by have := (h_x57).1; have := ((iv_c (c := 0) (n := 0) (by decide))).1; have := ((iv_c (c := 0) (n := 0) (by decide))).2; omega, by have := (h_x57).2; have := ((iv_c (c := 0) (n := 0) (by decide))).1; have := ((iv_c (c := 0) (n := 0) (by decide))).2; omega⟩
                              refine lv_iload_n hx hb dX12_chair_159 rfl (lv_at hl 8 rfl) ?_
                              refine lv_if_eq (tgt := 175) hx hb dX12_chair_160 (by decide) (fun c166 => ?_) (fun c166 => ?_)
                              · have q167 : a2.toInt = 0 := ti_eq c166
                                have h168 : iv 0 0 a2 := ⟨by have := (h_a2).1; have := ((iv_c (c := 0) (n := 0) (by decide))).1; omega, by have := (h_a2).2; have := ((iv_c (c := 0) (n := 0) (by decide))).2; omega⟩
                                refine lv_aload_n hx hb dX12_chair_175 rfl (lv_at hl 6 rfl) ?_
                                refine tw_geti hx hb hW hown hK hS f_X12_410_11 hz_a0 hk_a0 (lo := (-2147483648)) (hi := 2147483647) rfl dX12_chair_176 (fun x171 k170 h169 => ?_)
                                refine lv_iload hx hb dX12_chair_179 (lv_at hl 2 rfl) ?_
                                refine lv_icmp_lt (tgt := 200) hx hb dX12_chair_181 (by decide) (fun c172 => ?_) (fun c172 => ?_)
                                · have q173 : x171.toInt < x58.toInt := ti_lt c172
                                  have h174 : iv (-2147483648) 2147483646 x171 := iv_ltL (y := x58) h169 h_x58 q173 (by decide)
                                  have h175 : iv (-2147483647) 2147483647 x58 := iv_gtL (y := x171) h_x58 h169 q173 (by decide)
                                  exact J200_123  M120 R105 J119 H locs _  hS hl
                                · have q176 : x58.toInt ≤ x171.toInt := ti_nlt c172
                                  refine lv_aload_n hx hb dX12_chair_184 rfl (lv_at hl 6 rfl) ?_
                                  refine tw_getk hx hb hW hown hK hS f_X12_410_11 hz_a0 hk_a0 (v := x171) k170 dX12_chair_185 ?_
                                  refine lv_iload hx hb dX12_chair_188 (lv_at hl 2 rfl) ?_
                                  have J204_177 : ∀  (M177 : MT) (R178 : RT) (J179 : JT) (H : Heap) (locs : List Loc) (ls : Array Slot) (hS : SB D cy base Z K N Lt_X12_chair LRt_X12_chair Ma Ra M177 R178 J179 s H locs) (hl : lv_has ls 11 [(9, .int x103), (6, .int x57), (7, .int x58), (8, .int x59), (5, .int x47), (4, .int x5), (0, .ref (base + a0)), (1, .int a1), (2, .int a2), (3, .int a3)]), W p l e (md_rm 6 0 0) s m args below meth c H locs 0 0 Q (F0 m 204 ls []) := by
                                    intro  M177 R178 J179 H locs ls  hS hl
                                    have f180 := hS.2.2.1
                                    have g181 := hS.2.2.2
                                    refine lv_iconst (v := 0) hx hb dX12_chair_204 (by decide) ?_
                                    refine lv_istore (lv' := [(9, .int 0), (6, .int x57), (7, .int x58), (8, .int x59), (5, .int x47), (4, .int x5), (0, .ref (base + a0)), (1, .int a1), (2, .int a2), (3, .int a3)]) hx hb dX12_chair_205 hl (by decide) rfl (fun ls hl => ?_)
                                    refine lv_iload hx hb dX12_chair_207 (lv_at hl 0 rfl) ?_
                                    refine lv_if_ne (tgt := 215) hx hb dX12_chair_209 (by decide) (fun h => absurd h (by decide)) (fun _ => ?_)
                                    refine lv_goto (tgt := 254) hx hb dX12_chair_212 (by decide) ?_
                                    refine tw_iinc (lv' := fun x184 => [(8, .int x184), (9, .int 0), (6, .int x57), (7, .int x58), (5, .int x47), (4, .int x5), (0, .ref (base + a0)), (1, .int a1), (2, .int a2), (3, .int a3)]) (lo := 1) (hi := 2147483647) hx hb dX12_chair_254 hl (k := 3) rfl h81 (by decide) ⟨by decide, by decide⟩ ⟨by decide, by decide⟩ (by decide) (fun _ => rfl) (fun x184 ls e183 h182 hl => ?_)
                                    refine lv_goto (tgt := 80) hx hb dX12_chair_257 (by decide) ?_
                                    have hm185 : 2147483647 - x184.toInt < (n_60 : Int) := by
                                      have := (h19).1; have := (h19).2; have := (h168).1; have := (h168).2; have := (h45).1; have := (h45).2; have := (h182).1; have := (h182).2; have := (h81).1; have := (h81).2; omega
                                    exact ih_60 x57 x58 x184 M177 R178 J179 H locs _ (iv_mono h165 (by decide) (by decide)) h_x58 (iv_mono h182 (by decide) (by decide)) hm185 hS (lv_sub hl [2, 3, 0, 4, 5, 6, 7, 8, 9] rfl)
                                  refine lv_icmp_ne (tgt := 204) hx hb dX12_chair_190 (by decide) (fun c186 => ?_) (fun c186 => ?_)
                                  · have q187 : ¬ x171.toInt = x58.toInt := ti_ne c186
                                    exact J204_177  M120 R105 J119 H locs _  hS hl
                                  · have q188 : x171.toInt = x58.toInt := ti_eq c186
                                    refine lv_aload_n hx hb dX12_chair_193 rfl (lv_at hl 6 rfl) ?_
                                    have k189 : M120 a0 30 = x109 := ((Fr.kp (k := 30) f117 hk_a0 rfl).trans (Fr.kp (k := 30) f115 hk_a0 rfl)).trans k110
                                    refine tw_goi hS (md_runV (As := []) (rest := []) hx hb hml hown hW hK hT hS.1 (t_X12_isAhead l D cy tx base Z K N M120 R105 J119 hS.2.1 a0 hz_a0 hk_a0 x109 k189 (iv_mono h_x109 (by decide) (by decide))) s_X12_475 ⟨rfl, rfl, ⟨Nat.le_of_ble_eq_true rfl, Nat.le_of_ble_eq_true rfl⟩, ⟨Nat.le_of_ble_eq_true rfl, Nat.le_of_ble_eq_true rfl⟩⟩ hz_a0 hk_a0 (by decide) rfl rfl hl.1 rfl (Nat.le_of_ble_eq_true rfl) dX12_chair_194) rfl rfl (fun x196 H locs M193 R194 J192 hS f190 g191 E195 => ?_)
                                    have eM193 := Fr.nil f190 rfl
                                    subst eM193
                                    have eR194 := Fr.nil g191 rfl
                                    subst eR194
                                    have h_x196 := E195
                                    refine lv_if_eq (tgt := 204) hx hb dX12_chair_197 (by decide) (fun c197 => ?_) (fun c197 => ?_)
                                    · have q198 : x196.toInt = 0 := ti_eq c197
                                      have h199 : iv 0 0 x196 := ⟨by have := (h_x196).1; have := ((iv_c (c := 0) (n := 0) (by decide))).1; omega, by have := (h_x196).2; have := ((iv_c (c := 0) (n := 0) (by decide))).2; omega⟩
                                      exact J204_177  M120 R105 J192 H locs _  hS hl
                                    · have q200 : ¬ x196.toInt = 0 := ti_ne c197
                                      have h201 : iv 1 1 x196 := ⟨by have := (h_x196).1; have := ((iv_c (c := 0) (n := 0) (by decide))).1; have := ((iv_c (c := 0) (n := 0) (by decide))).2; omega, by have := (h_x196).2; have := ((iv_c (c := 0) (n := 0) (by decide))).1; have := ((iv_c (c := 0) (n := 0) (by decide))).2; omega⟩
                                      exact J200_123  M120 R105 J192 H locs _  hS hl
                              · have q202 : ¬ a2.toInt = 0 := ti_ne c166
                                refine lv_aload_n hx hb dX12_chair_163 rfl (lv_at hl 6 rfl) ?_
                                refine tw_geti hx hb hW hown hK hS f_X12_410_11 hz_a0 hk_a0 (lo := (-2147483648)) (hi := 2147483647) rfl dX12_chair_164 (fun x205 k204 h203 => ?_)
                                refine lv_iload hx hb dX12_chair_167 (lv_at hl 2 rfl) ?_
                                refine lv_icmp_le (tgt := 184) hx hb dX12_chair_169 (by decide) (fun c206 => ?_) (fun c206 => ?_)
                                · have q207 : x205.toInt ≤ x58.toInt := ti_le c206
                                  refine lv_aload_n hx hb dX12_chair_184 rfl (lv_at hl 6 rfl) ?_
                                  refine tw_getk hx hb hW hown hK hS f_X12_410_11 hz_a0 hk_a0 (v := x205) k204 dX12_chair_185 ?_
                                  refine lv_iload hx hb dX12_chair_188 (lv_at hl 2 rfl) ?_
                                  have J204_208 : ∀  (M208 : MT) (R209 : RT) (J210 : JT) (H : Heap) (locs : List Loc) (ls : Array Slot) (hS : SB D cy base Z K N Lt_X12_chair LRt_X12_chair Ma Ra M208 R209 J210 s H locs) (hl : lv_has ls 11 [(9, .int x103), (6, .int x57), (7, .int x58), (8, .int x59), (5, .int x47), (4, .int x5), (0, .ref (base + a0)), (1, .int a1), (2, .int a2), (3, .int a3)]), W p l e (md_rm 6 0 0) s m args below meth c H locs 0 0 Q (F0 m 204 ls []) := by
                                    intro  M208 R209 J210 H locs ls  hS hl
                                    have f211 := hS.2.2.1
                                    have g212 := hS.2.2.2
                                    refine lv_iconst (v := 0) hx hb dX12_chair_204 (by decide) ?_
                                    refine lv_istore (lv' := [(9, .int 0), (6, .int x57), (7, .int x58), (8, .int x59), (5, .int x47), (4, .int x5), (0, .ref (base + a0)), (1, .int a1), (2, .int a2), (3, .int a3)]) hx hb dX12_chair_205 hl (by decide) rfl (fun ls hl => ?_)
                                    refine lv_iload hx hb dX12_chair_207 (lv_at hl 0 rfl) ?_
                                    refine lv_if_ne (tgt := 215) hx hb dX12_chair_209 (by decide) (fun h => absurd h (by decide)) (fun _ => ?_)
                                    refine lv_goto (tgt := 254) hx hb dX12_chair_212 (by decide) ?_
                                    refine tw_iinc (lv' := fun x215 => [(8, .int x215), (9, .int 0), (6, .int x57), (7, .int x58), (5, .int x47), (4, .int x5), (0, .ref (base + a0)), (1, .int a1), (2, .int a2), (3, .int a3)]) (lo := 1) (hi := 2147483647) hx hb dX12_chair_254 hl (k := 3) rfl h81 (by decide) ⟨by decide, by decide⟩ ⟨by decide, by decide⟩ (by decide) (fun _ => rfl) (fun x215 ls e214 h213 hl => ?_)
                                    refine lv_goto (tgt := 80) hx hb dX12_chair_257 (by decide) ?_
                                    have hm216 : 2147483647 - x215.toInt < (n_60 : Int) := by
                                      have := (h19).1; have := (h19).2; have := (h_a2).1; have := (h_a2).2; have := (h45).1; have := (h45).2; have := (h213).1; have := (h213).2; have := (h81).1; have := (h81).2; omega
                                    exact ih_60 x57 x58 x215 M208 R209 J210 H locs _ (iv_mono h165 (by decide) (by decide)) h_x58 (iv_mono h213 (by decide) (by decide)) hm216 hS (lv_sub hl [2, 3, 0, 4, 5, 6, 7, 8, 9] rfl)
                                  refine lv_icmp_ne (tgt := 204) hx hb dX12_chair_190 (by decide) (fun c217 => ?_) (fun c217 => ?_)
                                  · have q218 : ¬ x205.toInt = x58.toInt := ti_ne c217
                                    exact J204_208  M120 R105 J119 H locs _  hS hl
                                  · have q219 : x205.toInt = x58.toInt := ti_eq c217
                                    refine lv_aload_n hx hb dX12_chair_193 rfl (lv_at hl 6 rfl) ?_
                                    have k220 : M120 a0 30 = x109 := ((Fr.kp (k := 30) f117 hk_a0 rfl).trans (Fr.kp (k := 30) f115 hk_a0 rfl)).trans k110
                                    refine tw_goi hS (md_runV (As := []) (rest := []) hx hb hml hown hW hK hT hS.1 (t_X12_isAhead l D cy tx base Z K N M120 R105 J119 hS.2.1 a0 hz_a0 hk_a0 x109 k220 (iv_mono h_x109 (by decide) (by decide))) s_X12_475 ⟨rfl, rfl, ⟨Nat.le_of_ble_eq_true rfl, Nat.le_of_ble_eq_true rfl⟩, ⟨Nat.le_of_ble_eq_true rfl, Nat.le_of_ble_eq_true rfl⟩⟩ hz_a0 hk_a0 (by decide) rfl rfl hl.1 rfl (Nat.le_of_ble_eq_true rfl) dX12_chair_194) rfl rfl (fun x227 H locs M224 R225 J223 hS f221 g222 E226 => ?_)
                                    have eM224 := Fr.nil f221 rfl
                                    subst eM224
                                    have eR225 := Fr.nil g222 rfl
                                    subst eR225
                                    have h_x227 := E226
                                    refine lv_if_eq (tgt := 204) hx hb dX12_chair_197 (by decide) (fun c228 => ?_) (fun c228 => ?_)
                                    · have q229 : x227.toInt = 0 := ti_eq c228
                                      have h230 : iv 0 0 x227 := ⟨by have := (h_x227).1; have := ((iv_c (c := 0) (n := 0) (by decide))).1; omega, by have := (h_x227).2; have := ((iv_c (c := 0) (n := 0) (by decide))).2; omega⟩
                                      exact J204_208  M120 R105 J223 H locs _  hS hl
                                    · have q231 : ¬ x227.toInt = 0 := ti_ne c228
                                      have h232 : iv 1 1 x227 := ⟨by have := (h_x227).1; have := ((iv_c (c := 0) (n := 0) (by decide))).1; have := ((iv_c (c := 0) (n := 0) (by decide))).2; omega, by have := (h_x227).2; have := ((iv_c (c := 0) (n := 0) (by decide))).1; have := ((iv_c (c := 0) (n := 0) (by decide))).2; omega⟩
                                      exact J200_123  M120 R105 J223 H locs _  hS hl
                                · have q233 : x58.toInt < x205.toInt := ti_nle c206
                                  have h234 : iv (-2147483647) 2147483647 x205 := iv_gtL (y := x58) h203 h_x58 q233 (by decide)
                                  have h235 : iv (-2147483648) 2147483646 x58 := iv_ltL (y := x205) h_x58 h203 q233 (by decide)
                                  refine lv_goto (tgt := 200) hx hb dX12_chair_172 (by decide) ?_
                                  exact J200_123  M120 R105 J119 H locs _  hS hl
                          · have q236 : x103.toInt < x5.toInt := ti_nle c111
                            have h237 : iv 0 5 x103 := iv_ltL (y := x5) h_x103 h33 q236 (by decide)
                            refine lv_aload_n hx hb dX12_chair_115 rfl (lv_at hl 6 rfl) ?_
                            refine tw_getr hx hb hW hown hK hS f_X12_54_11 hz_a0 hk_a0 (t := 31) (n := 8) rfl dX12_chair_116 (fun b238 k239 hz_b238 hk_b238 hn_b238 => ?_)
                            have hn_b238 := hn_b238 (by decide)
                            refine lv_iload hx hb dX12_chair_119 (lv_at hl 0 rfl) ?_
                            refine lv_aload_n hx hb dX12_chair_121 rfl (lv_at hl 6 rfl) ?_
                            have k240 : R105 a0 25 = some b1 := (Fr.kp (k := 25) g108 hk_a0 rfl).trans k2
                            refine tw_getrk hx hb hW hown hK hS f_X12_45_11 hz_a0 hk_a0 (b := b1) k240 dX12_chair_122 ?_
                            refine lv_sipush (v := 170) hx hb dX12_chair_125 (by decide) ?_
                            refine lv_aload_n hx hb dX12_chair_128 rfl (lv_at hl 6 rfl) ?_
                            refine tw_getr hx hb hW hown hK hS f_X12_90_11 hz_a0 hk_a0 (t := 33) (n := 6) rfl dX12_chair_129 (fun b241 k242 hz_b241 hk_b241 hn_b241 => ?_)
                            have hn_b241 := hn_b241 (by decide)
                            refine lv_iload hx hb dX12_chair_132 (lv_at hl 0 rfl) ?_
                            refine tw_iald hx hb hK hS hz_b241 hk_b241 (Or.inr (by decide)) hn_b241 (lo := 0) (hi := 5) h237 ⟨by decide, by decide⟩ rg_u33 dX12_chair_134 (fun x245 k244 h243 => ?_)
                            refine tw_iadd (lo := 170) (hi := 175) hx hb (iv_c (c := 170) (n := 170) (by decide)) h243 ⟨by decide, by decide⟩ ⟨by decide, by decide⟩ dX12_chair_135 (fun x248 e247 h246 => ?_)
                            have e247 : x248.toInt = 170 + x245.toInt := e247
                            refine tw_iald hx hb hK hS hz_b1 hk_b1 (Or.inr (by decide)) hn_b1 (lo := 0) (hi := 11) h246 ⟨by decide, by decide⟩ (rg_so ⟨by decide, by decide⟩) dX12_chair_136 (fun x251 k250 h249 => ?_)
                            refine tw_iast hx hb hK hS hz_b238 hk_b238 (Or.inr (by decide)) hn_b238 h237 ⟨by decide, by decide⟩ h249 (rg_s31 ⟨by decide, by decide⟩) (jl := 0) (jh := 1999999) ⟨by decide, by decide⟩ rfl dX12_chair_137 (fun H locs M254 hS k252 f253 => ?_)
                            refine tw_iinc (lv' := fun x257 => [(9, .int x257), (6, .int x57), (7, .int x58), (8, .int x59), (5, .int x47), (4, .int x5), (0, .ref (base + a0)), (1, .int a1), (2, .int a2), (3, .int a3)]) (lo := 1) (hi := 6) hx hb dX12_chair_138 hl (k := 0) rfl h237 (by decide) ⟨by decide, by decide⟩ ⟨by decide, by decide⟩ (by decide) (fun _ => rfl) (fun x257 ls e256 h255 hl => ?_)
                            refine lv_goto (tgt := 108) hx hb dX12_chair_141 (by decide) ?_
                            have k258 : M254 a0 30 = x109 := (Fr.kp (k := 30) f253 hk_a0 rfl).trans k110
                            have hm259 : 6 - x257.toInt < (n_104 : Int) := by
                              have := (h19).1; have := (h19).2; have := (h_a2).1; have := (h_a2).2; have := (h45).1; have := (h45).2; have := (h237).1; have := (h237).2; have := (h255).1; have := (h255).2; omega
                            exact ih_104 x257 x109 M254 R105 J106 H locs _ (iv_mono h255 (by decide) (by decide)) h_x109 k258 hm259 hS hl
                      have hm260 : 6 - (0 : Int32).toInt < (((7 : Nat) : Int) : Int) := by
                        have := (h19).1; have := (h19).2; have := (h_a2).1; have := (h_a2).2; have := (h45).1; have := (h45).2; have : (0 : Int32).toInt = 0 := (by decide); omega
                      exact W108_104 7 0 x5 M98 R61 J97 H locs _ (iv_mono (iv_c (c := 0) (n := 0) (by decide)) (by decide) (by decide)) h33 k102 hm260 hS hl
                    · have q261 : x89.toInt = 0 := ti_eq c90
                      have h262 : iv 0 0 x89 := ⟨by have := (h_x89).1; have := ((iv_c (c := 0) (n := 0) (by decide))).1; omega, by have := (h_x89).2; have := ((iv_c (c := 0) (n := 0) (by decide))).2; omega⟩
                      refine lv_goto (tgt := 254) hx hb dX12_chair_98 (by decide) ?_
                      refine tw_iinc (lv' := fun x265 => [(8, .int x265), (6, .int x57), (7, .int x58), (5, .int x47), (4, .int x5), (0, .ref (base + a0)), (1, .int a1), (2, .int a2), (3, .int a3)]) (lo := 1) (hi := 2147483647) hx hb dX12_chair_254 hl (k := 2) rfl h81 (by decide) ⟨by decide, by decide⟩ ⟨by decide, by decide⟩ (by decide) (fun _ => rfl) (fun x265 ls e264 h263 hl => ?_)
                      refine lv_goto (tgt := 80) hx hb dX12_chair_257 (by decide) ?_
                      have hm266 : 2147483647 - x265.toInt < (n_60 : Int) := by
                        have := (h19).1; have := (h19).2; have := (h_a2).1; have := (h_a2).2; have := (h45).1; have := (h45).2; have := (h263).1; have := (h263).2; have := (h81).1; have := (h81).2; omega
                      exact ih_60 x57 x58 x265 M86 R61 J85 H locs _ h_x57 h_x58 (iv_mono h263 (by decide) (by decide)) hm266 hS (lv_sub hl [1, 2, 0, 3, 4, 5, 6, 7, 8] rfl)
              have hm267 : 2147483647 - (0 : Int32).toInt < (((2147483648 : Nat) : Int) : Int) := by
                have := (h19).1; have := (h19).2; have := (h_a2).1; have := (h_a2).2; have := (h45).1; have := (h45).2; have : (0 : Int32).toInt = 0 := (by decide); omega
              exact W80_60 2147483648 0 0 0 M49 R50 J51 H locs _ (iv_mono (iv_c (c := 0) (n := 0) (by decide)) (by decide) (by decide)) (iv_mono (iv_c (c := 0) (n := 0) (by decide)) (by decide) (by decide)) (iv_mono (iv_c (c := 0) (n := 0) (by decide)) (by decide) (by decide)) hm267 hS (lv_sub hl [2, 1, 0, 3, 4, 5, 6, 7, 8] rfl)
            · have q268 : x48.toInt < x5.toInt := ti_nle c54
              have h269 : iv 0 5 x48 := iv_ltL (y := x5) h_x48 h33 q268 (by decide)
              refine lv_iload hx hb dX12_chair_58 (lv_at hl 0 rfl) ?_
              refine lv_iload hx hb dX12_chair_60 (lv_at hl 2 rfl) ?_
              refine lv_imul hx hb dX12_chair_62 ?_
              refine tw_top (fun x271 => ?_)
              have h270 := iv_any x271
              refine lv_istore (lv' := [(5, .int x271), (6, .int x48), (4, .int x5), (0, .ref (base + a0)), (1, .int a1), (2, .int a2), (3, .int a3)]) hx hb dX12_chair_63 hl (by decide) rfl (fun ls hl => ?_)
              refine tw_iinc (lv' := fun x274 => [(6, .int x274), (5, .int x271), (4, .int x5), (0, .ref (base + a0)), (1, .int a1), (2, .int a2), (3, .int a3)]) (lo := 1) (hi := 6) hx hb dX12_chair_65 hl (k := 1) rfl h269 (by decide) ⟨by decide, by decide⟩ ⟨by decide, by decide⟩ (by decide) (fun _ => rfl) (fun x274 ls e273 h272 hl => ?_)
              refine lv_goto (tgt := 51) hx hb dX12_chair_68 (by decide) ?_
              have hm275 : 6 - x274.toInt < (n_49 : Int) := by
                have := (h19).1; have := (h19).2; have := (h_a2).1; have := (h_a2).2; have := (h45).1; have := (h45).2; have := (h272).1; have := (h272).2; have := (h269).1; have := (h269).2; omega
              exact ih_49 x271 x274 M49 R50 J51 H locs _ h270 (iv_mono h272 (by decide) (by decide)) hm275 hS (lv_sub hl [1, 0, 2, 3, 4, 5, 6] rfl)
        have hm276 : 6 - (0 : Int32).toInt < (((7 : Nat) : Int) : Int) := by
          have := (h19).1; have := (h19).2; have := (h_a2).1; have := (h_a2).2; have := (h45).1; have := (h45).2; have : (0 : Int32).toInt = 0 := (by decide); omega
        exact W51_49 7 1 0 Ma Ra J36 H locs _ (iv_mono (iv_c (c := 1) (n := 1) (by decide)) (by decide) (by decide)) (iv_mono (iv_c (c := 0) (n := 0) (by decide)) (by decide) (by decide)) hm276 hS (lv_sub hl [1, 0, 2, 3, 4, 5, 6] rfl)
      · have q277 : x40.toInt = 0 := ti_eq c42
        have h278 : iv 0 0 x40 := ⟨by have := (h_x40).1; have := ((iv_c (c := 0) (n := 0) (by decide))).1; omega, by have := (h_x40).2; have := ((iv_c (c := 0) (n := 0) (by decide))).2; omega⟩
        refine lv_ldcw hx hb hown (hW _ w_8_46 rfl) dX12_chair_41 ?_
        exact tw_endi hx hb hr hlocks hK hT hS hQ ((iv_mono (iv_c (c := (-1000000)) (n := (-1000000)) (by decide)) (by decide) (by decide))) dX12_chair_44
def Lt_X12_isDigitHere : WL := []
def LRt_X12_isDigitHere : WL := []
set_option maxRecDepth 100000 in
set_option maxHeartbeats 4000000 in
theorem t_X12_isDigitHere (l : Launch) (D : va_G) (cy : Nat → ClassId) (tx : (Nat → Nat) × (Nat → Nat)) (base Z : Nat) (K N : Nat → Nat) (Ma : MT) (Ra : RT) (Ja : JT) (hTy : Ty Z K N Ma Ra) (a0 : Nat) (hz_a0 : a0 < Z) (hk_a0 : K a0 = 12) : Met l yX12_isDigitHere [Cond.code yX12_isDigitHere cX12_isDigitHere 1 (some .boolean)] (md_rm 1 0 0) (va_Pc [.ref (base + a0)] (md_U D cy tx base Z K N Ma Ra Ja)) (mQi D cy tx base (fun r u => TP Z K N Lt_X12_isDigitHere LRt_X12_isDigitHere Ma Ra u ∧ (iv 0 1 r))) 0 0 (fun q => base ≤ q) := by
  refine tw_ofW (L := Lt_X12_isDigitHere) (LR := LRt_X12_isDigitHere) (by decide) (Nat.le_of_ble_eq_true rfl) hTy ?_
  intro p e s m args below meth c Q ls hx hb hr hlocks hown hml hW hK hT hS hQ hl
  have hl : lv_has ls 1 [(0, .ref (base + a0))] := hl
  refine lv_aload_n hx hb dX12_isDigitHere_0 rfl (lv_at hl 0 rfl) ?_
  refine tw_geti hx hb hW hown hK hS f_X12_127_11 hz_a0 hk_a0 (lo := 0) (hi := 400) rfl dX12_isDigitHere_1 (fun x3 k2 h1 => ?_)
  refine lv_aload_n hx hb dX12_isDigitHere_4 rfl (lv_at hl 0 rfl) ?_
  refine tw_geti hx hb hW hown hK hS f_X12_116_11 hz_a0 hk_a0 (lo := 0) (hi := 400) rfl dX12_isDigitHere_5 (fun x6 k5 h4 => ?_)
  refine lv_icmp_ge (tgt := 43) hx hb dX12_isDigitHere_8 (by decide) (fun c7 => ?_) (fun c7 => ?_)
  · have q8 : x6.toInt ≤ x3.toInt := ti_le c7
    refine lv_iconst (v := 0) hx hb dX12_isDigitHere_43 (by decide) ?_
    exact tw_endz hx hb hr hlocks hK hT hS hQ rfl ((iv_mono (iv_c (c := 0) (n := 0) (by decide)) (by decide) (by decide))) dX12_isDigitHere_44
  · have q9 : x3.toInt < x6.toInt := ti_nle c7
    have h10 : iv 0 399 x3 := iv_ltL (y := x6) h1 h4 q9 (by decide)
    have h11 : iv 1 400 x6 := iv_gtL (y := x3) h4 h1 q9 (by decide)
    refine lv_aload_n hx hb dX12_isDigitHere_11 rfl (lv_at hl 0 rfl) ?_
    refine tw_getr hx hb hW hown hK hS f_X12_7_11 hz_a0 hk_a0 (t := 13) (n := 400) rfl dX12_isDigitHere_12 (fun b12 k13 hz_b12 hk_b12 hn_b12 => ?_)
    have hn_b12 := hn_b12 (by decide)
    refine lv_aload_n hx hb dX12_isDigitHere_15 rfl (lv_at hl 0 rfl) ?_
    refine tw_getk hx hb hW hown hK hS f_X12_127_11 hz_a0 hk_a0 (v := x3) k2 dX12_isDigitHere_16 ?_
    refine tw_bald hx hb hK hS hz_b12 hk_b12 hn_b12 h10 ⟨by decide, by decide⟩ dX12_isDigitHere_19 (fun x16 k15 => ?_)
    have h14 := iv_any x16
    refine lv_bipush (v := 48) hx hb dX12_isDigitHere_20 (by decide) ?_
    refine lv_icmp_lt (tgt := 43) hx hb dX12_isDigitHere_22 (by decide) (fun c17 => ?_) (fun c17 => ?_)
    · have q18 : x16.toInt < 48 := ti_lt c17
      have h19 : iv (-2147483648) 47 x16 := iv_ltL (y := 48) h14 (iv_c (c := 48) (n := 48) (by decide)) q18 (by decide)
      refine lv_iconst (v := 0) hx hb dX12_isDigitHere_43 (by decide) ?_
      exact tw_endz hx hb hr hlocks hK hT hS hQ rfl ((iv_mono (iv_c (c := 0) (n := 0) (by decide)) (by decide) (by decide))) dX12_isDigitHere_44
    · have q20 : 48 ≤ x16.toInt := ti_nlt c17
      have h21 : iv 48 2147483647 x16 := iv_geL (y := 48) h14 (iv_c (c := 48) (n := 48) (by decide)) q20 (by decide)
      refine lv_aload_n hx hb dX12_isDigitHere_25 rfl (lv_at hl 0 rfl) ?_
      refine tw_getrk hx hb hW hown hK hS f_X12_7_11 hz_a0 hk_a0 (b := b12) k13 dX12_isDigitHere_26 ?_
      refine lv_aload_n hx hb dX12_isDigitHere_29 rfl (lv_at hl 0 rfl) ?_
      refine tw_getk hx hb hW hown hK hS f_X12_127_11 hz_a0 hk_a0 (v := x3) k2 dX12_isDigitHere_30 ?_
      refine tw_balk hx hb hK hS hz_b12 hk_b12 hn_b12 h10 ⟨by decide, by decide⟩ (v := x16) k15 dX12_isDigitHere_33 ?_
      refine lv_bipush (v := 57) hx hb dX12_isDigitHere_34 (by decide) ?_
      refine lv_icmp_gt (tgt := 43) hx hb dX12_isDigitHere_36 (by decide) (fun c22 => ?_) (fun c22 => ?_)
      · have q23 : 57 < x16.toInt := ti_lt c22
        have h24 : iv 58 2147483647 x16 := iv_gtL (y := 57) h21 (iv_c (c := 57) (n := 57) (by decide)) q23 (by decide)
        refine lv_iconst (v := 0) hx hb dX12_isDigitHere_43 (by decide) ?_
        exact tw_endz hx hb hr hlocks hK hT hS hQ rfl ((iv_mono (iv_c (c := 0) (n := 0) (by decide)) (by decide) (by decide))) dX12_isDigitHere_44
      · have q25 : x16.toInt ≤ 57 := ti_nlt c22
        have h26 : iv 48 57 x16 := iv_leL (y := 57) h21 (iv_c (c := 57) (n := 57) (by decide)) q25 (by decide)
        refine lv_iconst (v := 1) hx hb dX12_isDigitHere_39 (by decide) ?_
        refine lv_goto (tgt := 44) hx hb dX12_isDigitHere_40 (by decide) ?_
        exact tw_endz hx hb hr hlocks hK hT hS hQ rfl ((iv_mono (iv_c (c := 1) (n := 1) (by decide)) (by decide) (by decide))) dX12_isDigitHere_44
def Lt_X12_comesTo : WL := [(12, 23, 24), (12, 28, 29), (12, 31, 33), (14, 0, 2000000), (36, 0, 2000000), (41, 0, 2000000)]
def LRt_X12_comesTo : WL := []
set_option maxRecDepth 100000 in
set_option maxHeartbeats 4000000 in
theorem t_X12_comesTo (l : Launch) (D : va_G) (cy : Nat → ClassId) (tx : (Nat → Nat) × (Nat → Nat)) (base Z : Nat) (K N : Nat → Nat) (Ma : MT) (Ra : RT) (Ja : JT) (hTy : Ty Z K N Ma Ra) (a0 : Nat) (hz_a0 : a0 < Z) (hk_a0 : K a0 = 12) (a1 : Int32) (h_a1 : iv 0 0 a1) (co_a0 : Codes Ma Ra a0) : Met l yX12_comesTo [Cond.code yX12_comesTo cX12_comesTo 3 none] (md_rm 5 0 0) (va_Pc [.ref (base + a0), .int a1] (md_U D cy tx base Z K N Ma Ra Ja)) (mQv D cy tx base (fun u => TP Z K N Lt_X12_comesTo LRt_X12_comesTo Ma Ra u ∧ (True))) 0 0 (fun q => base ≤ q) := by
  refine tw_ofW (L := Lt_X12_comesTo) (LR := LRt_X12_comesTo) (by decide) (Nat.le_of_ble_eq_true rfl) hTy ?_
  intro p e s m args below meth c Q ls hx hb hr hlocks hown hml hW hK hT hS hQ hl
  have hl : lv_has ls 3 [(0, .ref (base + a0)), (1, .int a1)] := hl
  refine lv_iconst (v := 0) hx hb dX12_comesTo_0 (by decide) ?_
  refine lv_istore_n (lv' := [(2, .int 0), (0, .ref (base + a0)), (1, .int a1)]) hx hb dX12_comesTo_1 rfl hl (by decide) rfl (fun ls hl => ?_)
  have W2_2 : ∀ (n_2 : Nat) (x1 : Int32) (M2 : MT) (R3 : RT) (J4 : JT) (H : Heap) (locs : List Loc) (ls : Array Slot) (h_x1 : iv 0 10 x1) (hm_2 : 10 - x1.toInt < (n_2 : Int)) (hS : SB D cy base Z K N Lt_X12_comesTo LRt_X12_comesTo Ma Ra M2 R3 J4 s H locs) (hl : lv_has ls 3 [(2, .int x1), (0, .ref (base + a0)), (1, .int a1)]), W p l e (md_rm 5 0 0) s m args below meth c H locs 0 0 Q (F0 m 2 ls []) := by
    intro n_2
    induction n_2 with
    | zero =>
      intro x1 M2 R3 J4 H locs ls h_x1 hm_2 hS hl
      exfalso
      have := (h_a1).1; have := (h_a1).2; have := (h_x1).1; have := (h_x1).2; omega
    | succ n_2 ih_2 =>
      intro x1 M2 R3 J4 H locs ls h_x1 hm_2 hS hl
      have f5 := hS.2.2.1
      have g6 := hS.2.2.2
      refine lv_iload_n hx hb dX12_comesTo_2 rfl (lv_at hl 0 rfl) ?_
      refine lv_bipush (v := 10) hx hb dX12_comesTo_3 (by decide) ?_
      refine lv_icmp_ge (tgt := 31) hx hb dX12_comesTo_5 (by decide) (fun c7 => ?_) (fun c7 => ?_)
      · have q8 : 10 ≤ x1.toInt := ti_le c7
        have h9 : iv 10 10 x1 := iv_geL (y := 10) h_x1 (iv_c (c := 10) (n := 10) (by decide)) q8 (by decide)
        refine lv_aload_n hx hb dX12_comesTo_31 rfl (lv_at hl 1 rfl) ?_
        refine lv_aload_n hx hb dX12_comesTo_32 rfl (lv_at hl 1 rfl) ?_
        refine tw_getr hx hb hW hown hK hS f_X12_45_11 hz_a0 hk_a0 (t := 23) (n := 226) rfl dX12_comesTo_33 (fun b10 k11 hz_b10 hk_b10 hn_b10 => ?_)
        have hn_b10 := hn_b10 (by decide)
        refine lv_iconst (v := 3) hx hb dX12_comesTo_36 (by decide) ?_
        refine tw_iald hx hb hK hS hz_b10 hk_b10 (Or.inr (by decide)) hn_b10 (lo := (-2147483648)) (hi := 2147483647) (iv_c (c := 3) (n := 3) (by decide)) ⟨by decide, by decide⟩ (rg_c (k0 := 3) rfl rfl rfl) dX12_comesTo_37 (fun x14 k13 h12 => ?_)
        refine lv_iload_n hx hb dX12_comesTo_38 rfl (lv_at hl 2 rfl) ?_
        refine tw_iadd (lo := (-2147483648)) (hi := 2147483647) hx hb h12 h_a1 ⟨by decide, by decide⟩ ⟨by decide, by decide⟩ dX12_comesTo_39 (fun x17 e16 h15 => ?_)
        refine tw_puti hx hb hW hown hK hS f_X12_348_11 hz_a0 hk_a0 rfl rfl (lo := (-2147483648)) (hi := 2147483647) rfl h15 rfl dX12_comesTo_40 (fun H locs M20 hS k18 f19 => ?_)
        refine lv_aload_n hx hb dX12_comesTo_43 rfl (lv_at hl 1 rfl) ?_
        refine lv_aload_n hx hb dX12_comesTo_44 rfl (lv_at hl 1 rfl) ?_
        refine tw_getr hx hb hW hown hK hS f_X12_54_11 hz_a0 hk_a0 (t := 31) (n := 8) rfl dX12_comesTo_45 (fun b21 k22 hz_b21 hk_b21 hn_b21 => ?_)
        have hn_b21 := hn_b21 (by decide)
        refine lv_iload_n hx hb dX12_comesTo_48 rfl (lv_at hl 2 rfl) ?_
        refine tw_iald hx hb hK hS hz_b21 hk_b21 (Or.inr (by decide)) hn_b21 (lo := 0) (hi := 11) h_a1 ⟨by decide, by decide⟩ rg_u31 dX12_comesTo_49 (fun x25 k24 h23 => ?_)
        refine lv_iload_n hx hb dX12_comesTo_50 rfl (lv_at hl 2 rfl) ?_
        refine tw_gov hS (md_runV (As := [.int x25, .int a1]) (rest := []) hx hb hml hown hW hK hT hS.1 (t_X12_asks l D cy tx base Z K N M20 R3 J4 hS.2.1 a0 hz_a0 hk_a0 x25 h23 a1 (iv_mono h_a1 (by decide) (by decide)) (Codes.fr co_a0 hTy hz_a0 hk_a0 hS.2.2.1 hS.2.2.2 rfl)) s_X12_396 ⟨rfl, rfl, ⟨Nat.le_of_ble_eq_true rfl, Nat.le_of_ble_eq_true rfl⟩, ⟨Nat.le_of_ble_eq_true rfl, Nat.le_of_ble_eq_true rfl⟩⟩ hz_a0 hk_a0 (by decide) rfl rfl hl.1 rfl (Nat.le_of_ble_eq_true rfl) dX12_comesTo_51) rfl rfl (fun H locs M29 R30 J28 hS f26 g27 E31 => ?_)
        have eR30 := Fr.nil g27 rfl
        subst eR30
        refine lv_aload_n hx hb dX12_comesTo_54 rfl (lv_at hl 1 rfl) ?_
        refine tw_getr hx hb hW hown hK hS f_X12_72_11 hz_a0 hk_a0 (t := 14) (n := 5) rfl dX12_comesTo_55 (fun b32 k33 hz_b32 hk_b32 hn_b32 => ?_)
        have hn_b32 := hn_b32 (by decide)
        refine lv_iload_n hx hb dX12_comesTo_58 rfl (lv_at hl 2 rfl) ?_
        refine lv_aload_n hx hb dX12_comesTo_59 rfl (lv_at hl 1 rfl) ?_
        refine tw_geti hx hb hW hown hK hS f_X12_364_11 hz_a0 hk_a0 (lo := (-2147483648)) (hi := 2147483647) rfl dX12_comesTo_60 (fun x36 k35 h34 => ?_)
        refine tw_iast hx hb hK hS hz_b32 hk_b32 (Or.inl rfl) hn_b32 h_a1 ⟨by decide, by decide⟩ h34 (rg_s14 ⟨by decide, by decide⟩) (jl := 0) (jh := 1999999) ⟨by decide, by decide⟩ rfl dX12_comesTo_63 (fun H locs M39 hS k37 f38 => ?_)
        refine lv_aload_n hx hb dX12_comesTo_64 rfl (lv_at hl 1 rfl) ?_
        refine tw_getr hx hb hW hown hK hS f_X12_75_11 hz_a0 hk_a0 (t := 14) (n := 5) rfl dX12_comesTo_65 (fun b40 k41 hz_b40 hk_b40 hn_b40 => ?_)
        have hn_b40 := hn_b40 (by decide)
        refine lv_iload_n hx hb dX12_comesTo_68 rfl (lv_at hl 2 rfl) ?_
        refine lv_aload_n hx hb dX12_comesTo_69 rfl (lv_at hl 1 rfl) ?_
        refine tw_geti hx hb hW hown hK hS f_X12_367_11 hz_a0 hk_a0 (lo := (-2147483648)) (hi := 2147483647) rfl dX12_comesTo_70 (fun x44 k43 h42 => ?_)
        refine tw_iast hx hb hK hS hz_b40 hk_b40 (Or.inl rfl) hn_b40 h_a1 ⟨by decide, by decide⟩ h42 (rg_s14 ⟨by decide, by decide⟩) (jl := 0) (jh := 1999999) ⟨by decide, by decide⟩ rfl dX12_comesTo_73 (fun H locs M47 hS k45 f46 => ?_)
        refine lv_aload_n hx hb dX12_comesTo_74 rfl (lv_at hl 1 rfl) ?_
        refine tw_getr hx hb hW hown hK hS f_X12_66_11 hz_a0 hk_a0 (t := 41) (n := 5) rfl dX12_comesTo_75 (fun b48 k49 hz_b48 hk_b48 hn_b48 => ?_)
        have hn_b48 := hn_b48 (by decide)
        refine lv_iload_n hx hb dX12_comesTo_78 rfl (lv_at hl 2 rfl) ?_
        refine lv_iconst (v := (-1)) hx hb dX12_comesTo_79 (by decide) ?_
        refine tw_iast hx hb hK hS hz_b48 hk_b48 (Or.inr (by decide)) hn_b48 h_a1 ⟨by decide, by decide⟩ (iv_c (c := (-1)) (n := (-1)) (by decide)) (rg_s41 ⟨by decide, by decide⟩) (jl := 0) (jh := 1999999) ⟨by decide, by decide⟩ rfl dX12_comesTo_80 (fun H locs M52 hS k50 f51 => ?_)
        exact tw_endv hx hb hr hlocks hK hT hS hQ (trivial) dX12_comesTo_81
      · have q53 : x1.toInt < 10 := ti_nle c7
        have h54 : iv 0 9 x1 := iv_ltL (y := 10) h_x1 (iv_c (c := 10) (n := 10) (by decide)) q53 (by decide)
        refine lv_aload_n hx hb dX12_comesTo_8 rfl (lv_at hl 1 rfl) ?_
        refine tw_getr hx hb hW hown hK hS f_X12_63_11 hz_a0 hk_a0 (t := 36) (n := 60) rfl dX12_comesTo_9 (fun b55 k56 hz_b55 hk_b55 hn_b55 => ?_)
        have hn_b55 := hn_b55 (by decide)
        refine lv_bipush (v := 10) hx hb dX12_comesTo_12 (by decide) ?_
        refine lv_iload_n hx hb dX12_comesTo_14 rfl (lv_at hl 2 rfl) ?_
        refine tw_icmul (k := 10) (lo := 0) (hi := 0) hx hb (by decide) h_a1 (by decide) ⟨by decide, by decide⟩ ⟨by decide, by decide⟩ dX12_comesTo_15 (fun x59 e58 h57 => ?_)
        refine lv_iload_n hx hb dX12_comesTo_16 rfl (lv_at hl 0 rfl) ?_
        refine tw_iadd (lo := 0) (hi := 9) hx hb h57 h54 ⟨by decide, by decide⟩ ⟨by decide, by decide⟩ dX12_comesTo_17 (fun x62 e61 h60 => ?_)
        refine lv_aload_n hx hb dX12_comesTo_18 rfl (lv_at hl 1 rfl) ?_
        refine tw_getr hx hb hW hown hK hS f_X12_51_11 hz_a0 hk_a0 (t := 30) (n := 10) rfl dX12_comesTo_19 (fun b63 k64 hz_b63 hk_b63 hn_b63 => ?_)
        have hn_b63 := hn_b63 (by decide)
        refine lv_iload_n hx hb dX12_comesTo_22 rfl (lv_at hl 0 rfl) ?_
        refine tw_iald hx hb hK hS hz_b63 hk_b63 (Or.inr (by decide)) hn_b63 (lo := 0) (hi := 9999) h54 ⟨by decide, by decide⟩ rg_u30 dX12_comesTo_23 (fun x67 k66 h65 => ?_)
        refine tw_iast hx hb hK hS hz_b55 hk_b55 (Or.inr (by decide)) hn_b55 h60 ⟨by decide, by decide⟩ h65 (rg_s36 ⟨by decide, by decide⟩) (jl := 0) (jh := 1999999) ⟨by decide, by decide⟩ rfl dX12_comesTo_24 (fun H locs M70 hS k68 f69 => ?_)
        refine tw_iinc (lv' := fun x73 => [(2, .int x73), (0, .ref (base + a0)), (1, .int a1)]) (lo := 1) (hi := 10) hx hb dX12_comesTo_25 hl (k := 0) rfl h54 (by decide) ⟨by decide, by decide⟩ ⟨by decide, by decide⟩ (by decide) (fun _ => rfl) (fun x73 ls e72 h71 hl => ?_)
        refine lv_goto (tgt := 2) hx hb dX12_comesTo_28 (by decide) ?_
        have hm74 : 10 - x73.toInt < (n_2 : Int) := by
          have := (h_a1).1; have := (h_a1).2; have := (h54).1; have := (h54).2; have := (h60).1; have := (h60).2; have := (h71).1; have := (h71).2; omega
        exact ih_2 x73 M70 R3 J4 H locs _ (iv_mono h71 (by decide) (by decide)) hm74 hS hl
  have hm75 : 10 - (0 : Int32).toInt < (((11 : Nat) : Int) : Int) := by
    have := (h_a1).1; have := (h_a1).2; have : (0 : Int32).toInt = 0 := (by decide); omega
  exact W2_2 11 0 Ma Ra Ja s.heap [] _ (iv_mono (iv_c (c := 0) (n := 0) (by decide)) (by decide) (by decide)) hm75 hS hl
